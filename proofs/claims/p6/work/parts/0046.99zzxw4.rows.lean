section
def EX14_takeRowT : List (Nat × Nat) := [(16, 70), (113, 0)]
def EX14_inCacheT : List (Nat × Nat) := []
set_option maxHeartbeats 4000000 in
set_option maxRecDepth 20000 in
theorem uX14_takeRowT (l : Launch) (dC : Nat → ClassId) (dI : Nat → Nat → Nat) (ca : Nat → ClassId) (base : Nat) (B : jF) (hB : jBok B) (hAp : jAp (dC, dI)) (hB14 : ∀ n G a H, B 14 n G a H ↔ jOb (dC, dI) 14 11 (F14 n G) a H) (hB16 : ∀ n G a H, B 16 n G a H ↔ jOb (dC, dI) 16 74 (F16 n G) a H) (hB113 : ∀ n G a H, B 113 n G a H ↔ jAr (dC, dI) (ca 1) (fun j z => True) n a H) (hB190 : ∀ n G a H, B 190 n G a H ↔ jAr (dC, dI) (ca 1) (fun j z => 0 ≤ z.toInt ∧ z.toInt ≤ 1500) n a H) (hB191 : ∀ n G a H, B 191 n G a H ↔ jAr (dC, dI) (ca 1) (fun j z => 0 ≤ z.toInt ∧ z.toInt ≤ 1500) n a H) (hB194 : ∀ n G a H, B 194 n G a H ↔ jAr (dC, dI) (ca 1) (fun j z => True) n a H) (G0 : jT) (H0 : Heap) (r0 : Nat) (r1 : Nat) (a2 : Int32) (yb : Nat) (ye : Nat) (yt : Nat) (yr : Nat) (sn nn : Int) (fb : Nat → Int32) (fe : Nat → Int32) (ft : Nat → Int32) (fr : Nat → Int32) : Met l yX14_takeRow (jw yX14_takeRow cX14_takeRow 5 none) ({ frames := 0, cells := 0, slots := 0, locals := 0 }) (va_Pc [.ref r0, .ref r1, .int a2] (fun U => U.heap = H0 ∧ jX B base G0 [] H0 ∧ jG dC dI ca base U ∧ G0 r1 = some (14, 0) ∧ G0 r0 = some (16, 0) ∧ G0 yb = some (190, 40) ∧ G0 ye = some (191, 40) ∧ G0 yt = some (194, 1500) ∧ G0 yr = some (113, 1600) ∧ jP (dC, dI) G0 H0 [(r1, 14, 6, .ref yb), (r1, 14, 7, .ref ye), (r1, 14, 3, .ref yt), (r0, 16, 69, .ref yr)] ∧ jMc (dC, dI) G0 H0 [(yb, 190, 40, ca 1, fb), (ye, 191, 40, ca 1, fe), (yt, 194, 1500, ca 1, ft), (yr, 113, 1600, ca 1, fr)] ∧ jSrt fb fe sn 1500 ∧ 0 ≤ a2.toInt ∧ a2.toInt < sn ∧ sn ≤ 40 ∧ jcP ft nn fb fe sn ∧ 0 ≤ nn ∧ nn ≤ 1500)) (va_Qv (S := Int32 × (Nat → Int32)) (fun u => 0 ≤ u.1.toInt ∧ u.1.toInt ≤ 1541 ∧ jcL u.2 (u.1.toInt).toNat 0 = jcR ft nn (a2.toInt + 1).toNat) (fun u t => jRt (dC, dI) B base G0 EX14_takeRowT H0 [(r0, 16, 70, .int u.1)] t.heap ∧ jMc (dC, dI) G0 t.heap [(yr, 113, 1600, ca 1, u.2)]) (jA base)) 0 0 (jA base) := by
  refine Met.ofW (cc := cX14_takeRow) (maxL := 5) (ret := none) (by decide) rfl ?_
  intro p e s m args below meth c s₁ Bd hml hv
  obtain ⟨rfl, hH0, hX, hG, hg_r1, hg_r0, hg_yb, hg_ye, hg_yt, hg_yr, hP0, hM0, hp0, hp1, hp2, hp3, hp4, hp5, hp6⟩ := hv
  have hK := hG.1
  have hx := Bd.exec
  have hb := Bd.bytes
  have hr := Bd.returns
  have hts := atoms_spec (ws := (jw yX14_takeRow cX14_takeRow 5 none)) Bd.pre
  have htw : ∀ w ∈ jWl, w.before _ s = true := fun w h => hts w (List.mem_cons_of_mem _ h)
  have hown : s.vm.findClass RX14 = some m.cls := findClass_of_methodNamed Bd.named
  have hlocks := Bd.notSynchronized
  obtain ⟨Q, hQ⟩ : ∃ Q, Q = MQ below (va_Qv (S := Int32 × (Nat → Int32)) (fun u => 0 ≤ u.1.toInt ∧ u.1.toInt ≤ 1541 ∧ jcL u.2 (u.1.toInt).toNat 0 = jcR ft nn (a2.toInt + 1).toNat) (fun u t => jRt (dC, dI) B base G0 EX14_takeRowT H0 [(r0, 16, 70, .int u.1)] t.heap ∧ jMc (dC, dI) G0 t.heap [(yr, 113, 1600, ca 1, u.2)]) (jA base)) ([.ref r0, .ref r1, .int a2] : List Value).toArray s 0 0 (jA base) := ⟨_, rfl⟩
  rw [← hQ]
  have hl := lv_entry ([.ref r0, .ref r1, .int a2]) (n := 5) (Nat.le_of_ble_eq_true rfl)
  rw [lg_entry_eq]
  generalize (lg_sl ([.ref r0, .ref r1, .int a2]) ++ List.replicate (5 - (lg_sl ([.ref r0, .ref r1, .int a2])).length) Slot.unset).toArray = ls at hl ⊢
  have hl : lv_has ls 5 [(0, .ref r0), (1, .ref r1), (2, .int a2)] := hl
  generalize hR : (headSpec (jw yX14_takeRow cX14_takeRow 5 none) ({ frames := 0, cells := 0, slots := 0, locals := 0 })).room = R
  subst hH0
  have hh : jSt (dC, dI) B base G0 G0 EX14_takeRowT s.heap 0 0 [(r1, 14, 6, .ref yb), (r1, 14, 7, .ref ye), (r1, 14, 3, .ref yt), (r0, 16, 69, .ref yr)] [(yb, 190, 40, ca 1, fb), (ye, 191, 40, ca 1, fe), (yt, 194, 1500, ca 1, ft), (yr, 113, 1600, ca 1, fr)] [] s.heap [] := jSt.start hX hP0 hM0 jIs.nil
  clear hX hP0
  have hkm1 : ((-1) : Int32).toInt = (-1) := by decide
  have hk0 : (0 : Int32).toInt = 0 := by decide
  have hk1 : (1 : Int32).toInt = 1 := by decide
  have hly_14_3 := htw (u_lay RX12 TX12 3) (jWc_wsX120 _ (u_in_lay (by decide)))
  have hly_14_6 := htw (u_lay RX12 TX12 6) (jWc_wsX120 _ (u_in_lay (by decide)))
  have hly_14_7 := htw (u_lay RX12 TX12 7) (jWc_wsX120 _ (u_in_lay (by decide)))
  have hly_16_69 := htw (u_lay RX14 TX14 69) (jWc_wsX140 _ (u_in_lay (by decide)))
  have hly_16_70 := htw (u_lay RX14 TX14 70) (jWc_wsX140 _ (u_in_lay (by decide)))
  have hlk_766 := (htw (.fieldLink RX14 766 "ProofServerModel" "rowLength" "I") (jWr_90 _ (List.mem_of_getElem? (i := 17) rfl)))
  have hlk_596 := (va_Nw.use (A := ([.ref r0, .ref r1, .int a2] : List Value).toArray) rfl (hG.2.1 RX14 596 "ProofServerModel$Document" "begin" "[I" "ProofServerModel" (List.mem_of_getElem? (i := 1739) (by decide +kernel))))
  have hlk_594 := (va_Nw.use (A := ([.ref r0, .ref r1, .int a2] : List Value).toArray) rfl (hG.2.1 RX14 594 "ProofServerModel$Document" "end" "[I" "ProofServerModel" (List.mem_of_getElem? (i := 1741) (by decide +kernel))))
  have hlk_148 := (htw (.fieldLink RX14 148 "ProofServerModel" "row" "[I") (jWr_12 _ (List.mem_of_getElem? (i := 22) rfl)))
  have hlk_529 := (va_Nw.use (A := ([.ref r0, .ref r1, .int a2] : List Value).toArray) rfl (hG.2.1 RX14 529 "ProofServerModel$Document" "text" "[I" "ProofServerModel" (List.mem_of_getElem? (i := 1735) (by decide +kernel))))
  have hrg_a2 := jb_rng a2
  refine lv_aload_n hx hb dX14_takeRow_0 rfl (lv_at hl 0 rfl) ?_
  refine lv_iconst (v := 0) hx hb dX14_takeRow_1 (by decide) ?_
  refine j7_put hx hb hown hK hh hB hAp hB16 (C := RX14) (T := TX14) (N := 74) rfl (by decide) hg_r0 (i := 70) (by decide) hly_16_70 rfl hlk_766 rfl (ty := .int) (v := .int 0) (by decide +kernel) rfl rfl (⟨_, rfl, by omega, by omega⟩) rfl (L1 := [(r1, 14, 6, .ref yb), (r1, 14, 7, .ref ye), (r1, 14, 3, .ref yt), (r0, 16, 69, .ref yr)]) [0, 1, 2, 3] rfl rfl rfl dX14_takeRow_2 (fun H_1 locs_1 hh_1 => ?_)
  clear hh
  refine lv_iconst (v := 0) hx hb dX14_takeRow_5 (by decide) ?_
  refine lv_istore_n (lv' := [(3, .int 0), (0, .ref r0), (1, .ref r1), (2, .int a2)]) hx hb dX14_takeRow_6 rfl hl (by decide) rfl (fun ls hl => ?_)
  have L7 : ∀ (N : Nat) (v3_2 : Int32) (wl_2 : Int32) (fr_2 : Nat → Int32) (H_2 : Heap) (locs_2 : List Loc), jSt (dC, dI) B base G0 G0 EX14_takeRowT s.heap 0 0 [(r0, 16, 70, .int wl_2), (r1, 14, 6, .ref yb), (r1, 14, 7, .ref ye), (r1, 14, 3, .ref yt), (r0, 16, 69, .ref yr)] [(yr, 113, 1600, ca 1, fr_2), (yb, 190, 40, ca 1, fb), (ye, 191, 40, ca 1, fe), (yt, 194, 1500, ca 1, ft)] [] H_2 locs_2 → (0 ≤ v3_2.toInt ∧ v3_2.toInt ≤ a2.toInt + 1 ∧ 0 ≤ wl_2.toInt ∧ wl_2.toInt ≤ 1500 + v3_2.toInt ∧ (v3_2.toInt ≤ a2.toInt → wl_2.toInt ≤ jSo fb v3_2.toInt + v3_2.toInt) ∧ jcL fr_2 (wl_2.toInt).toNat 0 = jcR ft nn (v3_2.toInt).toNat) → (a2.toInt + 1 - v3_2.toInt : Int) < N → ∀ ls : Array Slot, lv_has ls 5 [(0, .ref r0), (1, .ref r1), (2, .int a2), (3, .int v3_2)] → W p l e R s m ([.ref r0, .ref r1, .int a2] : List Value).toArray below meth c H_2 locs_2 0 0 Q (F0 m 7 ls []) := by
    intro N
    induction N with
    | zero => intro v3_2 wl_2 fr_2 H_2 locs_2 hh_2  hi_2 hm; exact absurd hm (by omega)
    | succ N L7 =>
      intro v3_2 wl_2 fr_2 H_2 locs_2 hh_2  hi_2 hm_2 ls hl
      obtain ⟨hi_2_0, hi_2_1, hi_2_2, hi_2_3, hi_2_4, hi_2_5⟩ := hi_2
      refine lv_iload_n hx hb dX14_takeRow_7 rfl (lv_at hl 3 rfl) ?_
      refine lv_iload_n hx hb dX14_takeRow_8 rfl (lv_at hl 2 rfl) ?_
      refine lv_icmp_gt (tgt := 89) hx hb dX14_takeRow_9 (by decide) (fun c_3 => ?_) (fun c_3 => ?_)
      · skip
        have c_3' : v3_2.toInt > a2.toInt := jb_gt (rfl) (rfl) c_3
        rw [hQ]
        exact W.vret hx hb hr (fun t ht hW => ⟨⟨(wl_2, fr_2), rfl, by (try dsimp only); refine ⟨by omega, by omega, ?_⟩; have h9 := hi_2_5; rw [show a2.toInt + 1 = v3_2.toInt by omega]; exact h9, ⟨hh_2.rt (M1 := [(r0, 16, 70, .int wl_2)]) [0] rfl ht, by rw [ht]; exact hh_2.2.2.2.2.2.2.2.1.sub [0] rfl⟩⟩, by rw [ht]; try exact hh_2.1.1, fun q h9 hq => by rw [ht]; try exact hh_2.1.2.1 q h9 hq⟩) hh_2.1.2.2 dX14_takeRow_89
      · skip
        have c_3' : v3_2.toInt ≤ a2.toInt := jb_gt_n (rfl) (rfl) c_3
        obtain ⟨s1, s2, s3, s4⟩ := hp0 v3_2.toInt (by omega) (by omega)
        obtain ⟨t1, t2, t3⟩ := hp4 v3_2.toInt.toNat (by omega)
        rw [show ((v3_2.toInt.toNat : Nat) : Int) = v3_2.toInt by omega] at t1 t2
        refine lv_aload_n hx hb dX14_takeRow_12 rfl (lv_at hl 1 rfl) ?_
        refine j7_readN hx hb hown hK (C := RX12) (T := TX12) (N := 11) rfl hly_14_6 hlk_596 (hh_2.at 1 rfl) dX14_takeRow_13 ?_
        refine lv_iload_n hx hb dX14_takeRow_16 rfl (lv_at hl 3 rfl) ?_
        refine j7_ialdM hx hb hK hh_2 hB190 1 rfl (by decide) hg_yb (x := v3_2.toInt) (rfl) (by omega) (j := 1) rfl dX14_takeRow_17 (fun z_4 ez_4 (hz_4 : 0 ≤ z_4.toInt ∧ z_4.toInt ≤ 1500) => ?_)
        have hqz_4 : z_4.toInt = jSo fb (v3_2.toInt) := by unfold jSo; rw [ez_4]
        refine lv_istore (lv' := [(4, .int z_4), (0, .ref r0), (1, .ref r1), (2, .int a2), (3, .int v3_2)]) hx hb dX14_takeRow_18 hl (by decide) rfl (fun ls hl => ?_)
        have L20 : ∀ (N : Nat) (v4_5 : Int32) (wl_5 : Int32) (fr_5 : Nat → Int32) (H_5 : Heap) (locs_5 : List Loc), jSt (dC, dI) B base G0 G0 EX14_takeRowT s.heap 0 0 [(r0, 16, 70, .int wl_5), (r1, 14, 6, .ref yb), (r1, 14, 7, .ref ye), (r1, 14, 3, .ref yt), (r0, 16, 69, .ref yr)] [(yr, 113, 1600, ca 1, fr_5), (yb, 190, 40, ca 1, fb), (ye, 191, 40, ca 1, fe), (yt, 194, 1500, ca 1, ft)] [] H_5 locs_5 → (jSo fb v3_2.toInt ≤ v4_5.toInt ∧ v4_5.toInt ≤ jSo fe v3_2.toInt ∧ 0 ≤ wl_5.toInt ∧ wl_5.toInt ≤ v4_5.toInt + v3_2.toInt ∧ jcL fr_5 (wl_5.toInt).toNat 0 = jcR ft nn (v3_2.toInt).toNat ++ jcL ft (v4_5.toInt - jSo fb v3_2.toInt).toNat (jSo fb v3_2.toInt)) → (jSo fe v3_2.toInt - v4_5.toInt : Int) < N → ∀ ls : Array Slot, lv_has ls 5 [(0, .ref r0), (1, .ref r1), (2, .int a2), (3, .int v3_2), (4, .int v4_5)] → W p l e R s m ([.ref r0, .ref r1, .int a2] : List Value).toArray below meth c H_5 locs_5 0 0 Q (F0 m 20 ls []) := by
          intro N
          induction N with
          | zero => intro v4_5 wl_5 fr_5 H_5 locs_5 hh_5  hi_5 hm; exact absurd hm (by omega)
          | succ N L20 =>
            intro v4_5 wl_5 fr_5 H_5 locs_5 hh_5  hi_5 hm_5 ls hl
            obtain ⟨hi_5_0, hi_5_1, hi_5_2, hi_5_3, hi_5_4⟩ := hi_5
            refine lv_iload hx hb dX14_takeRow_20 (lv_at hl 4 rfl) ?_
            refine lv_aload_n hx hb dX14_takeRow_22 rfl (lv_at hl 1 rfl) ?_
            refine j7_readN hx hb hown hK (C := RX12) (T := TX12) (N := 11) rfl hly_14_7 hlk_594 (hh_5.at 2 rfl) dX14_takeRow_23 ?_
            refine lv_iload_n hx hb dX14_takeRow_26 rfl (lv_at hl 3 rfl) ?_
            refine j7_ialdM hx hb hK hh_5 hB191 1 rfl (by decide) hg_ye (x := v3_2.toInt) (rfl) (by omega) (j := 2) rfl dX14_takeRow_27 (fun z_6 ez_6 (hz_6 : 0 ≤ z_6.toInt ∧ z_6.toInt ≤ 1500) => ?_)
            have hqz_6 : z_6.toInt = jSo fe (v3_2.toInt) := by unfold jSo; rw [ez_6]
            refine lv_icmp_ge (tgt := 63) hx hb dX14_takeRow_28 (by decide) (fun c_7 => ?_) (fun c_7 => ?_)
            · skip
              have c_7' : v4_5.toInt ≥ z_6.toInt := jb_ge (rfl) (rfl) c_7
              refine lv_aload_n hx hb dX14_takeRow_63 rfl (lv_at hl 0 rfl) ?_
              refine j7_read hx hb hown hK (C := RX14) (T := TX14) (N := 74) rfl hly_16_69 hlk_148 (hh_5.at 4 rfl) dX14_takeRow_64 ?_
              refine lv_aload_n hx hb dX14_takeRow_67 rfl (lv_at hl 0 rfl) ?_
              refine j7_read hx hb hown hK (C := RX14) (T := TX14) (N := 74) rfl hly_16_70 hlk_766 (hh_5.at 0 rfl) dX14_takeRow_68 ?_
              refine lv_iconst (v := (-1)) hx hb dX14_takeRow_71 (by decide) ?_
              refine j7_iastU hx hb hK hh_5 hB hB113 1 rfl (by decide) (by decide) rfl 0 rfl (M1 := [(yb, 190, 40, ca 1, fb), (ye, 191, 40, ca 1, fe), (yt, 194, 1500, ca 1, ft)]) [1, 2, 3] rfl rfl rfl hg_yr (x := wl_5.toInt) (rfl) (by omega) (trivial) dX14_takeRow_72 (fun H_8 locs_8 fs_9 hv_8 ho_8 hh_8 => ?_)
              have hv_8 : jSo fs_9 (wl_5.toInt) = (-1) := by unfold jSo; rw [hv_8]; try exact (by decide)
              clear hh_5
              refine lv_aload_n hx hb dX14_takeRow_73 rfl (lv_at hl 0 rfl) ?_
              refine lv_dup hx hb dX14_takeRow_74 rfl ?_
              refine j7_read hx hb hown hK (C := RX14) (T := TX14) (N := 74) rfl hly_16_70 hlk_766 (hh_8.at 0 rfl) dX14_takeRow_75 ?_
              refine lv_iconst (v := 1) hx hb dX14_takeRow_78 (by decide) ?_
              refine lv_iadd hx hb dX14_takeRow_79 ?_
              refine lv_topi (fun z_10 ez_10 => ?_)
              have hz_10 : z_10.toInt = wl_5.toInt + 1 := by rw [ez_10]; exact jb_iadd2 (rfl) ((by decide)) (by omega)
              refine j7_put hx hb hown hK hh_8 hB hAp hB16 (C := RX14) (T := TX14) (N := 74) rfl (by decide) hg_r0 (i := 70) (by decide) hly_16_70 rfl hlk_766 rfl (ty := .int) (v := .int z_10) (by decide +kernel) rfl rfl (⟨_, rfl, by omega, by omega⟩) rfl (L1 := [(r1, 14, 6, .ref yb), (r1, 14, 7, .ref ye), (r1, 14, 3, .ref yt), (r0, 16, 69, .ref yr)]) [1, 2, 3, 4] rfl rfl rfl dX14_takeRow_80 (fun H_11 locs_11 hh_11 => ?_)
              clear hh_8
              obtain ⟨z_12, ez_12⟩ : ∃ y : Int32, y = v3_2 + 1 := ⟨_, rfl⟩
              refine lv_iinc (v := z_12) (lv' := [(3, .int z_12), (0, .ref r0), (1, .ref r1), (2, .int a2), (4, .int v4_5)]) hx hb dX14_takeRow_83 hl (k := 3) rfl (by rw [ez_12]; rfl) (by decide) rfl (fun ls hl => ?_)
              have hz_12 : z_12.toInt = v3_2.toInt + 1 := by rw [ez_12]; exact jb_iadd2 (rfl) (by decide) (by omega)
              refine lv_goto (tgt := 7) hx hb dX14_takeRow_86 (by decide) ?_
              exact L7 z_12 z_10 fs_9 _ _ hh_11 (⟨(by first | omega | rfl | assumption | (intro _; rw [hk0]; have h9 := (hp0 0 (by omega) (by omega)).1; omega) | (intro h9; rw [show (z_12).toInt = v3_2.toInt + 1 by omega]; have h8 := s4 (by omega); omega) | rfl | exact jcR.nx (N := 1600) hi_5_4 t1 t2 hv_8 ho_8 (by omega) (by omega) (by omega) (by omega) (by omega) (by omega) (by omega)), (by first | omega | rfl | assumption | (intro _; rw [hk0]; have h9 := (hp0 0 (by omega) (by omega)).1; omega) | (intro h9; rw [show (z_12).toInt = v3_2.toInt + 1 by omega]; have h8 := s4 (by omega); omega) | rfl | exact jcR.nx (N := 1600) hi_5_4 t1 t2 hv_8 ho_8 (by omega) (by omega) (by omega) (by omega) (by omega) (by omega) (by omega)), (by first | omega | rfl | assumption | (intro _; rw [hk0]; have h9 := (hp0 0 (by omega) (by omega)).1; omega) | (intro h9; rw [show (z_12).toInt = v3_2.toInt + 1 by omega]; have h8 := s4 (by omega); omega) | rfl | exact jcR.nx (N := 1600) hi_5_4 t1 t2 hv_8 ho_8 (by omega) (by omega) (by omega) (by omega) (by omega) (by omega) (by omega)), (by first | omega | rfl | assumption | (intro _; rw [hk0]; have h9 := (hp0 0 (by omega) (by omega)).1; omega) | (intro h9; rw [show (z_12).toInt = v3_2.toInt + 1 by omega]; have h8 := s4 (by omega); omega) | rfl | exact jcR.nx (N := 1600) hi_5_4 t1 t2 hv_8 ho_8 (by omega) (by omega) (by omega) (by omega) (by omega) (by omega) (by omega)), (by first | assumption | (intro _; rw [hk0]; have h9 := (hp0 0 (by omega) (by omega)).1; omega) | (intro h9; rw [show (z_12).toInt = v3_2.toInt + 1 by omega]; have h8 := s4 (by omega); omega) | rfl | exact jcR.nx (N := 1600) hi_5_4 t1 t2 hv_8 ho_8 (by omega) (by omega) (by omega) (by omega) (by omega) (by omega) (by omega) | omega), (by first | assumption | (intro _; rw [hk0]; have h9 := (hp0 0 (by omega) (by omega)).1; omega) | (intro h9; rw [show (z_12).toInt = v3_2.toInt + 1 by omega]; have h8 := s4 (by omega); omega) | rfl | exact jcR.nx (N := 1600) hi_5_4 t1 t2 hv_8 ho_8 (by omega) (by omega) (by omega) (by omega) (by omega) (by omega) (by omega) | omega)⟩) (by omega) _ (lv_sub hl [1, 2, 3, 0] rfl)
            · skip
              have c_7' : v4_5.toInt < z_6.toInt := jb_ge_n (rfl) (rfl) c_7
              refine lv_aload_n hx hb dX14_takeRow_31 rfl (lv_at hl 0 rfl) ?_
              refine j7_read hx hb hown hK (C := RX14) (T := TX14) (N := 74) rfl hly_16_69 hlk_148 (hh_5.at 4 rfl) dX14_takeRow_32 ?_
              refine lv_aload_n hx hb dX14_takeRow_35 rfl (lv_at hl 0 rfl) ?_
              refine j7_read hx hb hown hK (C := RX14) (T := TX14) (N := 74) rfl hly_16_70 hlk_766 (hh_5.at 0 rfl) dX14_takeRow_36 ?_
              refine lv_aload_n hx hb dX14_takeRow_39 rfl (lv_at hl 1 rfl) ?_
              refine j7_readN hx hb hown hK (C := RX12) (T := TX12) (N := 11) rfl hly_14_3 hlk_529 (hh_5.at 3 rfl) dX14_takeRow_40 ?_
              refine lv_iload hx hb dX14_takeRow_43 (lv_at hl 4 rfl) ?_
              refine j7_ialdM hx hb hK hh_5 hB194 1 rfl (by decide) hg_yt (x := v4_5.toInt) (rfl) (by omega) (j := 3) rfl dX14_takeRow_45 (fun z_13 ez_13 (hz_13 : True) => ?_)
              have hqz_13 : z_13.toInt = jSo ft (v4_5.toInt) := by unfold jSo; rw [ez_13]
              refine j7_iastU hx hb hK hh_5 hB hB113 1 rfl (by decide) (by decide) rfl 0 rfl (M1 := [(yb, 190, 40, ca 1, fb), (ye, 191, 40, ca 1, fe), (yt, 194, 1500, ca 1, ft)]) [1, 2, 3] rfl rfl rfl hg_yr (x := wl_5.toInt) (rfl) (by omega) (trivial) dX14_takeRow_46 (fun H_14 locs_14 fs_15 hv_14 ho_14 hh_14 => ?_)
              have hv_14 : jSo fs_15 (wl_5.toInt) = z_13.toInt := by unfold jSo; rw [hv_14]; try exact rfl
              clear hh_5
              refine lv_aload_n hx hb dX14_takeRow_47 rfl (lv_at hl 0 rfl) ?_
              refine lv_dup hx hb dX14_takeRow_48 rfl ?_
              refine j7_read hx hb hown hK (C := RX14) (T := TX14) (N := 74) rfl hly_16_70 hlk_766 (hh_14.at 0 rfl) dX14_takeRow_49 ?_
              refine lv_iconst (v := 1) hx hb dX14_takeRow_52 (by decide) ?_
              refine lv_iadd hx hb dX14_takeRow_53 ?_
              refine lv_topi (fun z_16 ez_16 => ?_)
              have hz_16 : z_16.toInt = wl_5.toInt + 1 := by rw [ez_16]; exact jb_iadd2 (rfl) ((by decide)) (by omega)
              refine j7_put hx hb hown hK hh_14 hB hAp hB16 (C := RX14) (T := TX14) (N := 74) rfl (by decide) hg_r0 (i := 70) (by decide) hly_16_70 rfl hlk_766 rfl (ty := .int) (v := .int z_16) (by decide +kernel) rfl rfl (⟨_, rfl, by omega, by omega⟩) rfl (L1 := [(r1, 14, 6, .ref yb), (r1, 14, 7, .ref ye), (r1, 14, 3, .ref yt), (r0, 16, 69, .ref yr)]) [1, 2, 3, 4] rfl rfl rfl dX14_takeRow_54 (fun H_17 locs_17 hh_17 => ?_)
              clear hh_14
              obtain ⟨z_18, ez_18⟩ : ∃ y : Int32, y = v4_5 + 1 := ⟨_, rfl⟩
              refine lv_iinc (v := z_18) (lv' := [(4, .int z_18), (0, .ref r0), (1, .ref r1), (2, .int a2), (3, .int v3_2)]) hx hb dX14_takeRow_57 hl (k := 4) rfl (by rw [ez_18]; rfl) (by decide) rfl (fun ls hl => ?_)
              have hz_18 : z_18.toInt = v4_5.toInt + 1 := by rw [ez_18]; exact jb_iadd2 (rfl) (by decide) (by omega)
              refine lv_goto (tgt := 20) hx hb dX14_takeRow_60 (by decide) ?_
              exact L20 z_18 z_16 fs_15 _ _ hh_17 (⟨(by first | omega | rfl | assumption | (rw [show (z_18).toInt - jSo fb v3_2.toInt = 0 by omega]; rw [hi_2_5]; exact (List.append_nil _).symm) | exact jcR.un (N := 1600) hi_5_4 hv_14 ho_14 (by omega) (by omega) (by omega) (by omega) (by omega) hqz_13), (by first | omega | rfl | assumption | (rw [show (z_18).toInt - jSo fb v3_2.toInt = 0 by omega]; rw [hi_2_5]; exact (List.append_nil _).symm) | exact jcR.un (N := 1600) hi_5_4 hv_14 ho_14 (by omega) (by omega) (by omega) (by omega) (by omega) hqz_13), (by first | omega | rfl | assumption | (rw [show (z_18).toInt - jSo fb v3_2.toInt = 0 by omega]; rw [hi_2_5]; exact (List.append_nil _).symm) | exact jcR.un (N := 1600) hi_5_4 hv_14 ho_14 (by omega) (by omega) (by omega) (by omega) (by omega) hqz_13), (by first | omega | rfl | assumption | (rw [show (z_18).toInt - jSo fb v3_2.toInt = 0 by omega]; rw [hi_2_5]; exact (List.append_nil _).symm) | exact jcR.un (N := 1600) hi_5_4 hv_14 ho_14 (by omega) (by omega) (by omega) (by omega) (by omega) hqz_13), (by first | assumption | (rw [show (z_18).toInt - jSo fb v3_2.toInt = 0 by omega]; rw [hi_2_5]; exact (List.append_nil _).symm) | exact jcR.un (N := 1600) hi_5_4 hv_14 ho_14 (by omega) (by omega) (by omega) (by omega) (by omega) hqz_13 | omega)⟩) (by omega) _ (lv_sub hl [1, 2, 3, 4, 0] rfl)
        exact L20 (jSo fe v3_2.toInt - (z_4 : Int32).toInt : Int).toNat.succ z_4 wl_2 fr_2 _ _ hh_2 (⟨(by first | omega | rfl | assumption | (rw [show (z_4).toInt - jSo fb v3_2.toInt = 0 by omega]; rw [hi_2_5]; exact (List.append_nil _).symm) | exact jcR.un (N := 1600) (zz_none) hv_14 ho_14 (by omega) (by omega) (by omega) (by omega) (by omega) hqz_13), (by first | omega | rfl | assumption | (rw [show (z_4).toInt - jSo fb v3_2.toInt = 0 by omega]; rw [hi_2_5]; exact (List.append_nil _).symm) | exact jcR.un (N := 1600) (zz_none) hv_14 ho_14 (by omega) (by omega) (by omega) (by omega) (by omega) hqz_13), (by first | omega | rfl | assumption | (rw [show (z_4).toInt - jSo fb v3_2.toInt = 0 by omega]; rw [hi_2_5]; exact (List.append_nil _).symm) | exact jcR.un (N := 1600) (zz_none) hv_14 ho_14 (by omega) (by omega) (by omega) (by omega) (by omega) hqz_13), (by first | omega | rfl | assumption | (rw [show (z_4).toInt - jSo fb v3_2.toInt = 0 by omega]; rw [hi_2_5]; exact (List.append_nil _).symm) | exact jcR.un (N := 1600) (zz_none) hv_14 ho_14 (by omega) (by omega) (by omega) (by omega) (by omega) hqz_13), (by first | assumption | (rw [show (z_4).toInt - jSo fb v3_2.toInt = 0 by omega]; rw [hi_2_5]; exact (List.append_nil _).symm) | exact jcR.un (N := 1600) (zz_none) hv_14 ho_14 (by omega) (by omega) (by omega) (by omega) (by omega) hqz_13 | omega)⟩) (by omega) _ (lv_sub hl [1, 2, 3, 4, 0] rfl)
  exact L7 (a2.toInt + 1 - (0 : Int32).toInt : Int).toNat.succ 0 0 fr _ _ (hh_1.sub (L1 := [(r0, 16, 70, .int 0), (r1, 14, 6, .ref yb), (r1, 14, 7, .ref ye), (r1, 14, 3, .ref yt), (r0, 16, 69, .ref yr)]) [0, 1, 2, 3, 4] rfl (M1 := [(yr, 113, 1600, ca 1, fr), (yb, 190, 40, ca 1, fb), (ye, 191, 40, ca 1, fe), (yt, 194, 1500, ca 1, ft)]) [3, 0, 1, 2] rfl (I1 := []) [] rfl) (⟨(by first | omega | rfl | assumption | (intro _; rw [hk0]; have h9 := (hp0 0 (by omega) (by omega)).1; omega) | (intro h9; rw [show (0).toInt = (zz_none).toInt + 1 by omega]; have h8 := s4 (by omega); omega) | rfl | exact jcR.nx (N := 1600) (zz_none) t1 t2 (zz_none) (zz_none) (by omega) (by omega) (by omega) (by omega) (by omega) (by omega) (by omega)), (by first | omega | rfl | assumption | (intro _; rw [hk0]; have h9 := (hp0 0 (by omega) (by omega)).1; omega) | (intro h9; rw [show (0).toInt = (zz_none).toInt + 1 by omega]; have h8 := s4 (by omega); omega) | rfl | exact jcR.nx (N := 1600) (zz_none) t1 t2 (zz_none) (zz_none) (by omega) (by omega) (by omega) (by omega) (by omega) (by omega) (by omega)), (by first | omega | rfl | assumption | (intro _; rw [hk0]; have h9 := (hp0 0 (by omega) (by omega)).1; omega) | (intro h9; rw [show (0).toInt = (zz_none).toInt + 1 by omega]; have h8 := s4 (by omega); omega) | rfl | exact jcR.nx (N := 1600) (zz_none) t1 t2 (zz_none) (zz_none) (by omega) (by omega) (by omega) (by omega) (by omega) (by omega) (by omega)), (by first | omega | rfl | assumption | (intro _; rw [hk0]; have h9 := (hp0 0 (by omega) (by omega)).1; omega) | (intro h9; rw [show (0).toInt = (zz_none).toInt + 1 by omega]; have h8 := s4 (by omega); omega) | rfl | exact jcR.nx (N := 1600) (zz_none) t1 t2 (zz_none) (zz_none) (by omega) (by omega) (by omega) (by omega) (by omega) (by omega) (by omega)), (by first | assumption | (intro _; rw [hk0]; have h9 := (hp0 0 (by omega) (by omega)).1; omega) | (intro h9; rw [show (0).toInt = (zz_none).toInt + 1 by omega]; have h8 := s4 (by omega); omega) | rfl | exact jcR.nx (N := 1600) (zz_none) t1 t2 (zz_none) (zz_none) (by omega) (by omega) (by omega) (by omega) (by omega) (by omega) (by omega) | omega), (by first | assumption | (intro _; rw [hk0]; have h9 := (hp0 0 (by omega) (by omega)).1; omega) | (intro h9; rw [show (0).toInt = (zz_none).toInt + 1 by omega]; have h8 := s4 (by omega); omega) | rfl | exact jcR.nx (N := 1600) (zz_none) t1 t2 (zz_none) (zz_none) (by omega) (by omega) (by omega) (by omega) (by omega) (by omega) (by omega) | omega)⟩) (by omega) _ (lv_sub hl [1, 2, 3, 0] rfl)
set_option maxHeartbeats 4000000 in
set_option maxRecDepth 20000 in
theorem uX14_inCacheT (l : Launch) (dC : Nat → ClassId) (dI : Nat → Nat → Nat) (ca : Nat → ClassId) (base : Nat) (B : jF) (hB : jBok B) (hAp : jAp (dC, dI)) (hB16 : ∀ n G a H, B 16 n G a H ↔ jOb (dC, dI) 16 74 (F16 n G) a H) (hB113 : ∀ n G a H, B 113 n G a H ↔ jAr (dC, dI) (ca 1) (fun j z => True) n a H) (hB114 : ∀ n G a H, B 114 n G a H ↔ jAr (dC, dI) (ca 1) (fun j z => True) n a H) (hB205 : ∀ n G a H, B 205 n G a H ↔ jAr (dC, dI) (ca 1) (fun j z => 0 ≤ z.toInt ∧ z.toInt ≤ 1600) n a H) (G0 : jT) (H0 : Heap) (r0 : Nat) (pq : Int32) (pl : Int32) (yr : Nat) (yc : Nat) (yq : Nat) (CC : List (List Int)) (RR : List Int) (fr : Nat → Int32) (fc : Nat → Int32) (fq : Nat → Int32) : Met l yX14_inCache (jw yX14_inCache cX14_inCache 4 (some .int)) ({ frames := 0, cells := 0, slots := 0, locals := 0 }) (va_Pc [.ref r0] (fun U => U.heap = H0 ∧ jX B base G0 [] H0 ∧ jG dC dI ca base U ∧ G0 r0 = some (16, 0) ∧ G0 yr = some (113, 1600) ∧ G0 yc = some (114, 38400) ∧ G0 yq = some (205, 24) ∧ jP (dC, dI) G0 H0 [(r0, 16, 66, .int pq), (r0, 16, 70, .int pl), (r0, 16, 69, .ref yr), (r0, 16, 67, .ref yc), (r0, 16, 68, .ref yq)] ∧ jMc (dC, dI) G0 H0 [(yr, 113, 1600, ca 1, fr), (yc, 114, 38400, ca 1, fc), (yq, 205, 24, ca 1, fq)] ∧ 0 ≤ pq.toInt ∧ pq.toInt ≤ 24 ∧ pq.toInt = (CC.length : Int) ∧ 0 ≤ pl.toInt ∧ pl.toInt ≤ 1600 ∧ jwCh fc fq CC ∧ jcL fr (pl.toInt).toNat 0 = RR)) (va_Qi (S := Unit) (fun r u => (jwIx CC RR r.toInt)) (fun u t => jRt (dC, dI) B base G0 EX14_inCacheT H0 [] t.heap) (jA base)) 0 0 (jA base) := by
  refine Met.ofW (cc := cX14_inCache) (maxL := 4) (ret := (some .int)) (by decide) rfl ?_
  intro p e s m args below meth c s₁ Bd hml hv
  obtain ⟨rfl, hH0, hX, hG, hg_r0, hg_yr, hg_yc, hg_yq, hP0, hM0, hp0, hp1, hp2, hp3, hp4, hp5, hp6⟩ := hv
  have hK := hG.1
  have hx := Bd.exec
  have hb := Bd.bytes
  have hr := Bd.returns
  have hts := atoms_spec (ws := (jw yX14_inCache cX14_inCache 4 (some .int))) Bd.pre
  have htw : ∀ w ∈ jWl, w.before _ s = true := fun w h => hts w (List.mem_cons_of_mem _ h)
  have hown : s.vm.findClass RX14 = some m.cls := findClass_of_methodNamed Bd.named
  have hlocks := Bd.notSynchronized
  obtain ⟨Q, hQ⟩ : ∃ Q, Q = MQ below (va_Qi (S := Unit) (fun r u => (jwIx CC RR r.toInt)) (fun u t => jRt (dC, dI) B base G0 EX14_inCacheT H0 [] t.heap) (jA base)) ([.ref r0] : List Value).toArray s 0 0 (jA base) := ⟨_, rfl⟩
  rw [← hQ]
  have hl := lv_entry ([.ref r0]) (n := 4) (Nat.le_of_ble_eq_true rfl)
  rw [lg_entry_eq]
  generalize (lg_sl ([.ref r0]) ++ List.replicate (4 - (lg_sl ([.ref r0])).length) Slot.unset).toArray = ls at hl ⊢
  have hl : lv_has ls 4 [(0, .ref r0)] := hl
  generalize hR : (headSpec (jw yX14_inCache cX14_inCache 4 (some .int)) ({ frames := 0, cells := 0, slots := 0, locals := 0 })).room = R
  subst hH0
  have hh : jSt (dC, dI) B base G0 G0 EX14_inCacheT s.heap 0 0 [(r0, 16, 66, .int pq), (r0, 16, 70, .int pl), (r0, 16, 69, .ref yr), (r0, 16, 67, .ref yc), (r0, 16, 68, .ref yq)] [(yr, 113, 1600, ca 1, fr), (yc, 114, 38400, ca 1, fc), (yq, 205, 24, ca 1, fq)] [] s.heap [] := jSt.start hX hP0 hM0 jIs.nil
  clear hX hP0
  have hkm1 : ((-1) : Int32).toInt = (-1) := by decide
  have hk0 : (0 : Int32).toInt = 0 := by decide
  have hk1 : (1 : Int32).toInt = 1 := by decide
  have hk1600 : (1600 : Int32).toInt = 1600 := by decide
  have hly_16_66 := htw (u_lay RX14 TX14 66) (jWc_wsX140 _ (u_in_lay (by decide)))
  have hly_16_67 := htw (u_lay RX14 TX14 67) (jWc_wsX140 _ (u_in_lay (by decide)))
  have hly_16_68 := htw (u_lay RX14 TX14 68) (jWc_wsX140 _ (u_in_lay (by decide)))
  have hly_16_69 := htw (u_lay RX14 TX14 69) (jWc_wsX140 _ (u_in_lay (by decide)))
  have hly_16_70 := htw (u_lay RX14 TX14 70) (jWc_wsX140 _ (u_in_lay (by decide)))
  have hlk_769 := (htw (.fieldLink RX14 769 "ProofServerModel" "cached" "I") (jWr_90 _ (List.mem_of_getElem? (i := 22) rfl)))
  have hlk_145 := (htw (.fieldLink RX14 145 "ProofServerModel" "cacheLength" "[I") (jWr_12 _ (List.mem_of_getElem? (i := 21) rfl)))
  have hlk_766 := (htw (.fieldLink RX14 766 "ProofServerModel" "rowLength" "I") (jWr_90 _ (List.mem_of_getElem? (i := 17) rfl)))
  have hlk_142 := (htw (.fieldLink RX14 142 "ProofServerModel" "cacheUnits" "[I") (jWr_12 _ (List.mem_of_getElem? (i := 20) rfl)))
  have hlk_148 := (htw (.fieldLink RX14 148 "ProofServerModel" "row" "[I") (jWr_12 _ (List.mem_of_getElem? (i := 22) rfl)))
  refine lv_iconst (v := 0) hx hb dX14_inCache_0 (by decide) ?_
  refine lv_istore_n (lv' := [(1, .int 0), (0, .ref r0)]) hx hb dX14_inCache_1 rfl hl (by decide) rfl (fun ls hl => ?_)
  have L2 : ∀ (N : Nat) (v1_1 : Int32) (H_1 : Heap) (locs_1 : List Loc), jSt (dC, dI) B base G0 G0 EX14_inCacheT s.heap 0 0 [(r0, 16, 66, .int pq), (r0, 16, 70, .int pl), (r0, 16, 69, .ref yr), (r0, 16, 67, .ref yc), (r0, 16, 68, .ref yq)] [(yr, 113, 1600, ca 1, fr), (yc, 114, 38400, ca 1, fc), (yq, 205, 24, ca 1, fq)] [] H_1 locs_1 → (0 ≤ v1_1.toInt ∧ v1_1.toInt ≤ pq.toInt ∧ jwIp CC RR v1_1.toInt) → (pq.toInt - v1_1.toInt : Int) < N → ∀ ls : Array Slot, lv_has ls 4 [(0, .ref r0), (1, .int v1_1)] → W p l e R s m ([.ref r0] : List Value).toArray below meth c H_1 locs_1 0 0 Q (F0 m 2 ls []) := by
    intro N
    induction N with
    | zero => intro v1_1 H_1 locs_1 hh_1  hi_1 hm; exact absurd hm (by omega)
    | succ N L2 =>
      intro v1_1 H_1 locs_1 hh_1  hi_1 hm_1 ls hl
      obtain ⟨hi_1_0, hi_1_1, hi_1_2⟩ := hi_1
      refine lv_iload_n hx hb dX14_inCache_2 rfl (lv_at hl 1 rfl) ?_
      refine lv_aload_n hx hb dX14_inCache_3 rfl (lv_at hl 0 rfl) ?_
      refine j7_read hx hb hown hK (C := RX14) (T := TX14) (N := 74) rfl hly_16_66 hlk_769 (hh_1.at 0 rfl) dX14_inCache_4 ?_
      refine lv_icmp_ge (tgt := 88) hx hb dX14_inCache_7 (by decide) (fun c_2 => ?_) (fun c_2 => ?_)
      · skip
        have c_2' : v1_1.toInt ≥ pq.toInt := jb_ge (rfl) (rfl) c_2
        refine lv_iconst (v := (-1)) hx hb dX14_inCache_88 (by decide) ?_
        rw [hQ]
        exact W.iret (v := (-1)) hx hb hr (fun t ht hW => ⟨⟨(-1), (), rfl, hi_1_2.all (by omega) hkm1, hh_1.rt (M1 := []) [] rfl ht⟩, by rw [ht]; try exact hh_1.1.1, fun q h9 hq => by rw [ht]; try exact hh_1.1.2.1 q h9 hq⟩) hh_1.1.2.2 dX14_inCache_89
      · skip
        have c_2' : v1_1.toInt < pq.toInt := jb_ge_n (rfl) (rfl) c_2
        refine lv_aload_n hx hb dX14_inCache_10 rfl (lv_at hl 0 rfl) ?_
        refine j7_read hx hb hown hK (C := RX14) (T := TX14) (N := 74) rfl hly_16_68 hlk_145 (hh_1.at 4 rfl) dX14_inCache_11 ?_
        refine lv_iload_n hx hb dX14_inCache_14 rfl (lv_at hl 1 rfl) ?_
        refine j7_ialdM hx hb hK hh_1 hB205 1 rfl (by decide) hg_yq (x := v1_1.toInt) (rfl) (by omega) (j := 2) rfl dX14_inCache_15 (fun z_3 ez_3 (hz_3 : 0 ≤ z_3.toInt ∧ z_3.toInt ≤ 1600) => ?_)
        have hqz_3 : z_3.toInt = jSo fq (v1_1.toInt) := by unfold jSo; rw [ez_3]
        refine lv_aload_n hx hb dX14_inCache_16 rfl (lv_at hl 0 rfl) ?_
        refine j7_read hx hb hown hK (C := RX14) (T := TX14) (N := 74) rfl hly_16_70 hlk_766 (hh_1.at 1 rfl) dX14_inCache_17 ?_
        have C28 : ∀ (w0_4 : Int32) (H_4 : Heap) (locs_4 : List Loc), jSt (dC, dI) B base G0 G0 EX14_inCacheT s.heap 0 0 [(r0, 16, 66, .int pq), (r0, 16, 70, .int pl), (r0, 16, 69, .ref yr), (r0, 16, 67, .ref yc), (r0, 16, 68, .ref yq)] [(yr, 113, 1600, ca 1, fr), (yc, 114, 38400, ca 1, fc), (yq, 205, 24, ca 1, fq)] [] H_4 locs_4 → (w0_4 = 0 ∨ w0_4 = 1) → (w0_4.toInt = (if jSo fq v1_1.toInt = pl.toInt then 1 else 0)) → ∀ ls : Array Slot, lv_has ls 4 [(0, .ref r0), (1, .int v1_1)] → W p l e R s m ([.ref r0] : List Value).toArray below meth c H_4 locs_4 0 0 Q (F0 m 28 ls [.int w0_4]) := by
          intro w0_4 H_4 locs_4 hh_4 hb_w0_4 hi_4 ls hl
          have hb_w0_4' := jb_01 hb_w0_4
          refine lv_istore_n (lv' := [(2, .int w0_4), (0, .ref r0), (1, .int v1_1)]) hx hb dX14_inCache_28 rfl hl (by decide) rfl (fun ls hl => ?_)
          refine lv_iconst (v := 0) hx hb dX14_inCache_29 (by decide) ?_
          refine lv_istore_n (lv' := [(3, .int 0), (2, .int w0_4), (0, .ref r0), (1, .int v1_1)]) hx hb dX14_inCache_30 rfl hl (by decide) rfl (fun ls hl => ?_)
          have L31 : ∀ (N : Nat) (v2_5 : Int32) (v3_5 : Int32) (H_5 : Heap) (locs_5 : List Loc), jSt (dC, dI) B base G0 G0 EX14_inCacheT s.heap 0 0 [(r0, 16, 66, .int pq), (r0, 16, 70, .int pl), (r0, 16, 69, .ref yr), (r0, 16, 67, .ref yc), (r0, 16, 68, .ref yq)] [(yr, 113, 1600, ca 1, fr), (yc, 114, 38400, ca 1, fc), (yq, 205, 24, ca 1, fq)] [] H_5 locs_5 → (v2_5 = 0 ∨ v2_5 = 1) → (0 ≤ v3_5.toInt ∧ v3_5.toInt ≤ 1600 ∧ jwSa fc fq fr v1_1.toInt pl.toInt v2_5.toInt v3_5.toInt) → (((pl.toInt - v3_5.toInt).toNat : Int) : Int) < N → ∀ ls : Array Slot, lv_has ls 4 [(0, .ref r0), (1, .int v1_1), (2, .int v2_5), (3, .int v3_5)] → W p l e R s m ([.ref r0] : List Value).toArray below meth c H_5 locs_5 0 0 Q (F0 m 31 ls []) := by
            intro N
            induction N with
            | zero => intro v2_5 v3_5 H_5 locs_5 hh_5 hb_v2_5 hi_5 hm; exact absurd hm (by omega)
            | succ N L31 =>
              intro v2_5 v3_5 H_5 locs_5 hh_5 hb_v2_5 hi_5 hm_5 ls hl
              obtain ⟨hi_5_0, hi_5_1, hi_5_2⟩ := hi_5
              have hb_v2_5' := jb_01 hb_v2_5
              refine lv_iload_n hx hb dX14_inCache_31 rfl (lv_at hl 3 rfl) ?_
              refine lv_aload_n hx hb dX14_inCache_32 rfl (lv_at hl 0 rfl) ?_
              refine j7_read hx hb hown hK (C := RX14) (T := TX14) (N := 74) rfl hly_16_70 hlk_766 (hh_5.at 1 rfl) dX14_inCache_33 ?_
              refine lv_icmp_ge (tgt := 76) hx hb dX14_inCache_36 (by decide) (fun c_6 => ?_) (fun c_6 => ?_)
              · skip
                have c_6' : v3_5.toInt ≥ pl.toInt := jb_ge (rfl) (rfl) c_6
                refine lv_iload_n hx hb dX14_inCache_76 rfl (lv_at hl 2 rfl) ?_
                refine lv_if_eq (tgt := 82) hx hb dX14_inCache_77 (by decide) (fun c_7 => ?_) (fun c_7 => ?_)
                · skip
                  have c_7' : v2_5.toInt = 0 := jb_eq (rfl) ((by decide)) c_7
                  obtain ⟨z_8, ez_8⟩ : ∃ y : Int32, y = v1_1 + 1 := ⟨_, rfl⟩
                  refine lv_iinc (v := z_8) (lv' := [(1, .int z_8), (0, .ref r0), (2, .int v2_5), (3, .int v3_5)]) hx hb dX14_inCache_82 hl (k := 1) rfl (by rw [ez_8]; rfl) (by decide) rfl (fun ls hl => ?_)
                  have hz_8 : z_8.toInt = v1_1.toInt + 1 := by rw [ez_8]; exact jb_iadd2 (rfl) (by decide) (by omega)
                  refine lv_goto (tgt := 2) hx hb dX14_inCache_85 (by decide) ?_
                  exact L2 z_8 _ _ hh_5 (⟨by omega, by omega, jwSa.no hi_5_2 (by omega) hp5 hp6 (by omega) (by omega) hi_1_2 (by omega)⟩) (by omega) _ (lv_sub hl [1, 0] rfl)
                · skip
                  have c_7' : v2_5.toInt ≠ 0 := jb_eq_n (rfl) ((by decide)) c_7
                  refine lv_iload_n hx hb dX14_inCache_80 rfl (lv_at hl 1 rfl) ?_
                  rw [hQ]
                  exact W.iret (v := v1_1) hx hb hr (fun t ht hW => ⟨⟨v1_1, (), rfl, jwSa.yes hi_5_2 (by omega) (by omega) hp5 hp6 (by omega) (by omega) (by omega) hi_1_2 rfl, hh_5.rt (M1 := []) [] rfl ht⟩, by rw [ht]; try exact hh_5.1.1, fun q h9 hq => by rw [ht]; try exact hh_5.1.2.1 q h9 hq⟩) hh_5.1.2.2 dX14_inCache_81
              · skip
                have c_6' : v3_5.toInt < pl.toInt := jb_ge_n (rfl) (rfl) c_6
                refine lv_iload_n hx hb dX14_inCache_39 rfl (lv_at hl 2 rfl) ?_
                refine lv_if_eq (tgt := 76) hx hb dX14_inCache_40 (by decide) (fun c_9 => ?_) (fun c_9 => ?_)
                · skip
                  have c_9' : v2_5.toInt = 0 := jb_eq (rfl) ((by decide)) c_9
                  refine lv_iload_n hx hb dX14_inCache_76 rfl (lv_at hl 2 rfl) ?_
                  refine lv_if_eq (tgt := 82) hx hb dX14_inCache_77 (by decide) (fun c_10 => ?_) (fun c_10 => ?_)
                  · skip
                    have c_10' : v2_5.toInt = 0 := jb_eq (rfl) ((by decide)) c_10
                    obtain ⟨z_11, ez_11⟩ : ∃ y : Int32, y = v1_1 + 1 := ⟨_, rfl⟩
                    refine lv_iinc (v := z_11) (lv' := [(1, .int z_11), (0, .ref r0), (2, .int v2_5), (3, .int v3_5)]) hx hb dX14_inCache_82 hl (k := 1) rfl (by rw [ez_11]; rfl) (by decide) rfl (fun ls hl => ?_)
                    have hz_11 : z_11.toInt = v1_1.toInt + 1 := by rw [ez_11]; exact jb_iadd2 (rfl) (by decide) (by omega)
                    refine lv_goto (tgt := 2) hx hb dX14_inCache_85 (by decide) ?_
                    exact L2 z_11 _ _ hh_5 (⟨by omega, by omega, jwSa.no hi_5_2 (by omega) hp5 hp6 (by omega) (by omega) hi_1_2 (by omega)⟩) (by omega) _ (lv_sub hl [1, 0] rfl)
                  · skip
                    have c_10' : v2_5.toInt ≠ 0 := jb_eq_n (rfl) ((by decide)) c_10
                    exact (by omega : False).elim
                · skip
                  have c_9' : v2_5.toInt ≠ 0 := jb_eq_n (rfl) ((by decide)) c_9
                  refine lv_aload_n hx hb dX14_inCache_43 rfl (lv_at hl 0 rfl) ?_
                  refine j7_read hx hb hown hK (C := RX14) (T := TX14) (N := 74) rfl hly_16_67 hlk_142 (hh_5.at 3 rfl) dX14_inCache_44 ?_
                  refine lv_sipush (v := 1600) hx hb dX14_inCache_47 (by decide) ?_
                  refine lv_iload_n hx hb dX14_inCache_50 rfl (lv_at hl 1 rfl) ?_
                  refine lv_imul hx hb dX14_inCache_51 ?_
                  refine lv_topi (fun z_12 ez_12 => ?_)
                  have hz_12 : z_12.toInt = 1600 * v1_1.toInt := by rw [ez_12]; exact jb_imul2 ((by decide)) (rfl) (by omega)
                  refine lv_iload_n hx hb dX14_inCache_52 rfl (lv_at hl 3 rfl) ?_
                  refine lv_iadd hx hb dX14_inCache_53 ?_
                  refine lv_topi (fun z_13 ez_13 => ?_)
                  have hz_13 : z_13.toInt = z_12.toInt + v3_5.toInt := by rw [ez_13]; exact jb_iadd2 (rfl) (rfl) (by omega)
                  refine j7_ialdM hx hb hK hh_5 hB114 1 rfl (by decide) hg_yc (x := z_13.toInt) (rfl) (by omega) (j := 1) rfl dX14_inCache_54 (fun z_14 ez_14 (hz_14 : True) => ?_)
                  have hqz_14 : z_14.toInt = jSo fc (((1600 * v1_1.toInt) + v3_5.toInt)) := by unfold jSo; rw [ez_14, show z_13.toInt = ((1600 * v1_1.toInt) + v3_5.toInt) by omega]
                  refine lv_aload_n hx hb dX14_inCache_55 rfl (lv_at hl 0 rfl) ?_
                  refine j7_read hx hb hown hK (C := RX14) (T := TX14) (N := 74) rfl hly_16_69 hlk_148 (hh_5.at 2 rfl) dX14_inCache_56 ?_
                  refine lv_iload_n hx hb dX14_inCache_59 rfl (lv_at hl 3 rfl) ?_
                  refine j7_ialdM hx hb hK hh_5 hB113 1 rfl (by decide) hg_yr (x := v3_5.toInt) (rfl) (by omega) (j := 0) rfl dX14_inCache_60 (fun z_15 ez_15 (hz_15 : True) => ?_)
                  have hqz_15 : z_15.toInt = jSo fr (v3_5.toInt) := by unfold jSo; rw [ez_15]
                  refine lv_icmp_ne (tgt := 68) hx hb dX14_inCache_61 (by decide) (fun c_16 => ?_) (fun c_16 => ?_)
                  · skip
                    have c_16' : z_14.toInt ≠ z_15.toInt := jb_ne (rfl) (rfl) c_16
                    refine lv_iconst (v := 0) hx hb dX14_inCache_68 (by decide) ?_
                    refine lv_istore_n (lv' := [(2, .int 0), (0, .ref r0), (1, .int v1_1), (3, .int v3_5)]) hx hb dX14_inCache_69 rfl hl (by decide) rfl (fun ls hl => ?_)
                    obtain ⟨z_17, ez_17⟩ : ∃ y : Int32, y = v3_5 + 1 := ⟨_, rfl⟩
                    refine lv_iinc (v := z_17) (lv' := [(3, .int z_17), (2, .int 0), (0, .ref r0), (1, .int v1_1)]) hx hb dX14_inCache_70 hl (k := 3) rfl (by rw [ez_17]; rfl) (by decide) rfl (fun ls hl => ?_)
                    have hz_17 : z_17.toInt = v3_5.toInt + 1 := by rw [ez_17]; exact jb_iadd2 (rfl) (by decide) (by omega)
                    refine lv_goto (tgt := 31) hx hb dX14_inCache_73 (by decide) ?_
                    exact L31 0 z_17 _ _ hh_5 (Or.inl rfl) (⟨by omega, by omega, jwSa.n (by omega) hqz_14 hqz_15 (by omega) (by omega) (by omega) (by omega)⟩) (by omega) _ (lv_sub hl [2, 3, 1, 0] rfl)
                  · skip
                    have c_16' : z_14.toInt = z_15.toInt := jb_ne_n (rfl) (rfl) c_16
                    refine lv_iconst (v := 1) hx hb dX14_inCache_64 (by decide) ?_
                    refine lv_goto (tgt := 69) hx hb dX14_inCache_65 (by decide) ?_
                    refine lv_istore_n (lv' := [(2, .int 1), (0, .ref r0), (1, .int v1_1), (3, .int v3_5)]) hx hb dX14_inCache_69 rfl hl (by decide) rfl (fun ls hl => ?_)
                    obtain ⟨z_18, ez_18⟩ : ∃ y : Int32, y = v3_5 + 1 := ⟨_, rfl⟩
                    refine lv_iinc (v := z_18) (lv' := [(3, .int z_18), (2, .int 1), (0, .ref r0), (1, .int v1_1)]) hx hb dX14_inCache_70 hl (k := 3) rfl (by rw [ez_18]; rfl) (by decide) rfl (fun ls hl => ?_)
                    have hz_18 : z_18.toInt = v3_5.toInt + 1 := by rw [ez_18]; exact jb_iadd2 (rfl) (by decide) (by omega)
                    refine lv_goto (tgt := 31) hx hb dX14_inCache_73 (by decide) ?_
                    exact L31 1 z_18 _ _ hh_5 (Or.inr rfl) (⟨by omega, by omega, jwSa.y hi_5_2 (by omega) (by omega) hqz_14 hqz_15 (by omega) (by omega) (by omega)⟩) (by omega) _ (lv_sub hl [2, 3, 1, 0] rfl)
          exact L31 (((pl.toInt - (0 : Int32).toInt).toNat : Int) : Int).toNat.succ w0_4 0 _ _ hh_4 (hb_w0_4) (⟨by omega, by omega, by rw [hk0]; exact jwSa.st hi_4⟩) (by omega) _ (lv_sub hl [2, 3, 1, 0] rfl)
        refine lv_icmp_ne (tgt := 27) hx hb dX14_inCache_20 (by decide) (fun c_19 => ?_) (fun c_19 => ?_)
        · skip
          have c_19' : z_3.toInt ≠ pl.toInt := jb_ne (rfl) (rfl) c_19
          refine lv_iconst (v := 0) hx hb dX14_inCache_27 (by decide) ?_
          exact C28 0 _ _ hh_1 (Or.inl rfl) (by first | omega | rfl | assumption | (rw [if_pos (by rw [← hqz_3]; omega)]) | (rw [if_neg (by rw [← hqz_3]; omega)])) _ (lv_sub hl [0, 1] rfl)
        · skip
          have c_19' : z_3.toInt = pl.toInt := jb_ne_n (rfl) (rfl) c_19
          refine lv_iconst (v := 1) hx hb dX14_inCache_23 (by decide) ?_
          refine lv_goto (tgt := 28) hx hb dX14_inCache_24 (by decide) ?_
          exact C28 1 _ _ hh_1 (Or.inr rfl) (by first | omega | rfl | assumption | (rw [if_pos (by rw [← hqz_3]; omega)]) | (rw [if_neg (by rw [← hqz_3]; omega)])) _ (lv_sub hl [0, 1] rfl)
  exact L2 (pq.toInt - (0 : Int32).toInt : Int).toNat.succ 0 _ _ hh (⟨by omega, by omega, fun i h => by have h9 := hk0; omega⟩) (by omega) _ (lv_sub hl [1, 0] rfl)
end
section
-- p8: what is told of some fields of the reference (written by mkhent.py)
abbrev jFHd : List (Nat × Nat) := [(16, 41), (16, 42), (201, 0)]
def jHd (dC : Nat → ClassId) (dI : Nat → Nat → Nat) (ca : Nat → ClassId) (G : jT) (r : Nat) (fd : Nat → Option Nat) (dc : Int32) (H : Heap) : Prop := ∃ (yfd : Nat), (∃ n, G r = some (16, n)) ∧ (G yfd = some (201, 3)) ∧ jP (dC, dI) G H [(r, 16, 41, .ref yfd), (r, 16, 42, .int dc)] ∧ jMc (dC, dI) G H [] ∧ (jQc dC dI (ca 4) yfd 3 fd H) ∧ (True)
theorem jHd.ie {dC : Nat → ClassId} {dI : Nat → Nat → Nat} {ca : Nat → ClassId} {G : jT} {r : Nat} {fd : Nat → Option Nat} {dc : Int32} {H : Heap} (h : jHd dC dI ca G r fd dc H) : ((jFHd, jHd dC dI ca G r fd dc) : jIv).2 H ∧ ∀ H1 H2 : Heap, jAg (dC, dI) G ((jFHd, jHd dC dI ca G r fd dc) : jIv).1 H1 H2 → ((jFHd, jHd dC dI ca G r fd dc) : jIv).2 H1 → ((jFHd, jHd dC dI ca G r fd dc) : jIv).2 H2 := by
  refine ⟨h, fun H1 H2 hA hq => ?_⟩
  obtain ⟨yfd, ⟨n, hr⟩, g0, hP, hM, hQ, hR⟩ := hq
  refine ⟨yfd, ⟨n, hr⟩, g0, fun z hz => ?_, fun z hz => ?_, va_at.kept (show va_at (dC, dI) vwCl (yfd, .inl (ca 4, 3, .inr (.inr (.inr (.inr fd))))) H1 from hQ) (hA.2 _ _ _ g0 (by omega) (by omega) rfl), hR⟩
  · obtain ⟨q1, q2⟩ := hP z hz
    refine ⟨q1, ?_⟩
    simp only [List.mem_cons, List.not_mem_nil, or_false] at hz
    rcases hz with rfl | rfl
    · exact hA.1 r 16 n 41 _ hr rfl q2
    · exact hA.1 r 16 n 42 _ hr rfl q2
  · exact absurd hz (by simp)
abbrev jFHo : List (Nat × Nat) := [(16, 46), (16, 47), (16, 71)]
def jHo (dC : Nat → ClassId) (dI : Nat → Nat → Nat) (ca : Nat → ClassId) (G : jT) (r : Nat) (ol : Nat) (nw : Nat) (td : Nat) (H : Heap) : Prop := (∃ n, G r = some (16, n)) ∧ (G ol = some (14, 0) ∧ G nw = some (14, 0) ∧ G td = some (14, 0)) ∧ jP (dC, dI) G H [(r, 16, 46, .ref ol), (r, 16, 47, .ref nw), (r, 16, 71, .ref td)] ∧ jMc (dC, dI) G H [] ∧ (True) ∧ (ol ≠ nw)
theorem jHo.ie {dC : Nat → ClassId} {dI : Nat → Nat → Nat} {ca : Nat → ClassId} {G : jT} {r : Nat} {ol : Nat} {nw : Nat} {td : Nat} {H : Heap} (h : jHo dC dI ca G r ol nw td H) : ((jFHo, jHo dC dI ca G r ol nw td) : jIv).2 H ∧ ∀ H1 H2 : Heap, jAg (dC, dI) G ((jFHo, jHo dC dI ca G r ol nw td) : jIv).1 H1 H2 → ((jFHo, jHo dC dI ca G r ol nw td) : jIv).2 H1 → ((jFHo, jHo dC dI ca G r ol nw td) : jIv).2 H2 := by
  refine ⟨h, fun H1 H2 hA hq => ?_⟩
  obtain ⟨⟨n, hr⟩, ⟨g0, g1, g2⟩, hP, hM, hQ, hR⟩ := hq
  refine ⟨⟨n, hr⟩, ⟨g0, g1, g2⟩, fun z hz => ?_, fun z hz => ?_, trivial, hR⟩
  · obtain ⟨q1, q2⟩ := hP z hz
    refine ⟨q1, ?_⟩
    simp only [List.mem_cons, List.not_mem_nil, or_false] at hz
    rcases hz with rfl | rfl | rfl
    · exact hA.1 r 16 n 46 _ hr rfl q2
    · exact hA.1 r 16 n 47 _ hr rfl q2
    · exact hA.1 r 16 n 71 _ hr rfl q2
  · exact absurd hz (by simp)
abbrev jFHc : List (Nat × Nat) := [(16, 60), (16, 61), (16, 62), (115, 0), (207, 0), (208, 0)]
def jHc (dC : Nat → ClassId) (dI : Nat → Nat → Nat) (ca : Nat → ClassId) (G : jT) (r : Nat) (co : Nat → Option Nat) (cs : Nat → Int32) (cl : Nat → Int32) (H : Heap) : Prop := ∃ (ycs : Nat) (ycl : Nat) (yco : Nat), (∃ n, G r = some (16, n)) ∧ (G ycs = some (207, 2) ∧ G ycl = some (115, 2) ∧ G yco = some (208, 2)) ∧ jP (dC, dI) G H [(r, 16, 61, .ref ycs), (r, 16, 62, .ref ycl), (r, 16, 60, .ref yco)] ∧ jMc (dC, dI) G H [(ycs, 207, 2, ca 1, cs), (ycl, 115, 2, ca 1, cl)] ∧ (jQc dC dI (ca 4) yco 2 co H) ∧ (True)
theorem jHc.ie {dC : Nat → ClassId} {dI : Nat → Nat → Nat} {ca : Nat → ClassId} {G : jT} {r : Nat} {co : Nat → Option Nat} {cs : Nat → Int32} {cl : Nat → Int32} {H : Heap} (h : jHc dC dI ca G r co cs cl H) : ((jFHc, jHc dC dI ca G r co cs cl) : jIv).2 H ∧ ∀ H1 H2 : Heap, jAg (dC, dI) G ((jFHc, jHc dC dI ca G r co cs cl) : jIv).1 H1 H2 → ((jFHc, jHc dC dI ca G r co cs cl) : jIv).2 H1 → ((jFHc, jHc dC dI ca G r co cs cl) : jIv).2 H2 := by
  refine ⟨h, fun H1 H2 hA hq => ?_⟩
  obtain ⟨ycs, ycl, yco, ⟨n, hr⟩, ⟨g0, g1, g2⟩, hP, hM, hQ, hR⟩ := hq
  refine ⟨ycs, ycl, yco, ⟨n, hr⟩, ⟨g0, g1, g2⟩, fun z hz => ?_, fun z hz => ?_, va_at.kept (show va_at (dC, dI) vwCl (yco, .inl (ca 4, 2, .inr (.inr (.inr (.inr co))))) H1 from hQ) (hA.2 _ _ _ g2 (by omega) (by omega) rfl), hR⟩
  · obtain ⟨q1, q2⟩ := hP z hz
    refine ⟨q1, ?_⟩
    simp only [List.mem_cons, List.not_mem_nil, or_false] at hz
    rcases hz with rfl | rfl | rfl
    · exact hA.1 r 16 n 61 _ hr rfl q2
    · exact hA.1 r 16 n 62 _ hr rfl q2
    · exact hA.1 r 16 n 60 _ hr rfl q2
  · obtain ⟨q1, q2, q3, q4⟩ := hM z hz
    refine ⟨q1, q2, q3, q4.kept (hA.2 _ _ _ q1 q2 q3 ?_)⟩
    simp only [List.mem_cons, List.not_mem_nil, or_false] at hz
    rcases hz with rfl | rfl
    · rfl
    · rfl
abbrev jFHw : List (Nat × Nat) := [(16, 48), (16, 49), (16, 51), (16, 52), (16, 53), (16, 54), (16, 55), (104, 0), (116, 0), (126, 0), (202, 0), (203, 0), (206, 0)]
def jHw (dC : Nat → ClassId) (dI : Nat → Nat → Nat) (ca : Nat → ClassId) (G : jT) (r : Nat) (WW : List jwA) (H : Heap) : Prop := ∃ (ywd : Nat) (yws : Nat) (ywi : Nat) (ywu : Nat) (ywe : Nat) (ywo : Nat) (wn : Int32) (wd : Nat → Int32) (ws : Nat → Int32) (wi : Nat → Int32) (wu : Nat → Int32) (we : Nat → Int32) (wo : Nat → Option Nat), (∃ n, G r = some (16, n)) ∧ (G ywd = some (206, 12) ∧ G yws = some (104, 12) ∧ G ywi = some (116, 12) ∧ G ywu = some (126, 240) ∧ G ywe = some (203, 12) ∧ G ywo = some (202, 12)) ∧ jP (dC, dI) G H [(r, 16, 51, .ref ywd), (r, 16, 52, .ref yws), (r, 16, 53, .ref ywi), (r, 16, 54, .ref ywu), (r, 16, 55, .ref ywe), (r, 16, 49, .ref ywo), (r, 16, 48, .int wn)] ∧ jMc (dC, dI) G H [(ywd, 206, 12, ca 1, wd), (yws, 104, 12, ca 3, ws), (ywi, 116, 12, ca 1, wi), (ywu, 126, 240, ca 1, wu), (ywe, 203, 12, ca 1, we)] ∧ (jQc dC dI (ca 4) ywo 12 wo H) ∧ (jwWr wn.toInt wo wd ws wi wu we WW)
theorem jHw.ie {dC : Nat → ClassId} {dI : Nat → Nat → Nat} {ca : Nat → ClassId} {G : jT} {r : Nat} {WW : List jwA} {H : Heap} (h : jHw dC dI ca G r WW H) : ((jFHw, jHw dC dI ca G r WW) : jIv).2 H ∧ ∀ H1 H2 : Heap, jAg (dC, dI) G ((jFHw, jHw dC dI ca G r WW) : jIv).1 H1 H2 → ((jFHw, jHw dC dI ca G r WW) : jIv).2 H1 → ((jFHw, jHw dC dI ca G r WW) : jIv).2 H2 := by
  refine ⟨h, fun H1 H2 hA hq => ?_⟩
  obtain ⟨ywd, yws, ywi, ywu, ywe, ywo, wn, wd, ws, wi, wu, we, wo, ⟨n, hr⟩, ⟨g0, g1, g2, g3, g4, g5⟩, hP, hM, hQ, hR⟩ := hq
  refine ⟨ywd, yws, ywi, ywu, ywe, ywo, wn, wd, ws, wi, wu, we, wo, ⟨n, hr⟩, ⟨g0, g1, g2, g3, g4, g5⟩, fun z hz => ?_, fun z hz => ?_, va_at.kept (show va_at (dC, dI) vwCl (ywo, .inl (ca 4, 12, .inr (.inr (.inr (.inr wo))))) H1 from hQ) (hA.2 _ _ _ g5 (by omega) (by omega) rfl), hR⟩
  · obtain ⟨q1, q2⟩ := hP z hz
    refine ⟨q1, ?_⟩
    simp only [List.mem_cons, List.not_mem_nil, or_false] at hz
    rcases hz with rfl | rfl | rfl | rfl | rfl | rfl | rfl
    · exact hA.1 r 16 n 51 _ hr rfl q2
    · exact hA.1 r 16 n 52 _ hr rfl q2
    · exact hA.1 r 16 n 53 _ hr rfl q2
    · exact hA.1 r 16 n 54 _ hr rfl q2
    · exact hA.1 r 16 n 55 _ hr rfl q2
    · exact hA.1 r 16 n 49 _ hr rfl q2
    · exact hA.1 r 16 n 48 _ hr rfl q2
  · obtain ⟨q1, q2, q3, q4⟩ := hM z hz
    refine ⟨q1, q2, q3, q4.kept (hA.2 _ _ _ q1 q2 q3 ?_)⟩
    simp only [List.mem_cons, List.not_mem_nil, or_false] at hz
    rcases hz with rfl | rfl | rfl | rfl | rfl
    · rfl
    · rfl
    · rfl
    · rfl
    · rfl
abbrev jFHk : List (Nat × Nat) := [(16, 66), (16, 67), (16, 68), (114, 0), (205, 0)]
def jHk (dC : Nat → ClassId) (dI : Nat → Nat → Nat) (ca : Nat → ClassId) (G : jT) (r : Nat) (CC : List (List Int)) (H : Heap) : Prop := ∃ (ycu : Nat) (yce : Nat) (cn : Int32) (cu : Nat → Int32) (ce : Nat → Int32), (∃ n, G r = some (16, n)) ∧ (G ycu = some (114, 38400) ∧ G yce = some (205, 24)) ∧ jP (dC, dI) G H [(r, 16, 67, .ref ycu), (r, 16, 68, .ref yce), (r, 16, 66, .int cn)] ∧ jMc (dC, dI) G H [(ycu, 114, 38400, ca 1, cu), (yce, 205, 24, ca 1, ce)] ∧ (True) ∧ (cn.toInt = (CC.length : Int) ∧ CC.length ≤ 24 ∧ jwCh cu ce CC)
theorem jHk.ie {dC : Nat → ClassId} {dI : Nat → Nat → Nat} {ca : Nat → ClassId} {G : jT} {r : Nat} {CC : List (List Int)} {H : Heap} (h : jHk dC dI ca G r CC H) : ((jFHk, jHk dC dI ca G r CC) : jIv).2 H ∧ ∀ H1 H2 : Heap, jAg (dC, dI) G ((jFHk, jHk dC dI ca G r CC) : jIv).1 H1 H2 → ((jFHk, jHk dC dI ca G r CC) : jIv).2 H1 → ((jFHk, jHk dC dI ca G r CC) : jIv).2 H2 := by
  refine ⟨h, fun H1 H2 hA hq => ?_⟩
  obtain ⟨ycu, yce, cn, cu, ce, ⟨n, hr⟩, ⟨g0, g1⟩, hP, hM, hQ, hR⟩ := hq
  refine ⟨ycu, yce, cn, cu, ce, ⟨n, hr⟩, ⟨g0, g1⟩, fun z hz => ?_, fun z hz => ?_, trivial, hR⟩
  · obtain ⟨q1, q2⟩ := hP z hz
    refine ⟨q1, ?_⟩
    simp only [List.mem_cons, List.not_mem_nil, or_false] at hz
    rcases hz with rfl | rfl | rfl
    · exact hA.1 r 16 n 67 _ hr rfl q2
    · exact hA.1 r 16 n 68 _ hr rfl q2
    · exact hA.1 r 16 n 66 _ hr rfl q2
  · obtain ⟨q1, q2, q3, q4⟩ := hM z hz
    refine ⟨q1, q2, q3, q4.kept (hA.2 _ _ _ q1 q2 q3 ?_)⟩
    simp only [List.mem_cons, List.not_mem_nil, or_false] at hz
    rcases hz with rfl | rfl
    · rfl
    · rfl
abbrev jFHh : List (Nat × Nat) := [(13, 10), (212, 0)]
def jHh (dC : Nat → ClassId) (dI : Nat → Nat → Nat) (ca : Nat → ClassId) (G : jT) (r : Nat) (ho : Nat → Option Nat) (H : Heap) : Prop := ∃ (yho : Nat), (∃ n, G r = some (13, n)) ∧ (G yho = some (212, 2)) ∧ jP (dC, dI) G H [(r, 13, 10, .ref yho)] ∧ jMc (dC, dI) G H [] ∧ (jQc dC dI (ca 5) yho 2 ho H) ∧ (True)
theorem jHh.ie {dC : Nat → ClassId} {dI : Nat → Nat → Nat} {ca : Nat → ClassId} {G : jT} {r : Nat} {ho : Nat → Option Nat} {H : Heap} (h : jHh dC dI ca G r ho H) : ((jFHh, jHh dC dI ca G r ho) : jIv).2 H ∧ ∀ H1 H2 : Heap, jAg (dC, dI) G ((jFHh, jHh dC dI ca G r ho) : jIv).1 H1 H2 → ((jFHh, jHh dC dI ca G r ho) : jIv).2 H1 → ((jFHh, jHh dC dI ca G r ho) : jIv).2 H2 := by
  refine ⟨h, fun H1 H2 hA hq => ?_⟩
  obtain ⟨yho, ⟨n, hr⟩, g0, hP, hM, hQ, hR⟩ := hq
  refine ⟨yho, ⟨n, hr⟩, g0, fun z hz => ?_, fun z hz => ?_, va_at.kept (show va_at (dC, dI) vwCl (yho, .inl (ca 5, 2, .inr (.inr (.inr (.inr ho))))) H1 from hQ) (hA.2 _ _ _ g0 (by omega) (by omega) rfl), hR⟩
  · obtain ⟨q1, q2⟩ := hP z hz
    refine ⟨q1, ?_⟩
    simp only [List.mem_cons, List.not_mem_nil, or_false] at hz
    rcases hz with rfl
    · exact hA.1 r 13 n 10 _ hr rfl q2
  · exact absurd hz (by simp)
end
