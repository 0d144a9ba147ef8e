section
def EX14_isSameT : List (Nat × Nat) := []
def EX14_sameT : List (Nat × Nat) := [(14, 4), (14, 5), (190, 0), (191, 0), (192, 0), (194, 0)]
def EX14_settleChecksT : List (Nat × Nat) := [(14, 5), (14, 9), (190, 0), (191, 0), (192, 0), (208, 0)]
set_option maxHeartbeats 4000000 in
set_option maxRecDepth 20000 in
theorem uX14_isSameT (l : Launch) (dC : Nat → ClassId) (dI : Nat → Nat → Nat) (ca : Nat → ClassId) (base : Nat) (B : jF) (hB : jBok B) (hAp : jAp (dC, dI)) (hB14 : ∀ n G a H, B 14 n G a H ↔ jOb (dC, dI) 14 11 (F14 n G) a H) (hB190 : ∀ n G a H, B 190 n G a H ↔ jAr (dC, dI) (ca 1) (fun j z => 0 ≤ z.toInt ∧ z.toInt ≤ 1500) n a H) (hB191 : ∀ n G a H, B 191 n G a H ↔ jAr (dC, dI) (ca 1) (fun j z => 0 ≤ z.toInt ∧ z.toInt ≤ 1500) n a H) (hB192 : ∀ n G a H, B 192 n G a H ↔ jAr (dC, dI) (ca 1) (fun j z => 0 ≤ z.toInt ∧ z.toInt ≤ 2) n a H) (hB194 : ∀ n G a H, B 194 n G a H ↔ jAr (dC, dI) (ca 1) (fun j z => True) n a H) (G0 : jT) (H0 : Heap) (r0 : Nat) (a1 : Int32) (r2 : Nat) (a3 : Int32) (yb : Nat) (ye : Nat) (yt : Nat) (yl : Nat) (zb : Nat) (ze : Nat) (zt_ : Nat) (zl_ : Nat) (nn mm : Int) (fb : Nat → Int32) (fe : Nat → Int32) (ft : Nat → Int32) (fl : Nat → Int32) (gb : Nat → Int32) (ge : Nat → Int32) (gt : Nat → Int32) (gl : Nat → Int32) : Met l yX14_isSame (jw yX14_isSame cX14_isSame 6 (some .boolean)) ({ frames := 0, cells := 0, slots := 0, locals := 0 }) (va_Pc [.ref r0, .int a1, .ref r2, .int a3] (fun U => U.heap = H0 ∧ jX B base G0 [] H0 ∧ jG dC dI ca base U ∧ G0 r0 = some (14, 0) ∧ G0 r2 = some (14, 0) ∧ G0 yb = some (190, 40) ∧ G0 ye = some (191, 40) ∧ G0 yt = some (194, 1500) ∧ G0 yl = some (192, 40) ∧ G0 zb = some (190, 40) ∧ G0 ze = some (191, 40) ∧ G0 zt_ = some (194, 1500) ∧ G0 zl_ = some (192, 40) ∧ jP (dC, dI) G0 H0 [(r0, 14, 6, .ref yb), (r0, 14, 7, .ref ye), (r0, 14, 3, .ref yt), (r0, 14, 8, .ref yl), (r2, 14, 6, .ref zb), (r2, 14, 7, .ref ze), (r2, 14, 3, .ref zt_), (r2, 14, 8, .ref zl_)] ∧ jMc (dC, dI) G0 H0 [(yb, 190, 40, ca 1, fb), (ye, 191, 40, ca 1, fe), (yt, 194, 1500, ca 1, ft), (yl, 192, 40, ca 1, fl), (zb, 190, 40, ca 1, gb), (ze, 191, 40, ca 1, ge), (zt_, 194, 1500, ca 1, gt), (zl_, 192, 40, ca 1, gl)] ∧ 0 ≤ a1.toInt ∧ a1.toInt ≤ 39 ∧ a3.toInt = a1.toInt ∧ (0 ≤ nn ∧ nn ≤ 1500) ∧ (0 ≤ mm ∧ mm ≤ 1500) ∧ jSo fb a1.toInt = jcB ft nn (a1.toInt).toNat ∧ jSo fe a1.toInt = jcE ft nn (a1.toInt).toNat ∧ jSo fl a1.toInt = jcF ft nn (a1.toInt).toNat ∧ jcB ft nn (a1.toInt).toNat < nn ∧ jSo gb a1.toInt = jcB gt mm (a1.toInt).toNat ∧ jSo ge a1.toInt = jcE gt mm (a1.toInt).toNat ∧ jSo gl a1.toInt = jcF gt mm (a1.toInt).toNat ∧ jcB gt mm (a1.toInt).toNat < mm)) (va_Qi (S := Unit) (fun r u => (r = 0 ∨ r = 1) ∧ (((r.toInt = 1 ∧ jcU ft nn (a1.toInt).toNat = jcU gt mm (a1.toInt).toNat) ∨ (r.toInt = 0 ∧ ¬ jcU ft nn (a1.toInt).toNat = jcU gt mm (a1.toInt).toNat)))) (fun u t => jRt (dC, dI) B base G0 EX14_isSameT H0 [] t.heap) (jA base)) 0 0 (jA base) := by
  refine Met.ofW (cc := cX14_isSame) (maxL := 6) (ret := (some .boolean)) (by decide) rfl ?_
  intro p e s m args below meth c s₁ Bd hml hv
  obtain ⟨rfl, hH0, hX, hG, hg_r0, hg_r2, hg_yb, hg_ye, hg_yt, hg_yl, hg_zb, hg_ze, hg_zt_, hg_zl_, hP0, hM0, hp0, hp1, hp2, hp3, hp4, hp5, hp6, hp7, hp8, hp9, hp10, hp11, hp12⟩ := hv
  have hK := hG.1
  have hx := Bd.exec
  have hb := Bd.bytes
  have hr := Bd.returns
  have hts := atoms_spec (ws := (jw yX14_isSame cX14_isSame 6 (some .boolean))) Bd.pre
  have htw : ∀ w ∈ jWl, w.before _ s = true := fun w h => hts w (List.mem_cons_of_mem _ h)
  have hown : s.vm.findClass RX14 = some m.cls := findClass_of_methodNamed Bd.named
  have hlocks := Bd.notSynchronized
  obtain ⟨Q, hQ⟩ : ∃ Q, Q = MQ below (va_Qi (S := Unit) (fun r u => (r = 0 ∨ r = 1) ∧ (((r.toInt = 1 ∧ jcU ft nn (a1.toInt).toNat = jcU gt mm (a1.toInt).toNat) ∨ (r.toInt = 0 ∧ ¬ jcU ft nn (a1.toInt).toNat = jcU gt mm (a1.toInt).toNat)))) (fun u t => jRt (dC, dI) B base G0 EX14_isSameT H0 [] t.heap) (jA base)) ([.ref r0, .int a1, .ref r2, .int a3] : List Value).toArray s 0 0 (jA base) := ⟨_, rfl⟩
  rw [← hQ]
  have hl := lv_entry ([.ref r0, .int a1, .ref r2, .int a3]) (n := 6) (Nat.le_of_ble_eq_true rfl)
  rw [lg_entry_eq]
  generalize (lg_sl ([.ref r0, .int a1, .ref r2, .int a3]) ++ List.replicate (6 - (lg_sl ([.ref r0, .int a1, .ref r2, .int a3])).length) Slot.unset).toArray = ls at hl ⊢
  have hl : lv_has ls 6 [(0, .ref r0), (1, .int a1), (2, .ref r2), (3, .int a3)] := hl
  generalize hR : (headSpec (jw yX14_isSame cX14_isSame 6 (some .boolean)) ({ frames := 0, cells := 0, slots := 0, locals := 0 })).room = R
  subst hH0
  have hh : jSt (dC, dI) B base G0 G0 EX14_isSameT s.heap 0 0 [(r0, 14, 6, .ref yb), (r0, 14, 7, .ref ye), (r0, 14, 3, .ref yt), (r0, 14, 8, .ref yl), (r2, 14, 6, .ref zb), (r2, 14, 7, .ref ze), (r2, 14, 3, .ref zt_), (r2, 14, 8, .ref zl_)] [(yb, 190, 40, ca 1, fb), (ye, 191, 40, ca 1, fe), (yt, 194, 1500, ca 1, ft), (yl, 192, 40, ca 1, fl), (zb, 190, 40, ca 1, gb), (ze, 191, 40, ca 1, ge), (zt_, 194, 1500, ca 1, gt), (zl_, 192, 40, ca 1, gl)] [] s.heap [] := jSt.start hX hP0 hM0 jIs.nil
  clear hX hP0
  have hk0 : (0 : Int32).toInt = 0 := by decide
  have hk1 : (1 : Int32).toInt = 1 := by decide
  have hly_14_3 := htw (u_lay RX12 TX12 3) (jWc_wsX120 _ (u_in_lay (by decide)))
  have hly_14_6 := htw (u_lay RX12 TX12 6) (jWc_wsX120 _ (u_in_lay (by decide)))
  have hly_14_7 := htw (u_lay RX12 TX12 7) (jWc_wsX120 _ (u_in_lay (by decide)))
  have hly_14_8 := htw (u_lay RX12 TX12 8) (jWc_wsX120 _ (u_in_lay (by decide)))
  have hlk_594 := (va_Nw.use (A := ([.ref r0, .int a1, .ref r2, .int a3] : List Value).toArray) rfl (hG.2.1 RX14 594 "ProofServerModel$Document" "end" "[I" "ProofServerModel" (List.mem_of_getElem? (i := 1741) (by decide +kernel))))
  have hlk_596 := (va_Nw.use (A := ([.ref r0, .int a1, .ref r2, .int a3] : List Value).toArray) rfl (hG.2.1 RX14 596 "ProofServerModel$Document" "begin" "[I" "ProofServerModel" (List.mem_of_getElem? (i := 1739) (by decide +kernel))))
  have hlk_599 := (va_Nw.use (A := ([.ref r0, .int a1, .ref r2, .int a3] : List Value).toArray) rfl (hG.2.1 RX14 599 "ProofServerModel$Document" "flaw" "[I" "ProofServerModel" (List.mem_of_getElem? (i := 1743) (by decide +kernel))))
  have hlk_529 := (va_Nw.use (A := ([.ref r0, .int a1, .ref r2, .int a3] : List Value).toArray) rfl (hG.2.1 RX14 529 "ProofServerModel$Document" "text" "[I" "ProofServerModel" (List.mem_of_getElem? (i := 1735) (by decide +kernel))))
  have hrg_a1 := jb_rng a1
  have hrg_a3 := jb_rng a3
  have hp3a := hp3.1
  have hp4a := hp4.1
  have hce := jcE.rg hp8
  have hcf := jcE.rg hp12
  have hcb := jcB.nn (f := ft) hp3.1 a1.toInt.toNat
  have hcc := jcB.nn (f := gt) hp4.1 a1.toInt.toNat
  have he31 : a3.toInt = a1.toInt := hp2
  refine lv_aload_n hx hb dX14_isSame_0 rfl (lv_at hl 0 rfl) ?_
  refine j7_readN hx hb hown hK (C := RX12) (T := TX12) (N := 11) rfl hly_14_7 hlk_594 (hh.at 1 rfl) dX14_isSame_1 ?_
  refine lv_iload_n hx hb dX14_isSame_4 rfl (lv_at hl 1 rfl) ?_
  refine j7_ialdM hx hb hK hh hB191 1 rfl (by decide) hg_ye (x := a1.toInt) (rfl) (by omega) (j := 1) rfl dX14_isSame_5 (fun z_1 ez_1 (hz_1 : 0 ≤ z_1.toInt ∧ z_1.toInt ≤ 1500) => ?_)
  have hqz_1 : z_1.toInt = jSo fe (a1.toInt) := by unfold jSo; rw [ez_1]
  refine lv_aload_n hx hb dX14_isSame_6 rfl (lv_at hl 0 rfl) ?_
  refine j7_readN hx hb hown hK (C := RX12) (T := TX12) (N := 11) rfl hly_14_6 hlk_596 (hh.at 0 rfl) dX14_isSame_7 ?_
  refine lv_iload_n hx hb dX14_isSame_10 rfl (lv_at hl 1 rfl) ?_
  refine j7_ialdM hx hb hK hh hB190 1 rfl (by decide) hg_yb (x := a1.toInt) (rfl) (by omega) (j := 0) rfl dX14_isSame_11 (fun z_2 ez_2 (hz_2 : 0 ≤ z_2.toInt ∧ z_2.toInt ≤ 1500) => ?_)
  have hqz_2 : z_2.toInt = jSo fb (a1.toInt) := by unfold jSo; rw [ez_2]
  refine lv_isub hx hb dX14_isSame_12 ?_
  refine lv_topi (fun z_3 ez_3 => ?_)
  have hz_3 : z_3.toInt = z_1.toInt - z_2.toInt := by rw [ez_3]; exact jb_isub2 (rfl) (rfl) (by omega)
  refine lv_istore (lv' := [(4, .int z_3), (0, .ref r0), (1, .int a1), (2, .ref r2), (3, .int a3)]) hx hb dX14_isSame_13 hl (by decide) rfl (fun ls hl => ?_)
  refine lv_aload_n hx hb dX14_isSame_15 rfl (lv_at hl 3 rfl) ?_
  refine j7_readN hx hb hown hK (C := RX12) (T := TX12) (N := 11) rfl hly_14_7 hlk_594 (hh.at 5 rfl) dX14_isSame_16 ?_
  refine lv_iload_n hx hb dX14_isSame_19 rfl (lv_at hl 4 rfl) ?_
  refine j7_ialdM hx hb hK hh hB191 1 rfl (by decide) hg_ze (x := a3.toInt) (rfl) (by omega) (j := 5) rfl dX14_isSame_20 (fun z_4 ez_4 (hz_4 : 0 ≤ z_4.toInt ∧ z_4.toInt ≤ 1500) => ?_)
  have hqz_4 : z_4.toInt = jSo ge (a3.toInt) := by unfold jSo; rw [ez_4]
  refine lv_aload_n hx hb dX14_isSame_21 rfl (lv_at hl 3 rfl) ?_
  refine j7_readN hx hb hown hK (C := RX12) (T := TX12) (N := 11) rfl hly_14_6 hlk_596 (hh.at 4 rfl) dX14_isSame_22 ?_
  refine lv_iload_n hx hb dX14_isSame_25 rfl (lv_at hl 4 rfl) ?_
  refine j7_ialdM hx hb hK hh hB190 1 rfl (by decide) hg_zb (x := a3.toInt) (rfl) (by omega) (j := 4) rfl dX14_isSame_26 (fun z_5 ez_5 (hz_5 : 0 ≤ z_5.toInt ∧ z_5.toInt ≤ 1500) => ?_)
  have hqz_5 : z_5.toInt = jSo gb (a3.toInt) := by unfold jSo; rw [ez_5]
  refine lv_isub hx hb dX14_isSame_27 ?_
  refine lv_topi (fun z_6 ez_6 => ?_)
  have hz_6 : z_6.toInt = z_4.toInt - z_5.toInt := by rw [ez_6]; exact jb_isub2 (rfl) (rfl) (by omega)
  refine lv_iload hx hb dX14_isSame_28 (lv_at hl 0 rfl) ?_
  have hq20 := hqz_4
  have hq26 := hqz_5
  rw [he31] at hq20 hq26
  refine lv_icmp_ne (tgt := 48) hx hb dX14_isSame_30 (by decide) (fun c_7 => ?_) (fun c_7 => ?_)
  · skip
    have c_7' : z_6.toInt ≠ z_3.toInt := jb_ne (rfl) (rfl) c_7
    refine lv_iconst (v := 0) hx hb dX14_isSame_48 (by decide) ?_
    rw [hQ]
    exact W.zret (v := 0) hx hb hr (jb_nz (Or.inl rfl)) (fun t ht hW => ⟨⟨0, (), rfl, ⟨(Or.inl rfl), by refine Or.inr ⟨hk0, fun e9 => ?_⟩; have h9 := (jcU.sm hp8 hp12 e9).1; have q1 := hqz_1; have q2 := hqz_2; omega⟩, hh.rt (M1 := []) [] rfl ht⟩, by rw [ht]; try exact hh.1.1, fun q h9 hq => by rw [ht]; try exact hh.1.2.1 q h9 hq⟩) hh.1.2.2 dX14_isSame_49
  · skip
    have c_7' : z_6.toInt = z_3.toInt := jb_ne_n (rfl) (rfl) c_7
    have q1 := hqz_1
    have q2 := hqz_2
    have hlen9 : jcE ft nn a1.toInt.toNat - jcB ft nn a1.toInt.toNat = jcE gt mm a1.toInt.toNat - jcB gt mm a1.toInt.toNat := by omega
    refine lv_aload_n hx hb dX14_isSame_33 rfl (lv_at hl 1 rfl) ?_
    refine j7_readN hx hb hown hK (C := RX12) (T := TX12) (N := 11) rfl hly_14_8 hlk_599 (hh.at 3 rfl) dX14_isSame_34 ?_
    refine lv_iload_n hx hb dX14_isSame_37 rfl (lv_at hl 2 rfl) ?_
    refine j7_ialdM hx hb hK hh hB192 1 rfl (by decide) hg_yl (x := a1.toInt) (rfl) (by omega) (j := 3) rfl dX14_isSame_38 (fun z_8 ez_8 (hz_8 : 0 ≤ z_8.toInt ∧ z_8.toInt ≤ 2) => ?_)
    have hqz_8 : z_8.toInt = jSo fl (a1.toInt) := by unfold jSo; rw [ez_8]
    refine lv_aload_n hx hb dX14_isSame_39 rfl (lv_at hl 3 rfl) ?_
    refine j7_readN hx hb hown hK (C := RX12) (T := TX12) (N := 11) rfl hly_14_8 hlk_599 (hh.at 7 rfl) dX14_isSame_40 ?_
    refine lv_iload_n hx hb dX14_isSame_43 rfl (lv_at hl 4 rfl) ?_
    refine j7_ialdM hx hb hK hh hB192 1 rfl (by decide) hg_zl_ (x := a3.toInt) (rfl) (by omega) (j := 7) rfl dX14_isSame_44 (fun z_9 ez_9 (hz_9 : 0 ≤ z_9.toInt ∧ z_9.toInt ≤ 2) => ?_)
    have hqz_9 : z_9.toInt = jSo gl (a3.toInt) := by unfold jSo; rw [ez_9]
    refine lv_icmp_eq (tgt := 50) hx hb dX14_isSame_45 (by decide) (fun c_10 => ?_) (fun c_10 => ?_)
    · skip
      have c_10' : z_8.toInt = z_9.toInt := jb_eq (rfl) (rfl) c_10
      refine lv_iconst (v := 0) hx hb dX14_isSame_50 (by decide) ?_
      refine lv_istore (lv' := [(5, .int 0), (4, .int z_3), (0, .ref r0), (1, .int a1), (2, .ref r2), (3, .int a3)]) hx hb dX14_isSame_51 hl (by decide) rfl (fun ls hl => ?_)
      have L53 : ∀ (N : Nat) (v5_11 : Int32) (H_11 : Heap) (locs_11 : List Loc), jSt (dC, dI) B base G0 G0 EX14_isSameT s.heap 0 0 [(r0, 14, 6, .ref yb), (r0, 14, 7, .ref ye), (r0, 14, 3, .ref yt), (r0, 14, 8, .ref yl), (r2, 14, 6, .ref zb), (r2, 14, 7, .ref ze), (r2, 14, 3, .ref zt_), (r2, 14, 8, .ref zl_)] [(yb, 190, 40, ca 1, fb), (ye, 191, 40, ca 1, fe), (yt, 194, 1500, ca 1, ft), (yl, 192, 40, ca 1, fl), (zb, 190, 40, ca 1, gb), (ze, 191, 40, ca 1, ge), (zt_, 194, 1500, ca 1, gt), (zl_, 192, 40, ca 1, gl)] [] H_11 locs_11 → (0 ≤ v5_11.toInt ∧ v5_11.toInt ≤ z_3.toInt ∧ z_3.toInt = jcE ft nn (a1.toInt).toNat - jcB ft nn (a1.toInt).toNat ∧ (∀ x : Int, 0 ≤ x → x < v5_11.toInt → jSo ft (jcB ft nn (a1.toInt).toNat + x) = jSo gt (jcB gt mm (a1.toInt).toNat + x))) → (z_3.toInt - v5_11.toInt : Int) < N → ∀ ls : Array Slot, lv_has ls 6 [(0, .ref r0), (1, .int a1), (2, .ref r2), (3, .int a3), (4, .int z_3), (5, .int v5_11)] → W p l e R s m ([.ref r0, .int a1, .ref r2, .int a3] : List Value).toArray below meth c H_11 locs_11 0 0 Q (F0 m 53 ls []) := by
        intro N
        induction N with
        | zero => intro v5_11 H_11 locs_11 hh_11  hi_11 hm; exact absurd hm (by omega)
        | succ N L53 =>
          intro v5_11 H_11 locs_11 hh_11  hi_11 hm_11 ls hl
          obtain ⟨hi_11_0, hi_11_1, hi_11_2, hi_11_3⟩ := hi_11
          refine lv_iload hx hb dX14_isSame_53 (lv_at hl 5 rfl) ?_
          refine lv_iload hx hb dX14_isSame_55 (lv_at hl 4 rfl) ?_
          refine lv_icmp_ge (tgt := 99) hx hb dX14_isSame_57 (by decide) (fun c_12 => ?_) (fun c_12 => ?_)
          · skip
            have c_12' : v5_11.toInt ≥ z_3.toInt := jb_ge (rfl) (rfl) c_12
            refine lv_iconst (v := 1) hx hb dX14_isSame_99 (by decide) ?_
            rw [hQ]
            exact W.zret (v := 1) hx hb hr (jb_nz (Or.inr rfl)) (fun t ht hW => ⟨⟨1, (), rfl, ⟨(Or.inr rfl), Or.inl ⟨hk1, jcU.eqv (z := (z_1.toInt - z_2.toInt)) (by omega) (by omega) rfl rfl (fun x x0 x1 => hi_11_3 x x0 (by omega))⟩⟩, hh_11.rt (M1 := []) [] rfl ht⟩, by rw [ht]; try exact hh_11.1.1, fun q h9 hq => by rw [ht]; try exact hh_11.1.2.1 q h9 hq⟩) hh_11.1.2.2 dX14_isSame_100
          · skip
            have c_12' : v5_11.toInt < z_3.toInt := jb_ge_n (rfl) (rfl) c_12
            refine lv_aload_n hx hb dX14_isSame_60 rfl (lv_at hl 0 rfl) ?_
            refine j7_readN hx hb hown hK (C := RX12) (T := TX12) (N := 11) rfl hly_14_3 hlk_529 (hh_11.at 2 rfl) dX14_isSame_61 ?_
            refine lv_aload_n hx hb dX14_isSame_64 rfl (lv_at hl 0 rfl) ?_
            refine j7_readN hx hb hown hK (C := RX12) (T := TX12) (N := 11) rfl hly_14_6 hlk_596 (hh_11.at 0 rfl) dX14_isSame_65 ?_
            refine lv_iload_n hx hb dX14_isSame_68 rfl (lv_at hl 1 rfl) ?_
            refine j7_ialdM hx hb hK hh_11 hB190 1 rfl (by decide) hg_yb (x := a1.toInt) (rfl) (by omega) (j := 0) rfl dX14_isSame_69 (fun z_13 ez_13 (hz_13 : 0 ≤ z_13.toInt ∧ z_13.toInt ≤ 1500) => ?_)
            have hqz_13 : z_13.toInt = jSo fb (a1.toInt) := by unfold jSo; rw [ez_13]
            refine lv_iload hx hb dX14_isSame_70 (lv_at hl 5 rfl) ?_
            refine lv_iadd hx hb dX14_isSame_72 ?_
            refine lv_topi (fun z_14 ez_14 => ?_)
            have hz_14 : z_14.toInt = z_13.toInt + v5_11.toInt := by rw [ez_14]; exact jb_iadd2 (rfl) (rfl) (by omega)
            refine j7_ialdM hx hb hK hh_11 hB194 1 rfl (by decide) hg_yt (x := z_14.toInt) (rfl) (by omega) (j := 2) rfl dX14_isSame_73 (fun z_15 ez_15 (hz_15 : True) => ?_)
            have hqz_15 : z_15.toInt = jSo ft ((z_13.toInt + v5_11.toInt)) := by unfold jSo; rw [ez_15, show z_14.toInt = (z_13.toInt + v5_11.toInt) by omega]
            refine lv_aload_n hx hb dX14_isSame_74 rfl (lv_at hl 2 rfl) ?_
            refine j7_readN hx hb hown hK (C := RX12) (T := TX12) (N := 11) rfl hly_14_3 hlk_529 (hh_11.at 6 rfl) dX14_isSame_75 ?_
            refine lv_aload_n hx hb dX14_isSame_78 rfl (lv_at hl 2 rfl) ?_
            refine j7_readN hx hb hown hK (C := RX12) (T := TX12) (N := 11) rfl hly_14_6 hlk_596 (hh_11.at 4 rfl) dX14_isSame_79 ?_
            refine lv_iload_n hx hb dX14_isSame_82 rfl (lv_at hl 3 rfl) ?_
            refine j7_ialdM hx hb hK hh_11 hB190 1 rfl (by decide) hg_zb (x := a3.toInt) (rfl) (by omega) (j := 4) rfl dX14_isSame_83 (fun z_16 ez_16 (hz_16 : 0 ≤ z_16.toInt ∧ z_16.toInt ≤ 1500) => ?_)
            have hqz_16 : z_16.toInt = jSo gb (a3.toInt) := by unfold jSo; rw [ez_16]
            refine lv_iload hx hb dX14_isSame_84 (lv_at hl 5 rfl) ?_
            refine lv_iadd hx hb dX14_isSame_86 ?_
            refine lv_topi (fun z_17 ez_17 => ?_)
            have hz_17 : z_17.toInt = z_16.toInt + v5_11.toInt := by rw [ez_17]; exact jb_iadd2 (rfl) (rfl) (by omega)
            refine j7_ialdM hx hb hK hh_11 hB194 1 rfl (by decide) hg_zt_ (x := z_17.toInt) (rfl) (by omega) (j := 6) rfl dX14_isSame_87 (fun z_18 ez_18 (hz_18 : True) => ?_)
            have hqz_18 : z_18.toInt = jSo gt ((z_16.toInt + v5_11.toInt)) := by unfold jSo; rw [ez_18, show z_17.toInt = (z_16.toInt + v5_11.toInt) by omega]
            have hi73 : z_13.toInt + v5_11.toInt = jcB ft nn a1.toInt.toNat + v5_11.toInt := by have q7 := hqz_13; omega
            have hi87 : z_16.toInt + v5_11.toInt = jcB gt mm a1.toInt.toNat + v5_11.toInt := by have q8 := hqz_16; rw [he31] at q8; omega
            refine lv_icmp_eq (tgt := 93) hx hb dX14_isSame_88 (by decide) (fun c_19 => ?_) (fun c_19 => ?_)
            · skip
              have c_19' : z_15.toInt = z_18.toInt := jb_eq (rfl) (rfl) c_19
              obtain ⟨z_20, ez_20⟩ : ∃ y : Int32, y = v5_11 + 1 := ⟨_, rfl⟩
              refine lv_iinc (v := z_20) (lv' := [(5, .int z_20), (0, .ref r0), (1, .int a1), (2, .ref r2), (3, .int a3), (4, .int z_3)]) hx hb dX14_isSame_93 hl (k := 5) rfl (by rw [ez_20]; rfl) (by decide) rfl (fun ls hl => ?_)
              have hz_20 : z_20.toInt = v5_11.toInt + 1 := by rw [ez_20]; exact jb_iadd2 (rfl) (by decide) (by omega)
              refine lv_goto (tgt := 53) hx hb dX14_isSame_96 (by decide) ?_
              exact L53 z_20 _ _ hh_11 (⟨by omega, by omega, by omega, fun x x0 x1 => by by_cases jj9 : x = v5_11.toInt; (rw [jj9]; have q5 := hqz_15; have q6 := hqz_18; rw [hi73] at q5; rw [hi87] at q6; omega); exact hi_11_3 x x0 (by omega)⟩) (by omega) _ (lv_sub hl [1, 2, 3, 4, 5, 0] rfl)
            · skip
              have c_19' : z_15.toInt ≠ z_18.toInt := jb_eq_n (rfl) (rfl) c_19
              refine lv_iconst (v := 0) hx hb dX14_isSame_91 (by decide) ?_
              rw [hQ]
              exact W.zret (v := 0) hx hb hr (jb_nz (Or.inl rfl)) (fun t ht hW => ⟨⟨0, (), rfl, ⟨(Or.inl rfl), by refine Or.inr ⟨hk0, fun e9 => ?_⟩; have h9 := jcU.at e9 hlen9 (x := v5_11.toInt) (by omega) (by omega); have q1 := hqz_15; have q2 := hqz_18; have q3 := hqz_13; have q4 := hqz_16; rw [hi73] at q1; rw [hi87] at q2; omega⟩, hh_11.rt (M1 := []) [] rfl ht⟩, by rw [ht]; try exact hh_11.1.1, fun q h9 hq => by rw [ht]; try exact hh_11.1.2.1 q h9 hq⟩) hh_11.1.2.2 dX14_isSame_92
      exact L53 (z_3.toInt - (0 : Int32).toInt : Int).toNat.succ 0 _ _ hh (⟨by omega, by omega, by omega, fun x x0 x1 => by have h9 := hk0; omega⟩) (by omega) _ (lv_sub hl [2, 3, 4, 5, 1, 0] rfl)
    · skip
      have c_10' : z_8.toInt ≠ z_9.toInt := jb_eq_n (rfl) (rfl) c_10
      refine lv_iconst (v := 0) hx hb dX14_isSame_48 (by decide) ?_
      rw [hQ]
      exact W.zret (v := 0) hx hb hr (jb_nz (Or.inl rfl)) (fun t ht hW => ⟨⟨0, (), rfl, ⟨(Or.inl rfl), by refine Or.inr ⟨hk0, fun e9 => ?_⟩; have h9 := jcF.sm hp3a hp4a hp8 hp12 e9; have q1 := hqz_8; have q2 := hqz_9; rw [he31] at q2; omega⟩, hh.rt (M1 := []) [] rfl ht⟩, by rw [ht]; try exact hh.1.1, fun q h9 hq => by rw [ht]; try exact hh.1.2.1 q h9 hq⟩) hh.1.2.2 dX14_isSame_49
set_option maxHeartbeats 4000000 in
set_option maxRecDepth 20000 in
theorem uX14_sameT (l : Launch) (dC : Nat → ClassId) (dI : Nat → Nat → Nat) (ca : Nat → ClassId) (base : Nat) (B : jF) (hB : jBok B) (hAp : jAp (dC, dI)) (hB14 : ∀ n G a H, B 14 n G a H ↔ jOb (dC, dI) 14 11 (F14 n G) a H) (hB16 : ∀ n G a H, B 16 n G a H ↔ jOb (dC, dI) 16 74 (F16 n G) a H) (hB101 : ∀ n G a H, B 101 n G a H ↔ jAr (dC, dI) (ca 1) (fun j z => True) n a H) (hB112 : ∀ n G a H, B 112 n G a H ↔ jAr (dC, dI) (ca 1) (fun j z => True) n a H) (hB190 : ∀ n G a H, B 190 n G a H ↔ jAr (dC, dI) (ca 1) (fun j z => 0 ≤ z.toInt ∧ z.toInt ≤ 1500) n a H) (hB191 : ∀ n G a H, B 191 n G a H ↔ jAr (dC, dI) (ca 1) (fun j z => 0 ≤ z.toInt ∧ z.toInt ≤ 1500) n a H) (hB192 : ∀ n G a H, B 192 n G a H ↔ jAr (dC, dI) (ca 1) (fun j z => 0 ≤ z.toInt ∧ z.toInt ≤ 2) n a H) (hB194 : ∀ n G a H, B 194 n G a H ↔ jAr (dC, dI) (ca 1) (fun j z => True) n a H) (G0 : jT) (H0 : Heap) (r0 : Nat) (r1 : Nat) (yg : Nat) (pu : Int32) (rq : jDtr) (fq : jXg) (ol : Nat) (nw : Nat) (td : Nat) (fg : Nat → Int32) : Met l yX14_same (jw yX14_same cX14_same 3 (some .int)) ({ frames := 4, cells := 0, slots := 0, locals := 94 }) (va_Pc [.ref r0, .ref r1] (fun U => U.heap = H0 ∧ jX B base G0 [] H0 ∧ jG dC dI ca base U ∧ G0 r1 = some (14, 0) ∧ G0 r0 = some (16, 0) ∧ G0 yg = some (112, 3100) ∧ jP (dC, dI) G0 H0 [(r0, 16, 43, .ref yg), (r0, 16, 44, .int pu)] ∧ jMc (dC, dI) G0 H0 [(yg, 112, 3100, ca 1, fg)] ∧ jIs (dC, dI) G0 H0 [(jFrd, jRD dC dI ca G0 none rq), (jFxd, jXD dC dI ca G0 none fq), (jFHo, jHo dC dI ca G0 r0 ol nw td)] ∧ 0 ≤ pu.toInt ∧ pu.toInt ≤ 1500 ∧ jrB rq ∧ jrS fq ∧ r1 ≠ ol ∧ r1 ≠ nw)) (va_Qi (S := (jDtr) × (jXg)) (fun r u => (r.toInt = jwSy (rq.tx r1) (rq.ln r1).toInt fg pu.toInt ∧ jrO rq u.1 ol nw ∧ jrP fq u.2 ol nw ∧ jrB u.1 ∧ jrS u.2)) (fun u t => (jRt (dC, dI) B base G0 EX14_sameT H0 [] t.heap) ∧ jIs (dC, dI) G0 t.heap [(jFrd, jRD dC dI ca G0 none (u.1)), (jFxd, jXD dC dI ca G0 none (u.2)), (jFHo, jHo dC dI ca G0 r0 ol nw td)]) (jA base)) 0 0 (jA base) := by
  refine Met.ofW (cc := cX14_same) (maxL := 3) (ret := (some .int)) (by decide) rfl ?_
  intro p e s m args below meth c s₁ Bd hml hv
  obtain ⟨rfl, hH0, hX, hG, hg_r1, hg_r0, hg_yg, hP0, hM0, hI0, hp0, hp1, hp2, hp3, hp4, hp5⟩ := hv
  have hK := hG.1
  have hx := Bd.exec
  have hb := Bd.bytes
  have hr := Bd.returns
  have hts := atoms_spec (ws := (jw yX14_same cX14_same 3 (some .int))) Bd.pre
  have htw : ∀ w ∈ jWl, w.before _ s = true := fun w h => hts w (List.mem_cons_of_mem _ h)
  have hown : s.vm.findClass RX14 = some m.cls := findClass_of_methodNamed Bd.named
  have hlocks := Bd.notSynchronized
  obtain ⟨Q, hQ⟩ : ∃ Q, Q = MQ below (va_Qi (S := (jDtr) × (jXg)) (fun r u => (r.toInt = jwSy (rq.tx r1) (rq.ln r1).toInt fg pu.toInt ∧ jrO rq u.1 ol nw ∧ jrP fq u.2 ol nw ∧ jrB u.1 ∧ jrS u.2)) (fun u t => (jRt (dC, dI) B base G0 EX14_sameT H0 [] t.heap) ∧ jIs (dC, dI) G0 t.heap [(jFrd, jRD dC dI ca G0 none (u.1)), (jFxd, jXD dC dI ca G0 none (u.2)), (jFHo, jHo dC dI ca G0 r0 ol nw td)]) (jA base)) ([.ref r0, .ref r1] : List Value).toArray s 0 0 (jA base) := ⟨_, rfl⟩
  rw [← hQ]
  have hl := lv_entry ([.ref r0, .ref r1]) (n := 3) (Nat.le_of_ble_eq_true rfl)
  rw [lg_entry_eq]
  generalize (lg_sl ([.ref r0, .ref r1]) ++ List.replicate (3 - (lg_sl ([.ref r0, .ref r1])).length) Slot.unset).toArray = ls at hl ⊢
  have hl : lv_has ls 3 [(0, .ref r0), (1, .ref r1)] := hl
  generalize hR : (headSpec (jw yX14_same cX14_same 3 (some .int)) ({ frames := 4, cells := 0, slots := 0, locals := 94 })).room = R
  subst hH0
  have hh : jSt (dC, dI) B base G0 G0 EX14_sameT s.heap 0 0 [(r0, 16, 43, .ref yg), (r0, 16, 44, .int pu)] [(yg, 112, 3100, ca 1, fg)] [(jFrd, jRD dC dI ca G0 none rq), (jFxd, jXD dC dI ca G0 none fq), (jFHo, jHo dC dI ca G0 r0 ol nw td)] s.heap [] := jSt.start hX hP0 hM0 hI0
  clear hX hP0
  have hk0 : (0 : Int32).toInt = 0 := by decide
  have hk1 : (1 : Int32).toInt = 1 := by decide
  have hly_14_3 := htw (u_lay RX12 TX12 3) (jWc_wsX120 _ (u_in_lay (by decide)))
  have hly_14_4 := htw (u_lay RX12 TX12 4) (jWc_wsX120 _ (u_in_lay (by decide)))
  have hly_14_5 := htw (u_lay RX12 TX12 5) (jWc_wsX120 _ (u_in_lay (by decide)))
  have hly_16_43 := htw (u_lay RX14 TX14 43) (jWc_wsX140 _ (u_in_lay (by decide)))
  have hly_16_44 := htw (u_lay RX14 TX14 44) (jWc_wsX140 _ (u_in_lay (by decide)))
  have hly_16_46 := htw (u_lay RX14 TX14 46) (jWc_wsX140 _ (u_in_lay (by decide)))
  have hly_16_47 := htw (u_lay RX14 TX14 47) (jWc_wsX140 _ (u_in_lay (by decide)))
  have hlk_84 := (htw (.fieldLink RX14 84 "ProofServerModel" "old" "LProofServerModel$Document;") (jWr_11 _ (List.mem_of_getElem? (i := 22) rfl)))
  have hlk_526 := (va_Nw.use (A := ([.ref r0, .ref r1] : List Value).toArray) rfl (hG.2.1 RX14 526 "ProofServerModel$Document" "units" "I" "ProofServerModel" (List.mem_of_getElem? (i := 1736) (by decide +kernel))))
  have hlk_529 := (va_Nw.use (A := ([.ref r0, .ref r1] : List Value).toArray) rfl (hG.2.1 RX14 529 "ProofServerModel$Document" "text" "[I" "ProofServerModel" (List.mem_of_getElem? (i := 1735) (by decide +kernel))))
  have hlk_88 := (htw (.fieldLink RX14 88 "ProofServerModel" "now" "LProofServerModel$Document;") (jWr_11 _ (List.mem_of_getElem? (i := 23) rfl)))
  have hlk_550 := (htw (.fieldLink RX14 550 "ProofServerModel" "changedUnits" "I") (jWr_72 _ (List.mem_of_getElem? (i := 22) rfl)))
  have hlk_78 := (htw (.fieldLink RX14 78 "ProofServerModel" "changed" "[I") (jWr_11 _ (List.mem_of_getElem? (i := 20) rfl)))
  have hlk_587 := (va_Nw.use (A := ([.ref r0, .ref r1] : List Value).toArray) rfl (hG.2.1 RX14 587 "ProofServerModel$Document" "sentences" "I" "ProofServerModel" (List.mem_of_getElem? (i := 1737) (by decide +kernel))))
  have hb1 := hp2 r1
  obtain ⟨-, ⟨hgol_1, hgnw_1, hgtd_1⟩, hoP_1, hoM_1, -, hoR_1⟩ := hh.iv 2 rfl
  have hh_2 := ((hh.sub (L1 := [(r0, 16, 43, .ref yg), (r0, 16, 44, .int pu)]) [0, 1] rfl (M1 := [(yg, 112, 3100, ca 1, fg)]) [0] rfl (I1 := [(jFrd, jRD dC dI ca G0 none rq), (jFxd, jXD dC dI ca G0 none fq)]) [0, 1] rfl).more hoP_1).moreM hoM_1
  clear hh
  obtain ⟨ut_3, uz_3, hgt_3, hgz_3, huP_3, huM_3⟩ := jRD.at (hh_2.iv 0 rfl) hg_r1 (fun q => by cases q)
  have hh_4 := ((hh_2.sub (L1 := [(r0, 16, 46, .ref ol), (r0, 16, 47, .ref nw), (r0, 16, 71, .ref td), (r0, 16, 43, .ref yg), (r0, 16, 44, .int pu)]) [0, 1, 2, 3, 4] rfl (M1 := [(yg, 112, 3100, ca 1, fg)]) [0] rfl (I1 := [(jFrd, jRD dC dI ca G0 none rq), (jFxd, jXD dC dI ca G0 none fq)]) [0, 1] rfl).more huP_3).moreM huM_3
  clear hh_2
  have hp6 := hoR_1
  refine lv_aload_n hx hb dX14_same_0 rfl (lv_at hl 0 rfl) ?_
  obtain ⟨⟨ut_5, uz_5, hgt_5, hgz_5, huP_5, huM_5⟩, hU_5⟩ := jRD.opn (hh_4.iv 0 rfl) hgol_1
  have hh_6 := ((hh_4.sub (L1 := [(r1, 14, 3, .ref ut_3), (r1, 14, 0, .ref uz_3), (r1, 14, 2, .int (rq.ve r1)), (r1, 14, 4, .int (rq.ln r1)), (r1, 14, 1, .int (rq.ul r1)), (r0, 16, 46, .ref ol), (r0, 16, 47, .ref nw), (r0, 16, 71, .ref td), (r0, 16, 43, .ref yg), (r0, 16, 44, .int pu)]) [0, 1, 2, 3, 4, 5, 6, 7, 8, 9] rfl (M1 := [(ut_3, 194, 1500, ca 1, (rq.tx r1)), (uz_3, 195, 40, ca 1, (rq.ux r1)), (yg, 112, 3100, ca 1, fg)]) [0, 1, 2] rfl (I1 := [(jFrd, jRD dC dI ca G0 none rq), (jFxd, jXD dC dI ca G0 none fq)]) [0, 1] rfl).more huP_5).moreM huM_5
  clear hh_4
  have hh_7 := hh_6.sub (L1 := [(ol, 14, 3, .ref ut_5), (ol, 14, 0, .ref uz_5), (ol, 14, 2, .int (rq.ve ol)), (ol, 14, 4, .int (rq.ln ol)), (ol, 14, 1, .int (rq.ul ol)), (r1, 14, 3, .ref ut_3), (r1, 14, 0, .ref uz_3), (r1, 14, 2, .int (rq.ve r1)), (r1, 14, 4, .int (rq.ln r1)), (r1, 14, 1, .int (rq.ul r1)), (r0, 16, 46, .ref ol), (r0, 16, 47, .ref nw), (r0, 16, 71, .ref td), (r0, 16, 43, .ref yg), (r0, 16, 44, .int pu)]) [0, 1, 2, 3, 4, 5, 6, 7, 8, 9, 10, 11, 12, 13, 14] rfl (M1 := [(ut_5, 194, 1500, ca 1, (rq.tx ol)), (uz_5, 195, 40, ca 1, (rq.ux ol)), (ut_3, 194, 1500, ca 1, (rq.tx r1)), (uz_3, 195, 40, ca 1, (rq.ux r1)), (yg, 112, 3100, ca 1, fg)]) [0, 1, 2, 3, 4] rfl (I1 := [(jFxd, jXD dC dI ca G0 none fq)]) [1] rfl
  clear hh_6
  have hh_8 := hh_7.addI (jRD.ie hU_5)
  clear hh_7
  refine j7_read hx hb hown hK (C := RX14) (T := TX14) (N := 74) rfl hly_16_46 hlk_84 (hh_8.at 10 rfl) dX14_same_1 ?_
  refine lv_aload_n hx hb dX14_same_4 rfl (lv_at hl 1 rfl) ?_
  refine j7_readN hx hb hown hK (C := RX12) (T := TX12) (N := 11) rfl hly_14_4 hlk_526 (hh_8.at 8 rfl) dX14_same_5 ?_
  have hd_10 := hh_8.iv 0 rfl
  have hd_103 := hh_8.at 0 rfl
  have hd_100 := hh_8.at 1 rfl
  have hh_11 := hh_8.sub (L1 := [(ol, 14, 3, .ref ut_5), (ol, 14, 0, .ref uz_5), (ol, 14, 2, .int (rq.ve ol)), (ol, 14, 4, .int (rq.ln ol)), (ol, 14, 1, .int (rq.ul ol)), (r1, 14, 3, .ref ut_3), (r1, 14, 0, .ref uz_3), (r1, 14, 2, .int (rq.ve r1)), (r1, 14, 4, .int (rq.ln r1)), (r1, 14, 1, .int (rq.ul r1)), (r0, 16, 46, .ref ol), (r0, 16, 47, .ref nw), (r0, 16, 71, .ref td), (r0, 16, 43, .ref yg), (r0, 16, 44, .int pu)]) [0, 1, 2, 3, 4, 5, 6, 7, 8, 9, 10, 11, 12, 13, 14] rfl (M1 := [(ut_5, 194, 1500, ca 1, (rq.tx ol)), (uz_5, 195, 40, ca 1, (rq.ux ol)), (ut_3, 194, 1500, ca 1, (rq.tx r1)), (uz_3, 195, 40, ca 1, (rq.ux r1)), (yg, 112, 3100, ca 1, fg)]) [0, 1, 2, 3, 4] rfl (I1 := [(jFxd, jXD dC dI ca G0 none fq)]) [1] rfl
  clear hh_8
  refine j7_putNX hx hb hown hK hh_11 hB hAp hB14 (C := RX12) (T := TX12) (N := 11) rfl (by decide) hgol_1 (i := 4) (by decide) hly_14_4 rfl hlk_526 rfl (ty := .int) (v := .int (rq.ln r1)) (by decide +kernel) rfl rfl (⟨_, rfl, by omega, by omega⟩) rfl (L1 := [(ol, 14, 3, .ref ut_5), (ol, 14, 0, .ref uz_5), (ol, 14, 2, .int (rq.ve ol)), (ol, 14, 1, .int (rq.ul ol)), (r1, 14, 3, .ref ut_3), (r1, 14, 0, .ref uz_3), (r1, 14, 2, .int (rq.ve r1)), (r1, 14, 1, .int (rq.ul r1)), (r0, 16, 46, .ref ol), (r0, 16, 47, .ref nw), (r0, 16, 71, .ref td), (r0, 16, 43, .ref yg), (r0, 16, 44, .int pu)]) [0, 1, 2, 4, 5, 6, 7, 9, 10, 11, 12, 13, 14] rfl rfl rfl dX14_same_8 (fun H_9 locs_9 hr_9 hf_9 hh_9 => ?_)
  clear hh_11
  have hd_10n := jRD.fld hd_10 hgol_1 hr_9 hd_103 hd_100 (hh_9.at 1 rfl) (hh_9.at 2 rfl)
  have hh_12 := hh_9.addI (jRD.ie hd_10n)
  clear hh_9
  clear hd_10 hd_10n hd_103 hd_100 hr_9 hf_9
  refine lv_iconst (v := 0) hx hb dX14_same_11 (by decide) ?_
  refine lv_istore_n (lv' := [(2, .int 0), (0, .ref r0), (1, .ref r1)]) hx hb dX14_same_12 rfl hl (by decide) rfl (fun ls hl => ?_)
  have L13 : ∀ (N : Nat) (v2_13 : Int32) (fo9_13 : Nat → Int32) (H_13 : Heap) (locs_13 : List Loc), jSt (dC, dI) B base G0 G0 EX14_sameT s.heap 0 0 [(ol, 14, 4, .int (rq.ln r1)), (ol, 14, 3, .ref ut_5), (ol, 14, 0, .ref uz_5), (ol, 14, 2, .int (rq.ve ol)), (ol, 14, 1, .int (rq.ul ol)), (r1, 14, 3, .ref ut_3), (r1, 14, 0, .ref uz_3), (r1, 14, 2, .int (rq.ve r1)), (r1, 14, 1, .int (rq.ul r1)), (r0, 16, 46, .ref ol), (r0, 16, 47, .ref nw), (r0, 16, 71, .ref td), (r0, 16, 43, .ref yg), (r0, 16, 44, .int pu)] [(ut_5, 194, 1500, ca 1, fo9_13), (uz_5, 195, 40, ca 1, (rq.ux ol)), (uz_3, 195, 40, ca 1, (rq.ux r1)), (yg, 112, 3100, ca 1, fg)] [(jFrd, jRD dC dI ca G0 (some ol) rq), (jFxd, jXD dC dI ca G0 none fq)] H_13 locs_13 → (0 ≤ v2_13.toInt ∧ v2_13.toInt ≤ (rq.ln r1).toInt ∧ jEqU fo9_13 (rq.tx r1) v2_13.toInt) → ((rq.ln r1).toInt - v2_13.toInt : Int) < N → ∀ ls : Array Slot, lv_has ls 3 [(0, .ref r0), (1, .ref r1), (2, .int v2_13)] → W p l e R s m ([.ref r0, .ref r1] : List Value).toArray below meth c H_13 locs_13 0 0 Q (F0 m 13 ls []) := by
    intro N
    induction N with
    | zero => intro v2_13 fo9_13 H_13 locs_13 hh_13  hi_13 hm; exact absurd hm (by omega)
    | succ N L13 =>
      intro v2_13 fo9_13 H_13 locs_13 hh_13  hi_13 hm_13 ls hl
      obtain ⟨hi_13_0, hi_13_1, hi_13_2⟩ := hi_13
      refine lv_iload_n hx hb dX14_same_13 rfl (lv_at hl 2 rfl) ?_
      obtain ⟨ut_14, uz_14, hgt_14, hgz_14, huP_14, huM_14⟩ := jRD.at (hh_13.iv 0 rfl) hg_r1 (by first | assumption | (intro q; cases q; contradiction))
      obtain rfl : ut_3 = ut_14 := by have h9 := jf.uniq (hh_13.at 5 rfl) (huP_14 _ (List.mem_of_getElem? (i := 0) rfl)).2; cases h9; rfl
      obtain rfl : uz_3 = uz_14 := by have h9 := jf.uniq (hh_13.at 6 rfl) (huP_14 _ (List.mem_of_getElem? (i := 1) rfl)).2; cases h9; rfl
      have hul_14_ve : (rq.ve r1) = rq.ve r1 := Value.int.inj (jf.uniq (hh_13.at 7 rfl) (huP_14 _ (List.mem_of_getElem? (i := 2) rfl)).2)
      have hul_14_ul : (rq.ul r1) = rq.ul r1 := Value.int.inj (jf.uniq (hh_13.at 8 rfl) (huP_14 _ (List.mem_of_getElem? (i := 4) rfl)).2)
      have hh_15 := ((hh_13.sub (L1 := [(ol, 14, 4, .int (rq.ln r1)), (ol, 14, 3, .ref ut_5), (ol, 14, 0, .ref uz_5), (ol, 14, 2, .int (rq.ve ol)), (ol, 14, 1, .int (rq.ul ol)), (r0, 16, 46, .ref ol), (r0, 16, 47, .ref nw), (r0, 16, 71, .ref td), (r0, 16, 43, .ref yg), (r0, 16, 44, .int pu)]) [0, 1, 2, 3, 4, 9, 10, 11, 12, 13] rfl (M1 := [(ut_5, 194, 1500, ca 1, fo9_13), (uz_5, 195, 40, ca 1, (rq.ux ol)), (yg, 112, 3100, ca 1, fg)]) [0, 1, 3] rfl (I1 := [(jFrd, jRD dC dI ca G0 (some ol) rq), (jFxd, jXD dC dI ca G0 none fq)]) [0, 1] rfl).more huP_14).moreM huM_14
      clear hh_13
      refine lv_aload_n hx hb dX14_same_14 rfl (lv_at hl 1 rfl) ?_
      refine j7_readN hx hb hown hK (C := RX12) (T := TX12) (N := 11) rfl hly_14_4 hlk_526 (hh_15.at 3 rfl) dX14_same_15 ?_
      refine lv_icmp_ge (tgt := 42) hx hb dX14_same_18 (by decide) (fun c_16 => ?_) (fun c_16 => ?_)
      · skip
        have c_16' : v2_13.toInt ≥ (rq.ln r1).toInt := jb_ge (rfl) (rfl) c_16
        obtain ⟨⟨ysb_17, yse_17, ysf_17, hgsb_17, hgse_17, hgsf_17, hgP_17, hgM_17⟩, hGe_17⟩ := jXD.opn (ca := ca) (hh_15.iv 1 rfl) hgol_1
        have hh_18 := ((hh_15.sub (L1 := [(r1, 14, 3, .ref ut_3), (r1, 14, 0, .ref uz_3), (r1, 14, 2, .int (rq.ve r1)), (r1, 14, 4, .int (rq.ln r1)), (r1, 14, 1, .int (rq.ul r1)), (ol, 14, 4, .int (rq.ln r1)), (ol, 14, 3, .ref ut_5), (ol, 14, 0, .ref uz_5), (ol, 14, 2, .int (rq.ve ol)), (ol, 14, 1, .int (rq.ul ol)), (r0, 16, 46, .ref ol), (r0, 16, 47, .ref nw), (r0, 16, 71, .ref td), (r0, 16, 43, .ref yg), (r0, 16, 44, .int pu)]) [0, 1, 2, 3, 4, 5, 6, 7, 8, 9, 10, 11, 12, 13, 14] rfl (M1 := [(ut_3, 194, 1500, ca 1, (rq.tx r1)), (uz_3, 195, 40, ca 1, (rq.ux r1)), (ut_5, 194, 1500, ca 1, fo9_13), (uz_5, 195, 40, ca 1, (rq.ux ol)), (yg, 112, 3100, ca 1, fg)]) [0, 1, 2, 3, 4] rfl (I1 := [(jFrd, jRD dC dI ca G0 (some ol) rq), (jFxd, jXD dC dI ca G0 none fq)]) [0, 1] rfl).more (hgP_17.sub (L1 := [(ol, 14, 6, .ref ysb_17), (ol, 14, 7, .ref yse_17), (ol, 14, 8, .ref ysf_17), (ol, 14, 5, .int (fq.sn ol)), (ol, 14, 9, .int (fq.ck ol))]) [0, 1, 2, 3, 4] rfl)).moreM hgM_17
        clear hh_15
        have hh_19 := hh_18.sub (L1 := [(ol, 14, 6, .ref ysb_17), (ol, 14, 7, .ref yse_17), (ol, 14, 8, .ref ysf_17), (ol, 14, 5, .int (fq.sn ol)), (ol, 14, 9, .int (fq.ck ol)), (r1, 14, 3, .ref ut_3), (r1, 14, 0, .ref uz_3), (r1, 14, 2, .int (rq.ve r1)), (r1, 14, 4, .int (rq.ln r1)), (r1, 14, 1, .int (rq.ul r1)), (ol, 14, 4, .int (rq.ln r1)), (ol, 14, 3, .ref ut_5), (ol, 14, 0, .ref uz_5), (ol, 14, 2, .int (rq.ve ol)), (ol, 14, 1, .int (rq.ul ol)), (r0, 16, 46, .ref ol), (r0, 16, 47, .ref nw), (r0, 16, 71, .ref td), (r0, 16, 43, .ref yg), (r0, 16, 44, .int pu)]) [0, 1, 2, 3, 4, 5, 6, 7, 8, 9, 10, 11, 12, 13, 14, 15, 16, 17, 18, 19] rfl (M1 := [(ysb_17, 190, 40, ca 1, (fq.sb ol)), (yse_17, 191, 40, ca 1, (fq.se ol)), (ysf_17, 192, 40, ca 1, (fq.sf ol)), (ut_3, 194, 1500, ca 1, (rq.tx r1)), (uz_3, 195, 40, ca 1, (rq.ux r1)), (ut_5, 194, 1500, ca 1, fo9_13), (uz_5, 195, 40, ca 1, (rq.ux ol)), (yg, 112, 3100, ca 1, fg)]) [0, 1, 2, 3, 4, 5, 6, 7] rfl (I1 := [(jFrd, jRD dC dI ca G0 (some ol) rq)]) [0] rfl
        clear hh_18
        have hh_20 := hh_19.addI (jXD.ie hGe_17)
        clear hh_19
        have hF_21 := jRD.full (hh_20.iv 1 rfl) hgol_1 (hh_20.at 11 rfl) (hh_20.at 12 rfl) (hh_20.at 13 rfl) (hh_20.at 10 rfl) (hh_20.at 14 rfl) (hh_20.2.2.2.2.2.2.2.1.sub (L1 := [(ut_5, 194, 1500, ca 1, fo9_13), (uz_5, 195, 40, ca 1, (rq.ux ol))]) [5, 6] rfl)
        obtain ⟨t_21, ht_22⟩ : ∃ q : jDtr, q = rq.put ol (rq.ve ol) (rq.ln r1) fo9_13 (rq.ul ol) (rq.ux ol) := ⟨_, rfl⟩
        rw [← ht_22] at hF_21
        have hh_23 := hh_20.sub (L1 := [(ol, 14, 6, .ref ysb_17), (ol, 14, 7, .ref yse_17), (ol, 14, 8, .ref ysf_17), (ol, 14, 5, .int (fq.sn ol)), (ol, 14, 9, .int (fq.ck ol)), (r1, 14, 3, .ref ut_3), (r1, 14, 0, .ref uz_3), (r1, 14, 2, .int (rq.ve r1)), (r1, 14, 4, .int (rq.ln r1)), (r1, 14, 1, .int (rq.ul r1)), (ol, 14, 4, .int (rq.ln r1)), (ol, 14, 3, .ref ut_5), (ol, 14, 0, .ref uz_5), (ol, 14, 2, .int (rq.ve ol)), (ol, 14, 1, .int (rq.ul ol)), (r0, 16, 46, .ref ol), (r0, 16, 47, .ref nw), (r0, 16, 71, .ref td), (r0, 16, 43, .ref yg), (r0, 16, 44, .int pu)]) [0, 1, 2, 3, 4, 5, 6, 7, 8, 9, 10, 11, 12, 13, 14, 15, 16, 17, 18, 19] rfl (M1 := [(ysb_17, 190, 40, ca 1, (fq.sb ol)), (yse_17, 191, 40, ca 1, (fq.se ol)), (ysf_17, 192, 40, ca 1, (fq.sf ol)), (ut_3, 194, 1500, ca 1, (rq.tx r1)), (uz_3, 195, 40, ca 1, (rq.ux r1)), (ut_5, 194, 1500, ca 1, fo9_13), (uz_5, 195, 40, ca 1, (rq.ux ol)), (yg, 112, 3100, ca 1, fg)]) [0, 1, 2, 3, 4, 5, 6, 7] rfl (I1 := [(jFxd, jXD dC dI ca G0 (some ol) fq)]) [0] rfl
        clear hh_20
        have hh_24 := hh_23.addI (jRD.ie hF_21)
        clear hh_23
        refine lv_aload_n hx hb dX14_same_42 rfl (lv_at hl 0 rfl) ?_
        refine j7_read hx hb hown hK (C := RX14) (T := TX14) (N := 74) rfl hly_16_46 hlk_84 (hh_24.at 15 rfl) dX14_same_43 ?_
        refine va_callv (A0 := jA base) (H0 := s.heap) (va_runS (As := [.ref ol]) (rest := []) ⟨hx, hb, hml, hown, hts⟩ (uX14_partF l dC dI ca base B hB hAp hB14 hB101 hB190 hB191 hB192 hB194 G0 H_13 ol ut_5 (rq.ln r1) ysb_17 yse_17 ysf_17 fq fo9_13 (fq.sb ol) (fq.se ol) (fq.sf ol)) (va_cwS 1 hts (jgS (jWr_57 _ (List.mem_of_getElem? (i := 10) rfl)) (jWr_57 _ (List.mem_of_getElem? (i := 11) rfl)) (jWr_1 _ (List.mem_of_getElem? (i := 5) rfl)) (jWr_57 _ (List.mem_of_getElem? (i := 12) rfl))) rfl rfl rfl (by decide +kernel) ⟨by rw [← hR]; exact Nat.le_of_ble_eq_true rfl, by rw [← hR]; exact Nat.le_of_ble_eq_true rfl⟩) ⟨fun a U g mk q => by obtain ⟨q0, q1, q2, qK, q10, q11, q12, q13, q14, q15, q16, q17, q18⟩ := q; exact ⟨q0, q1, q2, jG.calling g mk a qK, q10, q11, q12, q13, q14, q15, q16, q17, q18⟩, fun U hU hW => ⟨rfl, hU, hh_24.2.1, hG.step hW hU hh_24.1, hgol_1, hgt_5, hgsb_17, hgse_17, hgsf_17, (hh_24.2.2.1.sub (L1 := [(ol, 14, 3, .ref ut_5), (ol, 14, 4, .int (rq.ln r1)), (ol, 14, 6, .ref ysb_17), (ol, 14, 7, .ref yse_17), (ol, 14, 8, .ref ysf_17)]) [11, 10, 0, 1, 2] rfl), (hh_24.2.2.2.2.2.2.2.1.sub (L1 := [(ut_5, 194, 1500, ca 1, fo9_13), (ysb_17, 190, 40, ca 1, (fq.sb ol)), (yse_17, 191, 40, ca 1, (fq.se ol)), (ysf_17, 192, 40, ca 1, (fq.sf ol))]) [5, 0, 1, 2] rfl), (hh_24.2.2.2.2.2.2.2.2.sub (L1 := [(jFxd, jXD dC dI ca G0 (some ol) fq)]) [1] rfl), by first | omega | (refine ⟨?_, ?_⟩ <;> (first | omega | rfl | assumption | decide | exact Or.inl rfl | exact Or.inr rfl | (simp only; omega)))⟩⟩ rfl rfl hl.1 rfl (lv_room (Nat.le_of_ble_eq_true rfl)) dX14_same_46 ⟨Nat.zero_le _, Nat.zero_le _⟩) hh_24.1 (fun q _ h => h) (fun q h => h) (fun u_25 t_25 H_25 locs_25 ht_25 hvm_25 hr_26 hb_25 hz_25 hk_25 hS_25 => ?_)
        obtain ⟨qs_25, gb_25, ge_25, gl_25⟩ := u_25
        rw [ht_25] at hb_25
        obtain ⟨hb_25, hbE_25⟩ := hb_25
        obtain ⟨⟨hb_251, hb_252, hb_253, hb_254, hb_255⟩, hb_256⟩ := hb_25
        have hh_25 : jSt (dC, dI) B base G0 G0 EX14_sameT s.heap 0 0 [(ol, 14, 5, .int qs_25), (ol, 14, 6, .ref ysb_17), (ol, 14, 7, .ref yse_17), (ol, 14, 8, .ref ysf_17), (ol, 14, 9, .int (fq.ck ol)), (r1, 14, 3, .ref ut_3), (r1, 14, 0, .ref uz_3), (r1, 14, 2, .int (rq.ve r1)), (r1, 14, 4, .int (rq.ln r1)), (r1, 14, 1, .int (rq.ul r1)), (ol, 14, 4, .int (rq.ln r1)), (ol, 14, 3, .ref ut_5), (ol, 14, 0, .ref uz_5), (ol, 14, 2, .int (rq.ve ol)), (ol, 14, 1, .int (rq.ul ol)), (r0, 16, 46, .ref ol), (r0, 16, 47, .ref nw), (r0, 16, 71, .ref td), (r0, 16, 43, .ref yg), (r0, 16, 44, .int pu)] [(ysb_17, 190, 40, ca 1, gb_25), (yse_17, 191, 40, ca 1, ge_25), (ysf_17, 192, 40, ca 1, gl_25), (ut_3, 194, 1500, ca 1, (rq.tx r1)), (uz_3, 195, 40, ca 1, (rq.ux r1)), (ut_5, 194, 1500, ca 1, fo9_13), (uz_5, 195, 40, ca 1, (rq.ux ol)), (yg, 112, 3100, ca 1, fg)] [(jFxd, jXD dC dI ca G0 (some ol) fq), (jFrd, jRD dC dI ca G0 none t_21)] H_25 locs_25 := (((hh_24.call hb_251 hb_252 hb_253 hb_254 hS_25 rfl (L1 := [(ol, 14, 6, .ref ysb_17), (ol, 14, 7, .ref yse_17), (ol, 14, 8, .ref ysf_17), (ol, 14, 9, .int (fq.ck ol)), (r1, 14, 3, .ref ut_3), (r1, 14, 0, .ref uz_3), (r1, 14, 2, .int (rq.ve r1)), (r1, 14, 4, .int (rq.ln r1)), (r1, 14, 1, .int (rq.ul r1)), (ol, 14, 4, .int (rq.ln r1)), (ol, 14, 3, .ref ut_5), (ol, 14, 0, .ref uz_5), (ol, 14, 2, .int (rq.ve ol)), (ol, 14, 1, .int (rq.ul ol)), (r0, 16, 46, .ref ol), (r0, 16, 47, .ref nw), (r0, 16, 71, .ref td), (r0, 16, 43, .ref yg), (r0, 16, 44, .int pu)]) [0, 1, 2, 4, 5, 6, 7, 8, 9, 10, 11, 12, 13, 14, 15, 16, 17, 18, 19] rfl rfl (M1 := [(ut_3, 194, 1500, ca 1, (rq.tx r1)), (uz_3, 195, 40, ca 1, (rq.ux r1)), (ut_5, 194, 1500, ca 1, fo9_13), (uz_5, 195, 40, ca 1, (rq.ux ol)), (yg, 112, 3100, ca 1, fg)]) [3, 4, 5, 6, 7] rfl rfl (I1 := [(jFrd, jRD dC dI ca G0 none t_21)]) [0] rfl rfl).more hb_255).moreM hb_256).addIs hbE_25
        clear hh_24 ht_25 hvm_25 hz_25 hk_25 hS_25 hb_251 hb_252 hb_253 hb_254 hb_255
        clear hb_256
        clear  hbE_25
        try simp only at hr_26
        obtain ⟨hr_26_0, hr_26_1, hr_26_2, hr_26_3, hr_26_4, hr_26_5⟩ := hr_26
        have hF_27 := jXD.full (ca := ca) (hh_25.iv 0 rfl) hgol_1 (hh_25.at 1 rfl) (hh_25.at 2 rfl) (hh_25.at 3 rfl) (hh_25.at 0 rfl) (hh_25.at 4 rfl) (hh_25.2.2.2.2.2.2.2.1.sub (L1 := [(ysb_17, 190, 40, ca 1, gb_25), (yse_17, 191, 40, ca 1, ge_25), (ysf_17, 192, 40, ca 1, gl_25)]) [0, 1, 2] rfl)
        obtain ⟨g_27, ht_28⟩ : ∃ q : jXg, q = fq.put ol qs_25 (fq.ck ol) gb_25 ge_25 gl_25 := ⟨_, rfl⟩
        rw [← ht_28] at hF_27
        have hh_29 := hh_25.sub (L1 := [(ol, 14, 5, .int qs_25), (ol, 14, 6, .ref ysb_17), (ol, 14, 7, .ref yse_17), (ol, 14, 8, .ref ysf_17), (ol, 14, 9, .int (fq.ck ol)), (r1, 14, 3, .ref ut_3), (r1, 14, 0, .ref uz_3), (r1, 14, 2, .int (rq.ve r1)), (r1, 14, 4, .int (rq.ln r1)), (r1, 14, 1, .int (rq.ul r1)), (ol, 14, 4, .int (rq.ln r1)), (ol, 14, 3, .ref ut_5), (ol, 14, 0, .ref uz_5), (ol, 14, 2, .int (rq.ve ol)), (ol, 14, 1, .int (rq.ul ol)), (r0, 16, 46, .ref ol), (r0, 16, 47, .ref nw), (r0, 16, 71, .ref td), (r0, 16, 43, .ref yg), (r0, 16, 44, .int pu)]) [0, 1, 2, 3, 4, 5, 6, 7, 8, 9, 10, 11, 12, 13, 14, 15, 16, 17, 18, 19] rfl (M1 := [(ysb_17, 190, 40, ca 1, gb_25), (yse_17, 191, 40, ca 1, ge_25), (ysf_17, 192, 40, ca 1, gl_25), (ut_3, 194, 1500, ca 1, (rq.tx r1)), (uz_3, 195, 40, ca 1, (rq.ux r1)), (ut_5, 194, 1500, ca 1, fo9_13), (uz_5, 195, 40, ca 1, (rq.ux ol)), (yg, 112, 3100, ca 1, fg)]) [0, 1, 2, 3, 4, 5, 6, 7] rfl (I1 := [(jFrd, jRD dC dI ca G0 none t_21)]) [1] rfl
        clear hh_25
        have hh_30 := hh_29.addI (jXD.ie hF_27)
        clear hh_29
        obtain ⟨⟨ut_31, uz_31, hgt_31, hgz_31, huP_31, huM_31⟩, hU_31⟩ := jRD.opn (hh_30.iv 1 rfl) hgnw_1
        have hh_32 := ((hh_30.sub (L1 := [(ol, 14, 5, .int qs_25), (ol, 14, 6, .ref ysb_17), (ol, 14, 7, .ref yse_17), (ol, 14, 8, .ref ysf_17), (ol, 14, 9, .int (fq.ck ol)), (r1, 14, 3, .ref ut_3), (r1, 14, 0, .ref uz_3), (r1, 14, 2, .int (rq.ve r1)), (r1, 14, 4, .int (rq.ln r1)), (r1, 14, 1, .int (rq.ul r1)), (ol, 14, 4, .int (rq.ln r1)), (ol, 14, 3, .ref ut_5), (ol, 14, 0, .ref uz_5), (ol, 14, 2, .int (rq.ve ol)), (ol, 14, 1, .int (rq.ul ol)), (r0, 16, 46, .ref ol), (r0, 16, 47, .ref nw), (r0, 16, 71, .ref td), (r0, 16, 43, .ref yg), (r0, 16, 44, .int pu)]) [0, 1, 2, 3, 4, 5, 6, 7, 8, 9, 10, 11, 12, 13, 14, 15, 16, 17, 18, 19] rfl (M1 := [(ysb_17, 190, 40, ca 1, gb_25), (yse_17, 191, 40, ca 1, ge_25), (ysf_17, 192, 40, ca 1, gl_25), (ut_3, 194, 1500, ca 1, (rq.tx r1)), (uz_3, 195, 40, ca 1, (rq.ux r1)), (ut_5, 194, 1500, ca 1, fo9_13), (uz_5, 195, 40, ca 1, (rq.ux ol)), (yg, 112, 3100, ca 1, fg)]) [0, 1, 2, 3, 4, 5, 6, 7] rfl (I1 := [(jFxd, jXD dC dI ca G0 none g_27), (jFrd, jRD dC dI ca G0 none t_21)]) [0, 1] rfl).more huP_31).moreM huM_31
        clear hh_30
        have hh_33 := hh_32.sub (L1 := [(nw, 14, 3, .ref ut_31), (nw, 14, 0, .ref uz_31), (nw, 14, 2, .int (t_21.ve nw)), (nw, 14, 4, .int (t_21.ln nw)), (nw, 14, 1, .int (t_21.ul nw)), (ol, 14, 5, .int qs_25), (ol, 14, 6, .ref ysb_17), (ol, 14, 7, .ref yse_17), (ol, 14, 8, .ref ysf_17), (ol, 14, 9, .int (fq.ck ol)), (r1, 14, 3, .ref ut_3), (r1, 14, 0, .ref uz_3), (r1, 14, 2, .int (rq.ve r1)), (r1, 14, 4, .int (rq.ln r1)), (r1, 14, 1, .int (rq.ul r1)), (ol, 14, 4, .int (rq.ln r1)), (ol, 14, 3, .ref ut_5), (ol, 14, 0, .ref uz_5), (ol, 14, 2, .int (rq.ve ol)), (ol, 14, 1, .int (rq.ul ol)), (r0, 16, 46, .ref ol), (r0, 16, 47, .ref nw), (r0, 16, 71, .ref td), (r0, 16, 43, .ref yg), (r0, 16, 44, .int pu)]) [0, 1, 2, 3, 4, 5, 6, 7, 8, 9, 10, 11, 12, 13, 14, 15, 16, 17, 18, 19, 20, 21, 22, 23, 24] rfl (M1 := [(ut_31, 194, 1500, ca 1, (t_21.tx nw)), (uz_31, 195, 40, ca 1, (t_21.ux nw)), (ysb_17, 190, 40, ca 1, gb_25), (yse_17, 191, 40, ca 1, ge_25), (ysf_17, 192, 40, ca 1, gl_25), (ut_3, 194, 1500, ca 1, (rq.tx r1)), (uz_3, 195, 40, ca 1, (rq.ux r1)), (ut_5, 194, 1500, ca 1, fo9_13), (uz_5, 195, 40, ca 1, (rq.ux ol)), (yg, 112, 3100, ca 1, fg)]) [0, 1, 2, 3, 4, 5, 6, 7, 8, 9] rfl (I1 := [(jFxd, jXD dC dI ca G0 none g_27)]) [0] rfl
        clear hh_32
        have hh_34 := hh_33.addI (jRD.ie hU_31)
        clear hh_33
        refine lv_aload_n hx hb dX14_same_49 rfl (lv_at hl 0 rfl) ?_
        refine j7_read hx hb hown hK (C := RX14) (T := TX14) (N := 74) rfl hly_16_47 hlk_88 (hh_34.at 21 rfl) dX14_same_50 ?_
        refine lv_aload_n hx hb dX14_same_53 rfl (lv_at hl 0 rfl) ?_
        refine j7_read hx hb hown hK (C := RX14) (T := TX14) (N := 74) rfl hly_16_44 hlk_550 (hh_34.at 24 rfl) dX14_same_54 ?_
        have hd_36 := hh_34.iv 0 rfl
        have hd_363 := hh_34.at 0 rfl
        have hd_360 := hh_34.at 1 rfl
        have hh_37 := hh_34.sub (L1 := [(nw, 14, 3, .ref ut_31), (nw, 14, 0, .ref uz_31), (nw, 14, 2, .int (t_21.ve nw)), (nw, 14, 4, .int (t_21.ln nw)), (nw, 14, 1, .int (t_21.ul nw)), (ol, 14, 5, .int qs_25), (ol, 14, 6, .ref ysb_17), (ol, 14, 7, .ref yse_17), (ol, 14, 8, .ref ysf_17), (ol, 14, 9, .int (fq.ck ol)), (r1, 14, 3, .ref ut_3), (r1, 14, 0, .ref uz_3), (r1, 14, 2, .int (rq.ve r1)), (r1, 14, 4, .int (rq.ln r1)), (r1, 14, 1, .int (rq.ul r1)), (ol, 14, 4, .int (rq.ln r1)), (ol, 14, 3, .ref ut_5), (ol, 14, 0, .ref uz_5), (ol, 14, 2, .int (rq.ve ol)), (ol, 14, 1, .int (rq.ul ol)), (r0, 16, 46, .ref ol), (r0, 16, 47, .ref nw), (r0, 16, 71, .ref td), (r0, 16, 43, .ref yg), (r0, 16, 44, .int pu)]) [0, 1, 2, 3, 4, 5, 6, 7, 8, 9, 10, 11, 12, 13, 14, 15, 16, 17, 18, 19, 20, 21, 22, 23, 24] rfl (M1 := [(ut_31, 194, 1500, ca 1, (t_21.tx nw)), (uz_31, 195, 40, ca 1, (t_21.ux nw)), (ysb_17, 190, 40, ca 1, gb_25), (yse_17, 191, 40, ca 1, ge_25), (ysf_17, 192, 40, ca 1, gl_25), (ut_3, 194, 1500, ca 1, (rq.tx r1)), (uz_3, 195, 40, ca 1, (rq.ux r1)), (ut_5, 194, 1500, ca 1, fo9_13), (uz_5, 195, 40, ca 1, (rq.ux ol)), (yg, 112, 3100, ca 1, fg)]) [0, 1, 2, 3, 4, 5, 6, 7, 8, 9] rfl (I1 := [(jFxd, jXD dC dI ca G0 none g_27)]) [1] rfl
        clear hh_34
        refine j7_putNX hx hb hown hK hh_37 hB hAp hB14 (C := RX12) (T := TX12) (N := 11) rfl (by decide) hgnw_1 (i := 4) (by decide) hly_14_4 rfl hlk_526 rfl (ty := .int) (v := .int pu) (by decide +kernel) rfl rfl (⟨_, rfl, by omega, by omega⟩) rfl (L1 := [(nw, 14, 3, .ref ut_31), (nw, 14, 0, .ref uz_31), (nw, 14, 2, .int (t_21.ve nw)), (nw, 14, 1, .int (t_21.ul nw)), (ol, 14, 5, .int qs_25), (ol, 14, 6, .ref ysb_17), (ol, 14, 7, .ref yse_17), (ol, 14, 8, .ref ysf_17), (ol, 14, 9, .int (fq.ck ol)), (r1, 14, 3, .ref ut_3), (r1, 14, 0, .ref uz_3), (r1, 14, 2, .int (rq.ve r1)), (r1, 14, 1, .int (rq.ul r1)), (ol, 14, 3, .ref ut_5), (ol, 14, 0, .ref uz_5), (ol, 14, 2, .int (rq.ve ol)), (ol, 14, 1, .int (rq.ul ol)), (r0, 16, 46, .ref ol), (r0, 16, 47, .ref nw), (r0, 16, 71, .ref td), (r0, 16, 43, .ref yg), (r0, 16, 44, .int pu)]) [0, 1, 2, 4, 5, 6, 7, 8, 9, 10, 11, 12, 14, 16, 17, 18, 19, 20, 21, 22, 23, 24] rfl rfl rfl dX14_same_57 (fun H_35 locs_35 hr_35 hf_35 hh_35 => ?_)
        clear hh_37
        have hd_36n := jRD.fld hd_36 hgnw_1 hr_35 hd_363 hd_360 (hh_35.at 1 rfl) (hh_35.at 2 rfl)
        have hh_38 := hh_35.addI (jRD.ie hd_36n)
        clear hh_35
        clear hd_36 hd_36n hd_363 hd_360 hr_35 hf_35
        refine lv_iconst (v := 0) hx hb dX14_same_60 (by decide) ?_
        refine lv_istore_n (lv' := [(2, .int 0), (0, .ref r0), (1, .ref r1)]) hx hb dX14_same_61 rfl hl (by decide) rfl (fun ls hl => ?_)
        have L62 : ∀ (N : Nat) (v2_39 : Int32) (fv_39 : Nat → Int32) (H_39 : Heap) (locs_39 : List Loc), jSt (dC, dI) B base G0 G0 EX14_sameT s.heap 0 0 [(nw, 14, 4, .int pu), (nw, 14, 3, .ref ut_31), (nw, 14, 0, .ref uz_31), (nw, 14, 2, .int (t_21.ve nw)), (nw, 14, 1, .int (t_21.ul nw)), (ol, 14, 5, .int qs_25), (ol, 14, 6, .ref ysb_17), (ol, 14, 7, .ref yse_17), (ol, 14, 8, .ref ysf_17), (ol, 14, 9, .int (fq.ck ol)), (r1, 14, 3, .ref ut_3), (r1, 14, 0, .ref uz_3), (r1, 14, 2, .int (rq.ve r1)), (r1, 14, 1, .int (rq.ul r1)), (ol, 14, 3, .ref ut_5), (ol, 14, 0, .ref uz_5), (ol, 14, 2, .int (rq.ve ol)), (ol, 14, 1, .int (rq.ul ol)), (r0, 16, 46, .ref ol), (r0, 16, 47, .ref nw), (r0, 16, 71, .ref td), (r0, 16, 43, .ref yg), (r0, 16, 44, .int pu)] [(ut_31, 194, 1500, ca 1, fv_39), (uz_31, 195, 40, ca 1, (t_21.ux nw)), (ysb_17, 190, 40, ca 1, gb_25), (yse_17, 191, 40, ca 1, ge_25), (ysf_17, 192, 40, ca 1, gl_25), (uz_3, 195, 40, ca 1, (rq.ux r1)), (uz_5, 195, 40, ca 1, (rq.ux ol)), (yg, 112, 3100, ca 1, fg)] [(jFrd, jRD dC dI ca G0 (some nw) t_21), (jFxd, jXD dC dI ca G0 none g_27)] H_39 locs_39 → (0 ≤ v2_39.toInt ∧ v2_39.toInt ≤ pu.toInt ∧ jEqU fv_39 fg v2_39.toInt) → (pu.toInt - v2_39.toInt : Int) < N → ∀ ls : Array Slot, lv_has ls 3 [(0, .ref r0), (1, .ref r1), (2, .int v2_39)] → W p l e R s m ([.ref r0, .ref r1] : List Value).toArray below meth c H_39 locs_39 0 0 Q (F0 m 62 ls []) := by
          intro N
          induction N with
          | zero => intro v2_39 fv_39 H_39 locs_39 hh_39  hi_39 hm; exact absurd hm (by omega)
          | succ N L62 =>
            intro v2_39 fv_39 H_39 locs_39 hh_39  hi_39 hm_39 ls hl
            obtain ⟨hi_39_0, hi_39_1, hi_39_2⟩ := hi_39
            refine lv_iload_n hx hb dX14_same_62 rfl (lv_at hl 2 rfl) ?_
            refine lv_aload_n hx hb dX14_same_63 rfl (lv_at hl 0 rfl) ?_
            refine j7_read hx hb hown hK (C := RX14) (T := TX14) (N := 74) rfl hly_16_44 hlk_550 (hh_39.at 22 rfl) dX14_same_64 ?_
            refine lv_icmp_ge (tgt := 91) hx hb dX14_same_67 (by decide) (fun c_40 => ?_) (fun c_40 => ?_)
            · skip
              have c_40' : v2_39.toInt ≥ pu.toInt := jb_ge (rfl) (rfl) c_40
              obtain ⟨⟨ysb_41, yse_41, ysf_41, hgsb_41, hgse_41, hgsf_41, hgP_41, hgM_41⟩, hGe_41⟩ := jXD.opn (ca := ca) (hh_39.iv 1 rfl) hgnw_1
              have hh_42 := ((hh_39.sub (L1 := [(nw, 14, 4, .int pu), (nw, 14, 3, .ref ut_31), (nw, 14, 0, .ref uz_31), (nw, 14, 2, .int (t_21.ve nw)), (nw, 14, 1, .int (t_21.ul nw)), (ol, 14, 5, .int qs_25), (ol, 14, 6, .ref ysb_17), (ol, 14, 7, .ref yse_17), (ol, 14, 8, .ref ysf_17), (ol, 14, 9, .int (fq.ck ol)), (r1, 14, 3, .ref ut_3), (r1, 14, 0, .ref uz_3), (r1, 14, 2, .int (rq.ve r1)), (r1, 14, 1, .int (rq.ul r1)), (ol, 14, 3, .ref ut_5), (ol, 14, 0, .ref uz_5), (ol, 14, 2, .int (rq.ve ol)), (ol, 14, 1, .int (rq.ul ol)), (r0, 16, 46, .ref ol), (r0, 16, 47, .ref nw), (r0, 16, 71, .ref td), (r0, 16, 43, .ref yg), (r0, 16, 44, .int pu)]) [0, 1, 2, 3, 4, 5, 6, 7, 8, 9, 10, 11, 12, 13, 14, 15, 16, 17, 18, 19, 20, 21, 22] rfl (M1 := [(ut_31, 194, 1500, ca 1, fv_39), (uz_31, 195, 40, ca 1, (t_21.ux nw)), (ysb_17, 190, 40, ca 1, gb_25), (yse_17, 191, 40, ca 1, ge_25), (ysf_17, 192, 40, ca 1, gl_25), (uz_3, 195, 40, ca 1, (rq.ux r1)), (uz_5, 195, 40, ca 1, (rq.ux ol)), (yg, 112, 3100, ca 1, fg)]) [0, 1, 2, 3, 4, 5, 6, 7] rfl (I1 := [(jFrd, jRD dC dI ca G0 (some nw) t_21), (jFxd, jXD dC dI ca G0 none g_27)]) [0, 1] rfl).more (hgP_41.sub (L1 := [(nw, 14, 6, .ref ysb_41), (nw, 14, 7, .ref yse_41), (nw, 14, 8, .ref ysf_41), (nw, 14, 5, .int (g_27.sn nw)), (nw, 14, 9, .int (g_27.ck nw))]) [0, 1, 2, 3, 4] rfl)).moreM hgM_41
              clear hh_39
              have hh_43 := hh_42.sub (L1 := [(nw, 14, 6, .ref ysb_41), (nw, 14, 7, .ref yse_41), (nw, 14, 8, .ref ysf_41), (nw, 14, 5, .int (g_27.sn nw)), (nw, 14, 9, .int (g_27.ck nw)), (nw, 14, 4, .int pu), (nw, 14, 3, .ref ut_31), (nw, 14, 0, .ref uz_31), (nw, 14, 2, .int (t_21.ve nw)), (nw, 14, 1, .int (t_21.ul nw)), (ol, 14, 5, .int qs_25), (ol, 14, 6, .ref ysb_17), (ol, 14, 7, .ref yse_17), (ol, 14, 8, .ref ysf_17), (ol, 14, 9, .int (fq.ck ol)), (r1, 14, 3, .ref ut_3), (r1, 14, 0, .ref uz_3), (r1, 14, 2, .int (rq.ve r1)), (r1, 14, 1, .int (rq.ul r1)), (ol, 14, 3, .ref ut_5), (ol, 14, 0, .ref uz_5), (ol, 14, 2, .int (rq.ve ol)), (ol, 14, 1, .int (rq.ul ol)), (r0, 16, 46, .ref ol), (r0, 16, 47, .ref nw), (r0, 16, 71, .ref td), (r0, 16, 43, .ref yg), (r0, 16, 44, .int pu)]) [0, 1, 2, 3, 4, 5, 6, 7, 8, 9, 10, 11, 12, 13, 14, 15, 16, 17, 18, 19, 20, 21, 22, 23, 24, 25, 26, 27] rfl (M1 := [(ysb_41, 190, 40, ca 1, (g_27.sb nw)), (yse_41, 191, 40, ca 1, (g_27.se nw)), (ysf_41, 192, 40, ca 1, (g_27.sf nw)), (ut_31, 194, 1500, ca 1, fv_39), (uz_31, 195, 40, ca 1, (t_21.ux nw)), (ysb_17, 190, 40, ca 1, gb_25), (yse_17, 191, 40, ca 1, ge_25), (ysf_17, 192, 40, ca 1, gl_25), (uz_3, 195, 40, ca 1, (rq.ux r1)), (uz_5, 195, 40, ca 1, (rq.ux ol)), (yg, 112, 3100, ca 1, fg)]) [0, 1, 2, 3, 4, 5, 6, 7, 8, 9, 10] rfl (I1 := [(jFrd, jRD dC dI ca G0 (some nw) t_21)]) [0] rfl
              clear hh_42
              have hh_44 := hh_43.addI (jXD.ie hGe_41)
              clear hh_43
              have hF_45 := jRD.full (hh_44.iv 1 rfl) hgnw_1 (hh_44.at 6 rfl) (hh_44.at 7 rfl) (hh_44.at 8 rfl) (hh_44.at 5 rfl) (hh_44.at 9 rfl) (hh_44.2.2.2.2.2.2.2.1.sub (L1 := [(ut_31, 194, 1500, ca 1, fv_39), (uz_31, 195, 40, ca 1, (t_21.ux nw))]) [3, 4] rfl)
              obtain ⟨t_45, ht_46⟩ : ∃ q : jDtr, q = t_21.put nw (t_21.ve nw) pu fv_39 (t_21.ul nw) (t_21.ux nw) := ⟨_, rfl⟩
              rw [← ht_46] at hF_45
              have hh_47 := hh_44.sub (L1 := [(nw, 14, 6, .ref ysb_41), (nw, 14, 7, .ref yse_41), (nw, 14, 8, .ref ysf_41), (nw, 14, 5, .int (g_27.sn nw)), (nw, 14, 9, .int (g_27.ck nw)), (nw, 14, 4, .int pu), (nw, 14, 3, .ref ut_31), (nw, 14, 0, .ref uz_31), (nw, 14, 2, .int (t_21.ve nw)), (nw, 14, 1, .int (t_21.ul nw)), (ol, 14, 5, .int qs_25), (ol, 14, 6, .ref ysb_17), (ol, 14, 7, .ref yse_17), (ol, 14, 8, .ref ysf_17), (ol, 14, 9, .int (fq.ck ol)), (r1, 14, 3, .ref ut_3), (r1, 14, 0, .ref uz_3), (r1, 14, 2, .int (rq.ve r1)), (r1, 14, 1, .int (rq.ul r1)), (ol, 14, 3, .ref ut_5), (ol, 14, 0, .ref uz_5), (ol, 14, 2, .int (rq.ve ol)), (ol, 14, 1, .int (rq.ul ol)), (r0, 16, 46, .ref ol), (r0, 16, 47, .ref nw), (r0, 16, 71, .ref td), (r0, 16, 43, .ref yg), (r0, 16, 44, .int pu)]) [0, 1, 2, 3, 4, 5, 6, 7, 8, 9, 10, 11, 12, 13, 14, 15, 16, 17, 18, 19, 20, 21, 22, 23, 24, 25, 26, 27] rfl (M1 := [(ysb_41, 190, 40, ca 1, (g_27.sb nw)), (yse_41, 191, 40, ca 1, (g_27.se nw)), (ysf_41, 192, 40, ca 1, (g_27.sf nw)), (ut_31, 194, 1500, ca 1, fv_39), (uz_31, 195, 40, ca 1, (t_21.ux nw)), (ysb_17, 190, 40, ca 1, gb_25), (yse_17, 191, 40, ca 1, ge_25), (ysf_17, 192, 40, ca 1, gl_25), (uz_3, 195, 40, ca 1, (rq.ux r1)), (uz_5, 195, 40, ca 1, (rq.ux ol)), (yg, 112, 3100, ca 1, fg)]) [0, 1, 2, 3, 4, 5, 6, 7, 8, 9, 10] rfl (I1 := [(jFxd, jXD dC dI ca G0 (some nw) g_27)]) [0] rfl
              clear hh_44
              have hh_48 := hh_47.addI (jRD.ie hF_45)
              clear hh_47
              refine lv_aload_n hx hb dX14_same_91 rfl (lv_at hl 0 rfl) ?_
              refine j7_read hx hb hown hK (C := RX14) (T := TX14) (N := 74) rfl hly_16_47 hlk_88 (hh_48.at 24 rfl) dX14_same_92 ?_
              refine va_callv (A0 := jA base) (H0 := s.heap) (va_runS (As := [.ref nw]) (rest := []) ⟨hx, hb, hml, hown, hts⟩ (uX14_partF l dC dI ca base B hB hAp hB14 hB101 hB190 hB191 hB192 hB194 G0 H_39 nw ut_31 pu ysb_41 yse_41 ysf_41 g_27 fv_39 (g_27.sb nw) (g_27.se nw) (g_27.sf nw)) (va_cwS 1 hts (jgS (jWr_57 _ (List.mem_of_getElem? (i := 10) rfl)) (jWr_57 _ (List.mem_of_getElem? (i := 11) rfl)) (jWr_1 _ (List.mem_of_getElem? (i := 5) rfl)) (jWr_57 _ (List.mem_of_getElem? (i := 12) rfl))) rfl rfl rfl (by decide +kernel) ⟨by rw [← hR]; exact Nat.le_of_ble_eq_true rfl, by rw [← hR]; exact Nat.le_of_ble_eq_true rfl⟩) ⟨fun a U g mk q => by obtain ⟨q0, q1, q2, qK, q10, q11, q12, q13, q14, q15, q16, q17, q18⟩ := q; exact ⟨q0, q1, q2, jG.calling g mk a qK, q10, q11, q12, q13, q14, q15, q16, q17, q18⟩, fun U hU hW => ⟨rfl, hU, hh_48.2.1, hG.step hW hU hh_48.1, hgnw_1, hgt_31, hgsb_41, hgse_41, hgsf_41, (hh_48.2.2.1.sub (L1 := [(nw, 14, 3, .ref ut_31), (nw, 14, 4, .int pu), (nw, 14, 6, .ref ysb_41), (nw, 14, 7, .ref yse_41), (nw, 14, 8, .ref ysf_41)]) [6, 5, 0, 1, 2] rfl), (hh_48.2.2.2.2.2.2.2.1.sub (L1 := [(ut_31, 194, 1500, ca 1, fv_39), (ysb_41, 190, 40, ca 1, (g_27.sb nw)), (yse_41, 191, 40, ca 1, (g_27.se nw)), (ysf_41, 192, 40, ca 1, (g_27.sf nw))]) [3, 0, 1, 2] rfl), (hh_48.2.2.2.2.2.2.2.2.sub (L1 := [(jFxd, jXD dC dI ca G0 (some nw) g_27)]) [1] rfl), by first | omega | (refine ⟨?_, ?_⟩ <;> (first | omega | rfl | assumption | decide | exact Or.inl rfl | exact Or.inr rfl | (simp only; omega)))⟩⟩ rfl rfl hl.1 rfl (lv_room (Nat.le_of_ble_eq_true rfl)) dX14_same_95 ⟨Nat.zero_le _, Nat.zero_le _⟩) hh_48.1 (fun q _ h => h) (fun q h => h) (fun u_49 t_49 H_49 locs_49 ht_49 hvm_49 hr_50 hb_49 hz_49 hk_49 hS_49 => ?_)
              obtain ⟨qs_49, gb_49, ge_49, gl_49⟩ := u_49
              rw [ht_49] at hb_49
              obtain ⟨hb_49, hbE_49⟩ := hb_49
              obtain ⟨⟨hb_491, hb_492, hb_493, hb_494, hb_495⟩, hb_496⟩ := hb_49
              have hh_49 : jSt (dC, dI) B base G0 G0 EX14_sameT s.heap 0 0 [(nw, 14, 5, .int qs_49), (nw, 14, 6, .ref ysb_41), (nw, 14, 7, .ref yse_41), (nw, 14, 8, .ref ysf_41), (nw, 14, 9, .int (g_27.ck nw)), (nw, 14, 4, .int pu), (nw, 14, 3, .ref ut_31), (nw, 14, 0, .ref uz_31), (nw, 14, 2, .int (t_21.ve nw)), (nw, 14, 1, .int (t_21.ul nw)), (ol, 14, 6, .ref ysb_17), (ol, 14, 7, .ref yse_17), (ol, 14, 8, .ref ysf_17), (ol, 14, 9, .int (fq.ck ol)), (r1, 14, 3, .ref ut_3), (r1, 14, 0, .ref uz_3), (r1, 14, 2, .int (rq.ve r1)), (r1, 14, 1, .int (rq.ul r1)), (ol, 14, 3, .ref ut_5), (ol, 14, 0, .ref uz_5), (ol, 14, 2, .int (rq.ve ol)), (ol, 14, 1, .int (rq.ul ol)), (r0, 16, 46, .ref ol), (r0, 16, 47, .ref nw), (r0, 16, 71, .ref td), (r0, 16, 43, .ref yg), (r0, 16, 44, .int pu)] [(ysb_41, 190, 40, ca 1, gb_49), (yse_41, 191, 40, ca 1, ge_49), (ysf_41, 192, 40, ca 1, gl_49), (ut_31, 194, 1500, ca 1, fv_39), (uz_31, 195, 40, ca 1, (t_21.ux nw)), (uz_3, 195, 40, ca 1, (rq.ux r1)), (uz_5, 195, 40, ca 1, (rq.ux ol)), (yg, 112, 3100, ca 1, fg)] [(jFxd, jXD dC dI ca G0 (some nw) g_27), (jFrd, jRD dC dI ca G0 none t_45)] H_49 locs_49 := (((hh_48.call hb_491 hb_492 hb_493 hb_494 hS_49 rfl (L1 := [(nw, 14, 6, .ref ysb_41), (nw, 14, 7, .ref yse_41), (nw, 14, 8, .ref ysf_41), (nw, 14, 9, .int (g_27.ck nw)), (nw, 14, 4, .int pu), (nw, 14, 3, .ref ut_31), (nw, 14, 0, .ref uz_31), (nw, 14, 2, .int (t_21.ve nw)), (nw, 14, 1, .int (t_21.ul nw)), (ol, 14, 6, .ref ysb_17), (ol, 14, 7, .ref yse_17), (ol, 14, 8, .ref ysf_17), (ol, 14, 9, .int (fq.ck ol)), (r1, 14, 3, .ref ut_3), (r1, 14, 0, .ref uz_3), (r1, 14, 2, .int (rq.ve r1)), (r1, 14, 1, .int (rq.ul r1)), (ol, 14, 3, .ref ut_5), (ol, 14, 0, .ref uz_5), (ol, 14, 2, .int (rq.ve ol)), (ol, 14, 1, .int (rq.ul ol)), (r0, 16, 46, .ref ol), (r0, 16, 47, .ref nw), (r0, 16, 71, .ref td), (r0, 16, 43, .ref yg), (r0, 16, 44, .int pu)]) [0, 1, 2, 4, 5, 6, 7, 8, 9, 11, 12, 13, 14, 15, 16, 17, 18, 19, 20, 21, 22, 23, 24, 25, 26, 27] rfl rfl (M1 := [(ut_31, 194, 1500, ca 1, fv_39), (uz_31, 195, 40, ca 1, (t_21.ux nw)), (uz_3, 195, 40, ca 1, (rq.ux r1)), (uz_5, 195, 40, ca 1, (rq.ux ol)), (yg, 112, 3100, ca 1, fg)]) [3, 4, 8, 9, 10] rfl rfl (I1 := [(jFrd, jRD dC dI ca G0 none t_45)]) [0] rfl rfl).more hb_495).moreM hb_496).addIs hbE_49
              clear hh_48 ht_49 hvm_49 hz_49 hk_49 hS_49 hb_491 hb_492 hb_493 hb_494 hb_495
              clear hb_496
              clear  hbE_49
              try simp only at hr_50
              obtain ⟨hr_50_0, hr_50_1, hr_50_2, hr_50_3, hr_50_4, hr_50_5⟩ := hr_50
              have hF_51 := jXD.full (ca := ca) (hh_49.iv 0 rfl) hgnw_1 (hh_49.at 1 rfl) (hh_49.at 2 rfl) (hh_49.at 3 rfl) (hh_49.at 0 rfl) (hh_49.at 4 rfl) (hh_49.2.2.2.2.2.2.2.1.sub (L1 := [(ysb_41, 190, 40, ca 1, gb_49), (yse_41, 191, 40, ca 1, ge_49), (ysf_41, 192, 40, ca 1, gl_49)]) [0, 1, 2] rfl)
              obtain ⟨g_51, ht_52⟩ : ∃ q : jXg, q = g_27.put nw qs_49 (g_27.ck nw) gb_49 ge_49 gl_49 := ⟨_, rfl⟩
              rw [← ht_52] at hF_51
              have hh_53 := hh_49.sub (L1 := [(nw, 14, 5, .int qs_49), (nw, 14, 6, .ref ysb_41), (nw, 14, 7, .ref yse_41), (nw, 14, 8, .ref ysf_41), (nw, 14, 9, .int (g_27.ck nw)), (nw, 14, 4, .int pu), (nw, 14, 3, .ref ut_31), (nw, 14, 0, .ref uz_31), (nw, 14, 2, .int (t_21.ve nw)), (nw, 14, 1, .int (t_21.ul nw)), (ol, 14, 6, .ref ysb_17), (ol, 14, 7, .ref yse_17), (ol, 14, 8, .ref ysf_17), (ol, 14, 9, .int (fq.ck ol)), (r1, 14, 3, .ref ut_3), (r1, 14, 0, .ref uz_3), (r1, 14, 2, .int (rq.ve r1)), (r1, 14, 1, .int (rq.ul r1)), (ol, 14, 3, .ref ut_5), (ol, 14, 0, .ref uz_5), (ol, 14, 2, .int (rq.ve ol)), (ol, 14, 1, .int (rq.ul ol)), (r0, 16, 46, .ref ol), (r0, 16, 47, .ref nw), (r0, 16, 71, .ref td), (r0, 16, 43, .ref yg), (r0, 16, 44, .int pu)]) [0, 1, 2, 3, 4, 5, 6, 7, 8, 9, 10, 11, 12, 13, 14, 15, 16, 17, 18, 19, 20, 21, 22, 23, 24, 25, 26] rfl (M1 := [(ysb_41, 190, 40, ca 1, gb_49), (yse_41, 191, 40, ca 1, ge_49), (ysf_41, 192, 40, ca 1, gl_49), (ut_31, 194, 1500, ca 1, fv_39), (uz_31, 195, 40, ca 1, (t_21.ux nw)), (uz_3, 195, 40, ca 1, (rq.ux r1)), (uz_5, 195, 40, ca 1, (rq.ux ol)), (yg, 112, 3100, ca 1, fg)]) [0, 1, 2, 3, 4, 5, 6, 7] rfl (I1 := [(jFrd, jRD dC dI ca G0 none t_45)]) [1] rfl
              clear hh_49
              have hh_54 := hh_53.addI (jXD.ie hF_51)
              clear hh_53
              obtain ⟨ysb_55, yse_55, ysf_55, hgsb_55, hgse_55, hgsf_55, hgP_55, hgM_55⟩ := jXD.at (ca := ca) (hh_54.iv 0 rfl) hgol_1 (fun q => by cases q)
              obtain rfl : ysb_17 = ysb_55 := by have h9 := jf.uniq (hh_54.at 10 rfl) (hgP_55 _ (List.mem_of_getElem? (i := 0) rfl)).2; cases h9; rfl
              obtain rfl : yse_17 = yse_55 := by have h9 := jf.uniq (hh_54.at 11 rfl) (hgP_55 _ (List.mem_of_getElem? (i := 1) rfl)).2; cases h9; rfl
              obtain rfl : ysf_17 = ysf_55 := by have h9 := jf.uniq (hh_54.at 12 rfl) (hgP_55 _ (List.mem_of_getElem? (i := 2) rfl)).2; cases h9; rfl
              have hge_55_4 := congrArg Int32.toInt (Value.int.inj (jf.uniq (hh_54.at 13 rfl) (hgP_55 _ (List.mem_of_getElem? (i := 4) rfl)).2))
              have hh_56 := ((hh_54.sub (L1 := [(nw, 14, 5, .int qs_49), (nw, 14, 6, .ref ysb_41), (nw, 14, 7, .ref yse_41), (nw, 14, 8, .ref ysf_41), (nw, 14, 9, .int (g_27.ck nw)), (nw, 14, 4, .int pu), (nw, 14, 3, .ref ut_31), (nw, 14, 0, .ref uz_31), (nw, 14, 2, .int (t_21.ve nw)), (nw, 14, 1, .int (t_21.ul nw)), (r1, 14, 3, .ref ut_3), (r1, 14, 0, .ref uz_3), (r1, 14, 2, .int (rq.ve r1)), (r1, 14, 1, .int (rq.ul r1)), (ol, 14, 3, .ref ut_5), (ol, 14, 0, .ref uz_5), (ol, 14, 2, .int (rq.ve ol)), (ol, 14, 1, .int (rq.ul ol)), (r0, 16, 46, .ref ol), (r0, 16, 47, .ref nw), (r0, 16, 71, .ref td), (r0, 16, 43, .ref yg), (r0, 16, 44, .int pu)]) [0, 1, 2, 3, 4, 5, 6, 7, 8, 9, 14, 15, 16, 17, 18, 19, 20, 21, 22, 23, 24, 25, 26] rfl (M1 := [(ysb_41, 190, 40, ca 1, gb_49), (yse_41, 191, 40, ca 1, ge_49), (ysf_41, 192, 40, ca 1, gl_49), (ut_31, 194, 1500, ca 1, fv_39), (uz_31, 195, 40, ca 1, (t_21.ux nw)), (uz_3, 195, 40, ca 1, (rq.ux r1)), (uz_5, 195, 40, ca 1, (rq.ux ol)), (yg, 112, 3100, ca 1, fg)]) [0, 1, 2, 3, 4, 5, 6, 7] rfl (I1 := [(jFxd, jXD dC dI ca G0 none g_51), (jFrd, jRD dC dI ca G0 none t_45)]) [0, 1] rfl).more (hgP_55.sub (L1 := [(ol, 14, 6, .ref ysb_17), (ol, 14, 7, .ref yse_17), (ol, 14, 8, .ref ysf_17), (ol, 14, 5, .int (g_51.sn ol)), (ol, 14, 9, .int (g_51.ck ol))]) [0, 1, 2, 3, 4] rfl)).moreM hgM_55
              clear hh_54
              obtain ⟨ut_57, uz_57, hgt_57, hgz_57, huP_57, huM_57⟩ := jRD.at (hh_56.iv 1 rfl) hgol_1 (fun q => by cases q)
              obtain rfl : ut_5 = ut_57 := by have h9 := jf.uniq (hh_56.at 19 rfl) (huP_57 _ (List.mem_of_getElem? (i := 0) rfl)).2; cases h9; rfl
              obtain rfl : uz_5 = uz_57 := by have h9 := jf.uniq (hh_56.at 20 rfl) (huP_57 _ (List.mem_of_getElem? (i := 1) rfl)).2; cases h9; rfl
              have hul_57_ve : (rq.ve ol) = t_45.ve ol := Value.int.inj (jf.uniq (hh_56.at 21 rfl) (huP_57 _ (List.mem_of_getElem? (i := 2) rfl)).2)
              have hul_57_ul : (rq.ul ol) = t_45.ul ol := Value.int.inj (jf.uniq (hh_56.at 22 rfl) (huP_57 _ (List.mem_of_getElem? (i := 4) rfl)).2)
              have hh_58 := ((hh_56.sub (L1 := [(ol, 14, 6, .ref ysb_17), (ol, 14, 7, .ref yse_17), (ol, 14, 8, .ref ysf_17), (ol, 14, 5, .int (g_51.sn ol)), (ol, 14, 9, .int (g_51.ck ol)), (nw, 14, 5, .int qs_49), (nw, 14, 6, .ref ysb_41), (nw, 14, 7, .ref yse_41), (nw, 14, 8, .ref ysf_41), (nw, 14, 9, .int (g_27.ck nw)), (nw, 14, 4, .int pu), (nw, 14, 3, .ref ut_31), (nw, 14, 0, .ref uz_31), (nw, 14, 2, .int (t_21.ve nw)), (nw, 14, 1, .int (t_21.ul nw)), (r1, 14, 3, .ref ut_3), (r1, 14, 0, .ref uz_3), (r1, 14, 2, .int (rq.ve r1)), (r1, 14, 1, .int (rq.ul r1)), (r0, 16, 46, .ref ol), (r0, 16, 47, .ref nw), (r0, 16, 71, .ref td), (r0, 16, 43, .ref yg), (r0, 16, 44, .int pu)]) [0, 1, 2, 3, 4, 5, 6, 7, 8, 9, 10, 11, 12, 13, 14, 15, 16, 17, 18, 23, 24, 25, 26, 27] rfl (M1 := [(ysb_17, 190, 40, ca 1, (g_51.sb ol)), (yse_17, 191, 40, ca 1, (g_51.se ol)), (ysf_17, 192, 40, ca 1, (g_51.sf ol)), (ysb_41, 190, 40, ca 1, gb_49), (yse_41, 191, 40, ca 1, ge_49), (ysf_41, 192, 40, ca 1, gl_49), (ut_31, 194, 1500, ca 1, fv_39), (uz_31, 195, 40, ca 1, (t_21.ux nw)), (uz_3, 195, 40, ca 1, (rq.ux r1)), (yg, 112, 3100, ca 1, fg)]) [0, 1, 2, 3, 4, 5, 6, 7, 8, 10] rfl (I1 := [(jFxd, jXD dC dI ca G0 none g_51), (jFrd, jRD dC dI ca G0 none t_45)]) [0, 1] rfl).more huP_57).moreM huM_57
              clear hh_56
              have hE1 : t_45.tx ol = fo9_13 := by rw [ht_46, (jDtr.pn hp6).2.2.1, ht_22]; exact jDtr.ps.2.2.1
              have hE3 : g_51.sn ol = qs_25 ∧ g_51.sb ol = gb_25 ∧ g_51.se ol = ge_25 ∧ g_51.sf ol = gl_25 := by rw [ht_52]; obtain ⟨x1, -, x3, x4, x5⟩ := jXg.pn (q := _) (sn := _) (ck := _) (sb := _) (se := _) (sf := _) hp6; rw [x1, x3, x4, x5, ht_28]; exact ⟨jXg.ps.1, jXg.ps.2.2.1, jXg.ps.2.2.2.1, jXg.ps.2.2.2.2⟩
              have hE5 := congrArg Int32.toInt hE3.1
              refine lv_iconst (v := 0) hx hb dX14_same_98 (by decide) ?_
              refine lv_istore_n (lv' := [(2, .int 0), (0, .ref r0), (1, .ref r1)]) hx hb dX14_same_99 rfl hl (by decide) rfl (fun ls hl => ?_)
              have L100 : ∀ (N : Nat) (v2_59 : Int32) (H_59 : Heap) (locs_59 : List Loc), jSt (dC, dI) B base G0 G0 EX14_sameT s.heap 0 0 [(ol, 14, 3, .ref ut_5), (ol, 14, 0, .ref uz_5), (ol, 14, 2, .int (t_45.ve ol)), (ol, 14, 4, .int (t_45.ln ol)), (ol, 14, 1, .int (t_45.ul ol)), (ol, 14, 6, .ref ysb_17), (ol, 14, 7, .ref yse_17), (ol, 14, 8, .ref ysf_17), (ol, 14, 5, .int (g_51.sn ol)), (ol, 14, 9, .int (g_51.ck ol)), (nw, 14, 5, .int qs_49), (nw, 14, 6, .ref ysb_41), (nw, 14, 7, .ref yse_41), (nw, 14, 8, .ref ysf_41), (nw, 14, 9, .int (g_27.ck nw)), (nw, 14, 4, .int pu), (nw, 14, 3, .ref ut_31), (nw, 14, 0, .ref uz_31), (nw, 14, 2, .int (t_21.ve nw)), (nw, 14, 1, .int (t_21.ul nw)), (r1, 14, 3, .ref ut_3), (r1, 14, 0, .ref uz_3), (r1, 14, 2, .int (rq.ve r1)), (r1, 14, 1, .int (rq.ul r1)), (r0, 16, 46, .ref ol), (r0, 16, 47, .ref nw), (r0, 16, 71, .ref td), (r0, 16, 43, .ref yg), (r0, 16, 44, .int pu)] [(ut_5, 194, 1500, ca 1, (t_45.tx ol)), (uz_5, 195, 40, ca 1, (t_45.ux ol)), (ysb_17, 190, 40, ca 1, (g_51.sb ol)), (yse_17, 191, 40, ca 1, (g_51.se ol)), (ysf_17, 192, 40, ca 1, (g_51.sf ol)), (ysb_41, 190, 40, ca 1, gb_49), (yse_41, 191, 40, ca 1, ge_49), (ysf_41, 192, 40, ca 1, gl_49), (ut_31, 194, 1500, ca 1, fv_39), (uz_31, 195, 40, ca 1, (t_21.ux nw)), (uz_3, 195, 40, ca 1, (rq.ux r1)), (yg, 112, 3100, ca 1, fg)] [(jFxd, jXD dC dI ca G0 none g_51), (jFrd, jRD dC dI ca G0 none t_45)] H_59 locs_59 → (0 ≤ v2_59.toInt ∧ v2_59.toInt ≤ qs_25.toInt ∧ v2_59.toInt ≤ qs_49.toInt ∧ (∀ j : Int, 0 ≤ j → j < v2_59.toInt → jcU fo9_13 (rq.ln r1).toInt j.toNat = jcU fv_39 pu.toInt j.toNat)) → (qs_25.toInt - v2_59.toInt : Int) < N → ∀ ls : Array Slot, lv_has ls 3 [(0, .ref r0), (1, .ref r1), (2, .int v2_59)] → W p l e R s m ([.ref r0, .ref r1] : List Value).toArray below meth c H_59 locs_59 0 0 Q (F0 m 100 ls []) := by
                intro N
                induction N with
                | zero => intro v2_59 H_59 locs_59 hh_59  hi_59 hm; exact absurd hm (by omega)
                | succ N L100 =>
                  intro v2_59 H_59 locs_59 hh_59  hi_59 hm_59 ls hl
                  obtain ⟨hi_59_0, hi_59_1, hi_59_2, hi_59_3⟩ := hi_59
                  refine lv_iload_n hx hb dX14_same_100 rfl (lv_at hl 2 rfl) ?_
                  refine lv_aload_n hx hb dX14_same_101 rfl (lv_at hl 0 rfl) ?_
                  refine j7_read hx hb hown hK (C := RX14) (T := TX14) (N := 74) rfl hly_16_46 hlk_84 (hh_59.at 24 rfl) dX14_same_102 ?_
                  refine j7_readN hx hb hown hK (C := RX12) (T := TX12) (N := 11) rfl hly_14_5 hlk_587 (hh_59.at 8 rfl) dX14_same_105 ?_
                  refine lv_icmp_ge (tgt := 144) hx hb dX14_same_108 (by decide) (fun c_60 => ?_) (fun c_60 => ?_)
                  · skip
                    have c_60' : v2_59.toInt ≥ (g_51.sn ol).toInt := jb_ge (rfl) (rfl) c_60
                    refine lv_iload_n hx hb dX14_same_144 rfl (lv_at hl 2 rfl) ?_
                    have hHf_61 : jHo dC dI ca G0 r0 ol nw td H_59 := ⟨⟨_, hg_r0⟩, ⟨hgol_1, hgnw_1, hgtd_1⟩, hh_59.2.2.1.sub (L1 := [(r0, 16, 46, .ref ol), (r0, 16, 47, .ref nw), (r0, 16, 71, .ref td)]) [24, 25, 26] rfl, hh_59.2.2.2.2.2.2.2.1.sub (L1 := []) [] rfl, trivial, hoR_1⟩
                    have hh_62 := hh_59.addI (jHo.ie hHf_61)
                    clear hh_59
                    rw [hQ]
                    exact W.iret (v := v2_59) hx hb hr (fun t ht hW => ⟨⟨v2_59, (t_45, g_51), rfl, by (try dsimp only); skip; (try dsimp only); refine ⟨?_, by rw [ht_46, ht_22]; exact jrO.pp, by rw [ht_52, ht_28]; exact jrP.pp, by rw [ht_46, ht_22]; exact (hp2.put (by omega) (by omega) (hp2 _).2.2.1 (hp2 _).2.2.2).put (by omega) (by omega) (hp2.put (by omega) (by omega) (hp2 _).2.2.1 (hp2 _).2.2.2 _).2.2.1 (hp2.put (by omega) (by omega) (hp2 _).2.2.1 (hp2 _).2.2.2 _).2.2.2, by rw [ht_52, ht_28]; exact (hp3.put (hr_26_3.up (by omega)) (by omega) (by omega)).put (hr_50_3.up (by omega)) (by omega) (by omega)⟩; refine Eq.trans (jwSy.of hb1.1 hp0 (by omega) (by rw [← hr_26_0]; omega) (by rw [← hr_50_0]; omega) hi_59_3 (fun q9 => by rw [← hr_26_0] at q9; omega)) (jwSy.cg hb1.1 hp0 (hi_13_2.up (by omega)) (hi_39_2.up (by omega))), ⟨hh_62.rt (M1 := []) [] rfl ht, by rw [ht]; exact hh_62.2.2.2.2.2.2.2.2.sub (L1 := [(jFrd, jRD dC dI ca G0 none t_45), (jFxd, jXD dC dI ca G0 none g_51), (jFHo, jHo dC dI ca G0 r0 ol nw td)]) [2, 1, 0] rfl⟩⟩, by rw [ht]; try exact hh_62.1.1, fun q h9 hq => by rw [ht]; try exact hh_62.1.2.1 q h9 hq⟩) hh_62.1.2.2 dX14_same_145
                  · skip
                    have c_60' : v2_59.toInt < (g_51.sn ol).toInt := jb_ge_n (rfl) (rfl) c_60
                    refine lv_iload_n hx hb dX14_same_111 rfl (lv_at hl 2 rfl) ?_
                    refine lv_aload_n hx hb dX14_same_112 rfl (lv_at hl 0 rfl) ?_
                    refine j7_read hx hb hown hK (C := RX14) (T := TX14) (N := 74) rfl hly_16_47 hlk_88 (hh_59.at 25 rfl) dX14_same_113 ?_
                    refine j7_readN hx hb hown hK (C := RX12) (T := TX12) (N := 11) rfl hly_14_5 hlk_587 (hh_59.at 10 rfl) dX14_same_116 ?_
                    refine lv_icmp_ge (tgt := 144) hx hb dX14_same_119 (by decide) (fun c_63 => ?_) (fun c_63 => ?_)
                    · skip
                      have c_63' : v2_59.toInt ≥ qs_49.toInt := jb_ge (rfl) (rfl) c_63
                      refine lv_iload_n hx hb dX14_same_144 rfl (lv_at hl 2 rfl) ?_
                      have hHf_64 : jHo dC dI ca G0 r0 ol nw td H_59 := ⟨⟨_, hg_r0⟩, ⟨hgol_1, hgnw_1, hgtd_1⟩, hh_59.2.2.1.sub (L1 := [(r0, 16, 46, .ref ol), (r0, 16, 47, .ref nw), (r0, 16, 71, .ref td)]) [24, 25, 26] rfl, hh_59.2.2.2.2.2.2.2.1.sub (L1 := []) [] rfl, trivial, hoR_1⟩
                      have hh_65 := hh_59.addI (jHo.ie hHf_64)
                      clear hh_59
                      rw [hQ]
                      exact W.iret (v := v2_59) hx hb hr (fun t ht hW => ⟨⟨v2_59, (t_45, g_51), rfl, by (try dsimp only); skip; (try dsimp only); refine ⟨?_, by rw [ht_46, ht_22]; exact jrO.pp, by rw [ht_52, ht_28]; exact jrP.pp, by rw [ht_46, ht_22]; exact (hp2.put (by omega) (by omega) (hp2 _).2.2.1 (hp2 _).2.2.2).put (by omega) (by omega) (hp2.put (by omega) (by omega) (hp2 _).2.2.1 (hp2 _).2.2.2 _).2.2.1 (hp2.put (by omega) (by omega) (hp2 _).2.2.1 (hp2 _).2.2.2 _).2.2.2, by rw [ht_52, ht_28]; exact (hp3.put (hr_26_3.up (by omega)) (by omega) (by omega)).put (hr_50_3.up (by omega)) (by omega) (by omega)⟩; refine Eq.trans (jwSy.of hb1.1 hp0 (by omega) (by rw [← hr_26_0]; omega) (by rw [← hr_50_0]; omega) hi_59_3 (fun q9 => Or.inl (by rw [← hr_50_0]; omega))) (jwSy.cg hb1.1 hp0 (hi_13_2.up (by omega)) (hi_39_2.up (by omega))), ⟨hh_65.rt (M1 := []) [] rfl ht, by rw [ht]; exact hh_65.2.2.2.2.2.2.2.2.sub (L1 := [(jFrd, jRD dC dI ca G0 none t_45), (jFxd, jXD dC dI ca G0 none g_51), (jFHo, jHo dC dI ca G0 r0 ol nw td)]) [2, 1, 0] rfl⟩⟩, by rw [ht]; try exact hh_65.1.1, fun q h9 hq => by rw [ht]; try exact hh_65.1.2.1 q h9 hq⟩) hh_65.1.2.2 dX14_same_145
                    · skip
                      have c_63' : v2_59.toInt < qs_49.toInt := jb_ge_n (rfl) (rfl) c_63
                      obtain ⟨u1, u2, u3⟩ := hr_26_4 v2_59.toInt.toNat (by omega)
                      have u4 := hr_26_5 v2_59.toInt.toNat (by omega)
                      obtain ⟨x1, x2, x3⟩ := hr_50_4 v2_59.toInt.toNat (by omega)
                      have x4 := hr_50_5 v2_59.toInt.toNat (by omega)
                      have ev9 : ((v2_59.toInt.toNat : Nat) : Int) = v2_59.toInt := by omega
                      rw [ev9] at u1 u2 u4 x1 x2 x4
                      refine lv_aload_n hx hb dX14_same_122 rfl (lv_at hl 0 rfl) ?_
                      refine j7_read hx hb hown hK (C := RX14) (T := TX14) (N := 74) rfl hly_16_46 hlk_84 (hh_59.at 24 rfl) dX14_same_123 ?_
                      refine lv_iload_n hx hb dX14_same_126 rfl (lv_at hl 2 rfl) ?_
                      refine lv_aload_n hx hb dX14_same_127 rfl (lv_at hl 0 rfl) ?_
                      refine j7_read hx hb hown hK (C := RX14) (T := TX14) (N := 74) rfl hly_16_47 hlk_88 (hh_59.at 25 rfl) dX14_same_128 ?_
                      refine lv_iload_n hx hb dX14_same_131 rfl (lv_at hl 2 rfl) ?_
                      refine va_calli (A0 := jA base) (H0 := s.heap) (va_runS (As := [.ref ol, .int v2_59, .ref nw, .int v2_59]) (rest := []) ⟨hx, hb, hml, hown, hts⟩ (uX14_isSameT l dC dI ca base B hB hAp hB14 hB190 hB191 hB192 hB194 G0 H_59 ol v2_59 nw v2_59 ysb_17 yse_17 ut_5 ysf_17 ysb_41 yse_41 ut_31 ysf_41 (rq.ln r1).toInt pu.toInt (g_51.sb ol) (g_51.se ol) (t_45.tx ol) (g_51.sf ol) gb_49 ge_49 fv_39 gl_49) (va_cwS 4 hts (jgS (jWr_74 _ (List.mem_of_getElem? (i := 7) rfl)) (jWr_74 _ (List.mem_of_getElem? (i := 8) rfl)) (jWr_1 _ (List.mem_of_getElem? (i := 5) rfl)) (jWr_74 _ (List.mem_of_getElem? (i := 9) rfl))) rfl rfl rfl (by decide +kernel) ⟨by rw [← hR]; exact Nat.le_of_ble_eq_true rfl, by rw [← hR]; exact Nat.le_of_ble_eq_true rfl⟩) ⟨fun a U g mk q => by obtain ⟨q0, q1, q2, qK, q10, q11, q12, q13, q14, q15, q16, q17, q18, q19, q20, q21, q22⟩ := q; exact ⟨q0, q1, q2, jG.calling g mk a qK, q10, q11, q12, q13, q14, q15, q16, q17, q18, q19, q20, q21, q22⟩, fun U hU hW => ⟨rfl, hU, hh_59.2.1, hG.step hW hU hh_59.1, hgol_1, hgnw_1, hgsb_55, hgse_55, hgt_57, hgsf_55, hgsb_41, hgse_41, hgt_31, hgsf_41, (hh_59.2.2.1.sub (L1 := [(ol, 14, 6, .ref ysb_17), (ol, 14, 7, .ref yse_17), (ol, 14, 3, .ref ut_5), (ol, 14, 8, .ref ysf_17), (nw, 14, 6, .ref ysb_41), (nw, 14, 7, .ref yse_41), (nw, 14, 3, .ref ut_31), (nw, 14, 8, .ref ysf_41)]) [5, 6, 0, 7, 11, 12, 16, 13] rfl), (hh_59.2.2.2.2.2.2.2.1.sub (L1 := [(ysb_17, 190, 40, ca 1, (g_51.sb ol)), (yse_17, 191, 40, ca 1, (g_51.se ol)), (ut_5, 194, 1500, ca 1, (t_45.tx ol)), (ysf_17, 192, 40, ca 1, (g_51.sf ol)), (ysb_41, 190, 40, ca 1, gb_49), (yse_41, 191, 40, ca 1, ge_49), (ut_31, 194, 1500, ca 1, fv_39), (ysf_41, 192, 40, ca 1, gl_49)]) [2, 3, 0, 4, 5, 6, 8, 7] rfl), ⟨by omega, by omega, rfl, ⟨by omega, by omega⟩, ⟨by omega, by omega⟩, by rw [hE3.2.1, hE1]; exact u1, by rw [hE3.2.2.1, hE1]; exact u2, by rw [hE3.2.2.2, hE1]; exact u4, by rw [hE1]; exact u3, x1, x2, x4, x3⟩⟩⟩ rfl rfl hl.1 rfl (lv_room (Nat.le_of_ble_eq_true rfl)) dX14_same_132 ⟨Nat.zero_le _, Nat.zero_le _⟩) hh_59.1 (fun q _ h => h) (fun q h => h) (fun r_67 u_66 t_66 H_66 locs_66 ht_66 hvm_66 hr_67 hb_66 hz_66 hk_66 hS_66 => ?_)
                      rw [ht_66] at hb_66
                      obtain ⟨hb_661, hb_662, hb_663, hb_664, hb_665⟩ := hb_66
                      have hh_66 : jSt (dC, dI) B base G0 G0 EX14_sameT s.heap 0 0 [(ol, 14, 3, .ref ut_5), (ol, 14, 0, .ref uz_5), (ol, 14, 2, .int (t_45.ve ol)), (ol, 14, 4, .int (t_45.ln ol)), (ol, 14, 1, .int (t_45.ul ol)), (ol, 14, 6, .ref ysb_17), (ol, 14, 7, .ref yse_17), (ol, 14, 8, .ref ysf_17), (ol, 14, 5, .int (g_51.sn ol)), (ol, 14, 9, .int (g_51.ck ol)), (nw, 14, 5, .int qs_49), (nw, 14, 6, .ref ysb_41), (nw, 14, 7, .ref yse_41), (nw, 14, 8, .ref ysf_41), (nw, 14, 9, .int (g_27.ck nw)), (nw, 14, 4, .int pu), (nw, 14, 3, .ref ut_31), (nw, 14, 0, .ref uz_31), (nw, 14, 2, .int (t_21.ve nw)), (nw, 14, 1, .int (t_21.ul nw)), (r1, 14, 3, .ref ut_3), (r1, 14, 0, .ref uz_3), (r1, 14, 2, .int (rq.ve r1)), (r1, 14, 1, .int (rq.ul r1)), (r0, 16, 46, .ref ol), (r0, 16, 47, .ref nw), (r0, 16, 71, .ref td), (r0, 16, 43, .ref yg), (r0, 16, 44, .int pu)] [(ut_5, 194, 1500, ca 1, (t_45.tx ol)), (uz_5, 195, 40, ca 1, (t_45.ux ol)), (ysb_17, 190, 40, ca 1, (g_51.sb ol)), (yse_17, 191, 40, ca 1, (g_51.se ol)), (ysf_17, 192, 40, ca 1, (g_51.sf ol)), (ysb_41, 190, 40, ca 1, gb_49), (yse_41, 191, 40, ca 1, ge_49), (ysf_41, 192, 40, ca 1, gl_49), (ut_31, 194, 1500, ca 1, fv_39), (uz_31, 195, 40, ca 1, (t_21.ux nw)), (uz_3, 195, 40, ca 1, (rq.ux r1)), (yg, 112, 3100, ca 1, fg)] [(jFxd, jXD dC dI ca G0 none g_51), (jFrd, jRD dC dI ca G0 none t_45)] H_66 locs_66 := ((hh_59.call hb_661 hb_662 hb_663 hb_664 hS_66 rfl (L1 := [(ol, 14, 3, .ref ut_5), (ol, 14, 0, .ref uz_5), (ol, 14, 2, .int (t_45.ve ol)), (ol, 14, 4, .int (t_45.ln ol)), (ol, 14, 1, .int (t_45.ul ol)), (ol, 14, 6, .ref ysb_17), (ol, 14, 7, .ref yse_17), (ol, 14, 8, .ref ysf_17), (ol, 14, 5, .int (g_51.sn ol)), (ol, 14, 9, .int (g_51.ck ol)), (nw, 14, 5, .int qs_49), (nw, 14, 6, .ref ysb_41), (nw, 14, 7, .ref yse_41), (nw, 14, 8, .ref ysf_41), (nw, 14, 9, .int (g_27.ck nw)), (nw, 14, 4, .int pu), (nw, 14, 3, .ref ut_31), (nw, 14, 0, .ref uz_31), (nw, 14, 2, .int (t_21.ve nw)), (nw, 14, 1, .int (t_21.ul nw)), (r1, 14, 3, .ref ut_3), (r1, 14, 0, .ref uz_3), (r1, 14, 2, .int (rq.ve r1)), (r1, 14, 1, .int (rq.ul r1)), (r0, 16, 46, .ref ol), (r0, 16, 47, .ref nw), (r0, 16, 71, .ref td), (r0, 16, 43, .ref yg), (r0, 16, 44, .int pu)]) [0, 1, 2, 3, 4, 5, 6, 7, 8, 9, 10, 11, 12, 13, 14, 15, 16, 17, 18, 19, 20, 21, 22, 23, 24, 25, 26, 27, 28] rfl rfl (M1 := [(ut_5, 194, 1500, ca 1, (t_45.tx ol)), (uz_5, 195, 40, ca 1, (t_45.ux ol)), (ysb_17, 190, 40, ca 1, (g_51.sb ol)), (yse_17, 191, 40, ca 1, (g_51.se ol)), (ysf_17, 192, 40, ca 1, (g_51.sf ol)), (ysb_41, 190, 40, ca 1, gb_49), (yse_41, 191, 40, ca 1, ge_49), (ysf_41, 192, 40, ca 1, gl_49), (ut_31, 194, 1500, ca 1, fv_39), (uz_31, 195, 40, ca 1, (t_21.ux nw)), (uz_3, 195, 40, ca 1, (rq.ux r1)), (yg, 112, 3100, ca 1, fg)]) [0, 1, 2, 3, 4, 5, 6, 7, 8, 9, 10, 11] rfl rfl (I1 := [(jFxd, jXD dC dI ca G0 none g_51), (jFrd, jRD dC dI ca G0 none t_45)]) [0, 1] rfl rfl).more hb_665)
                      clear hh_59 ht_66 hvm_66 hz_66 hk_66 hS_66 hb_661 hb_662 hb_663 hb_664 hb_665
                      obtain ⟨hr_67b, hr_67p⟩ := hr_67
                      have hs132 := hr_67p
                      rw [hE1] at hs132
                      have hr_67' := jb_01 hr_67b
                      refine lv_if_eq (tgt := 144) hx hb dX14_same_135 (by decide) (fun c_68 => ?_) (fun c_68 => ?_)
                      · skip
                        have c_68' : r_67.toInt = 0 := jb_eq (rfl) ((by decide)) c_68
                        first | (have hr_67pq := hr_67p.resolve_left (by omega); clear hr_67p) | (have hr_67pq := hr_67p.resolve_right (by omega); clear hr_67p) | try clear hr_67p
                        refine lv_iload_n hx hb dX14_same_144 rfl (lv_at hl 2 rfl) ?_
                        have hHf_69 : jHo dC dI ca G0 r0 ol nw td H_66 := ⟨⟨_, hg_r0⟩, ⟨hgol_1, hgnw_1, hgtd_1⟩, hh_66.2.2.1.sub (L1 := [(r0, 16, 46, .ref ol), (r0, 16, 47, .ref nw), (r0, 16, 71, .ref td)]) [24, 25, 26] rfl, hh_66.2.2.2.2.2.2.2.1.sub (L1 := []) [] rfl, trivial, hoR_1⟩
                        have hh_70 := hh_66.addI (jHo.ie hHf_69)
                        clear hh_66
                        rw [hQ]
                        exact W.iret (v := v2_59) hx hb hr (fun t ht hW => ⟨⟨v2_59, (t_45, g_51), rfl, by (try dsimp only); skip; (try dsimp only); refine ⟨?_, by rw [ht_46, ht_22]; exact jrO.pp, by rw [ht_52, ht_28]; exact jrP.pp, by rw [ht_46, ht_22]; exact (hp2.put (by omega) (by omega) (hp2 _).2.2.1 (hp2 _).2.2.2).put (by omega) (by omega) (hp2.put (by omega) (by omega) (hp2 _).2.2.1 (hp2 _).2.2.2 _).2.2.1 (hp2.put (by omega) (by omega) (hp2 _).2.2.1 (hp2 _).2.2.2 _).2.2.2, by rw [ht_52, ht_28]; exact (hp3.put (hr_26_3.up (by omega)) (by omega) (by omega)).put (hr_50_3.up (by omega)) (by omega) (by omega)⟩; refine Eq.trans (jwSy.of hb1.1 hp0 (by omega) (by rw [← hr_26_0]; omega) (by rw [← hr_50_0]; omega) hi_59_3 (fun q9 => Or.inr (hs132.resolve_left (fun q => by omega)).2)) (jwSy.cg hb1.1 hp0 (hi_13_2.up (by omega)) (hi_39_2.up (by omega))), ⟨hh_70.rt (M1 := []) [] rfl ht, by rw [ht]; exact hh_70.2.2.2.2.2.2.2.2.sub (L1 := [(jFrd, jRD dC dI ca G0 none t_45), (jFxd, jXD dC dI ca G0 none g_51), (jFHo, jHo dC dI ca G0 r0 ol nw td)]) [2, 1, 0] rfl⟩⟩, by rw [ht]; try exact hh_70.1.1, fun q h9 hq => by rw [ht]; try exact hh_70.1.2.1 q h9 hq⟩) hh_70.1.2.2 dX14_same_145
                      · skip
                        have c_68' : r_67.toInt ≠ 0 := jb_eq_n (rfl) ((by decide)) c_68
                        first | (have hr_67pq := hr_67p.resolve_left (by omega); clear hr_67p) | (have hr_67pq := hr_67p.resolve_right (by omega); clear hr_67p) | try clear hr_67p
                        obtain ⟨z_71, ez_71⟩ : ∃ y : Int32, y = v2_59 + 1 := ⟨_, rfl⟩
                        refine lv_iinc (v := z_71) (lv' := [(2, .int z_71), (0, .ref r0), (1, .ref r1)]) hx hb dX14_same_138 hl (k := 2) rfl (by rw [ez_71]; rfl) (by decide) rfl (fun ls hl => ?_)
                        have hz_71 : z_71.toInt = v2_59.toInt + 1 := by rw [ez_71]; exact jb_iadd2 (rfl) (by decide) (by omega)
                        refine lv_goto (tgt := 100) hx hb dX14_same_141 (by decide) ?_
                        exact L100 z_71 _ _ hh_66 (⟨by omega, by omega, by omega, fun j j0 j1 => by by_cases jj9 : j = v2_59.toInt; (rw [jj9]; exact (hs132.resolve_right (fun q => by omega)).2); exact hi_59_3 j j0 (by omega)⟩) (by omega) _ (lv_sub hl [1, 2, 0] rfl)
              exact L100 (qs_25.toInt - (0 : Int32).toInt : Int).toNat.succ 0 _ _ hh_58 (⟨by omega, by omega, by omega, fun j j0 j1 => by have h9 := hk0; omega⟩) (by omega) _ (lv_sub hl [1, 2, 0] rfl)
            · skip
              have c_40' : v2_39.toInt < pu.toInt := jb_ge_n (rfl) (rfl) c_40
              refine lv_aload_n hx hb dX14_same_70 rfl (lv_at hl 0 rfl) ?_
              refine j7_read hx hb hown hK (C := RX14) (T := TX14) (N := 74) rfl hly_16_47 hlk_88 (hh_39.at 19 rfl) dX14_same_71 ?_
              refine j7_readN hx hb hown hK (C := RX12) (T := TX12) (N := 11) rfl hly_14_3 hlk_529 (hh_39.at 1 rfl) dX14_same_74 ?_
              refine lv_iload_n hx hb dX14_same_77 rfl (lv_at hl 2 rfl) ?_
              refine lv_aload_n hx hb dX14_same_78 rfl (lv_at hl 0 rfl) ?_
              refine j7_read hx hb hown hK (C := RX14) (T := TX14) (N := 74) rfl hly_16_43 hlk_78 (hh_39.at 21 rfl) dX14_same_79 ?_
              refine lv_iload_n hx hb dX14_same_82 rfl (lv_at hl 2 rfl) ?_
              refine j7_ialdM hx hb hK hh_39 hB112 1 rfl (by decide) hg_yg (x := v2_39.toInt) (rfl) (by omega) (j := 7) rfl dX14_same_83 (fun z_72 ez_72 (hz_72 : True) => ?_)
              have hqz_72 : z_72.toInt = jSo fg (v2_39.toInt) := by unfold jSo; rw [ez_72]
              have hd_74 := hh_39.iv 0 rfl
              have hh_75 := hh_39.sub (L1 := [(nw, 14, 4, .int pu), (nw, 14, 3, .ref ut_31), (nw, 14, 0, .ref uz_31), (nw, 14, 2, .int (t_21.ve nw)), (nw, 14, 1, .int (t_21.ul nw)), (ol, 14, 5, .int qs_25), (ol, 14, 6, .ref ysb_17), (ol, 14, 7, .ref yse_17), (ol, 14, 8, .ref ysf_17), (ol, 14, 9, .int (fq.ck ol)), (r1, 14, 3, .ref ut_3), (r1, 14, 0, .ref uz_3), (r1, 14, 2, .int (rq.ve r1)), (r1, 14, 1, .int (rq.ul r1)), (ol, 14, 3, .ref ut_5), (ol, 14, 0, .ref uz_5), (ol, 14, 2, .int (rq.ve ol)), (ol, 14, 1, .int (rq.ul ol)), (r0, 16, 46, .ref ol), (r0, 16, 47, .ref nw), (r0, 16, 71, .ref td), (r0, 16, 43, .ref yg), (r0, 16, 44, .int pu)]) [0, 1, 2, 3, 4, 5, 6, 7, 8, 9, 10, 11, 12, 13, 14, 15, 16, 17, 18, 19, 20, 21, 22] rfl (M1 := [(ut_31, 194, 1500, ca 1, fv_39), (uz_31, 195, 40, ca 1, (t_21.ux nw)), (ysb_17, 190, 40, ca 1, gb_25), (yse_17, 191, 40, ca 1, ge_25), (ysf_17, 192, 40, ca 1, gl_25), (uz_3, 195, 40, ca 1, (rq.ux r1)), (uz_5, 195, 40, ca 1, (rq.ux ol)), (yg, 112, 3100, ca 1, fg)]) [0, 1, 2, 3, 4, 5, 6, 7] rfl (I1 := [(jFxd, jXD dC dI ca G0 none g_27)]) [1] rfl
              clear hh_39
              have hd_74f := hh_75.at 1 rfl
              refine j7_iastX hx hb hK hh_75 hB hB194 1 rfl (by decide) (by decide) rfl 0 rfl (M1 := [(uz_31, 195, 40, ca 1, (t_21.ux nw)), (ysb_17, 190, 40, ca 1, gb_25), (yse_17, 191, 40, ca 1, ge_25), (ysf_17, 192, 40, ca 1, gl_25), (uz_3, 195, 40, ca 1, (rq.ux r1)), (uz_5, 195, 40, ca 1, (rq.ux ol)), (yg, 112, 3100, ca 1, fg)]) [1, 2, 3, 4, 5, 6, 7] rfl rfl rfl hgt_31 (x := v2_39.toInt) (rfl) (by omega) (trivial) dX14_same_84 (fun H_73 locs_73 fs_76 hv_73 ho_73 hr_73 hh_73 => ?_)
              have hv_73 : jSo fs_76 (v2_39.toInt) = z_72.toInt := by unfold jSo; rw [hv_73]; try exact rfl
              clear hh_75
              have hd_74n := jRD.arr hd_74 hgnw_1 hgt_31 (Or.inl ⟨rfl, hd_74f⟩) hr_73
              have hh_77 := hh_73.addI (jRD.ie hd_74n)
              clear hh_73
              clear hd_74 hd_74f hd_74n hr_73
              obtain ⟨z_78, ez_78⟩ : ∃ y : Int32, y = v2_39 + 1 := ⟨_, rfl⟩
              refine lv_iinc (v := z_78) (lv' := [(2, .int z_78), (0, .ref r0), (1, .ref r1)]) hx hb dX14_same_85 hl (k := 2) rfl (by rw [ez_78]; rfl) (by decide) rfl (fun ls hl => ?_)
              have hz_78 : z_78.toInt = v2_39.toInt + 1 := by rw [ez_78]; exact jb_iadd2 (rfl) (by decide) (by omega)
              refine lv_goto (tgt := 62) hx hb dX14_same_88 (by decide) ?_
              exact L62 z_78 fs_76 _ _ hh_77 (by refine ⟨by omega, by omega, ?_⟩; exact hi_39_2.snoc (k := 1500) (by omega) (by omega) (by rw [hv_73, hqz_72]) (fun j h1 h2 => ho_73 j (by omega) h2) (by omega)) (by omega) _ (lv_sub hl [1, 2, 0] rfl)
        exact L62 (pu.toInt - (0 : Int32).toInt : Int).toNat.succ 0 (t_21.tx nw) _ _ (hh_38.sub (L1 := [(nw, 14, 4, .int pu), (nw, 14, 3, .ref ut_31), (nw, 14, 0, .ref uz_31), (nw, 14, 2, .int (t_21.ve nw)), (nw, 14, 1, .int (t_21.ul nw)), (ol, 14, 5, .int qs_25), (ol, 14, 6, .ref ysb_17), (ol, 14, 7, .ref yse_17), (ol, 14, 8, .ref ysf_17), (ol, 14, 9, .int (fq.ck ol)), (r1, 14, 3, .ref ut_3), (r1, 14, 0, .ref uz_3), (r1, 14, 2, .int (rq.ve r1)), (r1, 14, 1, .int (rq.ul r1)), (ol, 14, 3, .ref ut_5), (ol, 14, 0, .ref uz_5), (ol, 14, 2, .int (rq.ve ol)), (ol, 14, 1, .int (rq.ul ol)), (r0, 16, 46, .ref ol), (r0, 16, 47, .ref nw), (r0, 16, 71, .ref td), (r0, 16, 43, .ref yg), (r0, 16, 44, .int pu)]) [0, 1, 2, 3, 4, 5, 6, 7, 8, 9, 10, 11, 12, 13, 14, 15, 16, 17, 18, 19, 20, 21, 22] rfl (M1 := [(ut_31, 194, 1500, ca 1, (t_21.tx nw)), (uz_31, 195, 40, ca 1, (t_21.ux nw)), (ysb_17, 190, 40, ca 1, gb_25), (yse_17, 191, 40, ca 1, ge_25), (ysf_17, 192, 40, ca 1, gl_25), (uz_3, 195, 40, ca 1, (rq.ux r1)), (uz_5, 195, 40, ca 1, (rq.ux ol)), (yg, 112, 3100, ca 1, fg)]) [0, 1, 2, 3, 4, 6, 8, 9] rfl (I1 := [(jFrd, jRD dC dI ca G0 (some nw) t_21), (jFxd, jXD dC dI ca G0 none g_27)]) [0, 1] rfl) (by refine ⟨by omega, by omega, ?_⟩; rw [hk0]; exact jEqU.nil _ _) (by omega) _ (lv_sub hl [1, 2, 0] rfl)
      · skip
        have c_16' : v2_13.toInt < (rq.ln r1).toInt := jb_ge_n (rfl) (rfl) c_16
        refine lv_aload_n hx hb dX14_same_21 rfl (lv_at hl 0 rfl) ?_
        refine j7_read hx hb hown hK (C := RX14) (T := TX14) (N := 74) rfl hly_16_46 hlk_84 (hh_15.at 10 rfl) dX14_same_22 ?_
        refine j7_readN hx hb hown hK (C := RX12) (T := TX12) (N := 11) rfl hly_14_3 hlk_529 (hh_15.at 6 rfl) dX14_same_25 ?_
        refine lv_iload_n hx hb dX14_same_28 rfl (lv_at hl 2 rfl) ?_
        refine lv_aload_n hx hb dX14_same_29 rfl (lv_at hl 1 rfl) ?_
        refine j7_readN hx hb hown hK (C := RX12) (T := TX12) (N := 11) rfl hly_14_3 hlk_529 (hh_15.at 0 rfl) dX14_same_30 ?_
        refine lv_iload_n hx hb dX14_same_33 rfl (lv_at hl 2 rfl) ?_
        refine j7_ialdM hx hb hK hh_15 hB194 1 rfl (by decide) hgt_14 (x := v2_13.toInt) (rfl) (by omega) (j := 0) rfl dX14_same_34 (fun z_79 ez_79 (hz_79 : True) => ?_)
        have hqz_79 : z_79.toInt = jSo (rq.tx r1) (v2_13.toInt) := by unfold jSo; rw [ez_79]
        have hd_81 := hh_15.iv 0 rfl
        have hh_82 := hh_15.sub (L1 := [(r1, 14, 3, .ref ut_3), (r1, 14, 0, .ref uz_3), (r1, 14, 2, .int (rq.ve r1)), (r1, 14, 4, .int (rq.ln r1)), (r1, 14, 1, .int (rq.ul r1)), (ol, 14, 4, .int (rq.ln r1)), (ol, 14, 3, .ref ut_5), (ol, 14, 0, .ref uz_5), (ol, 14, 2, .int (rq.ve ol)), (ol, 14, 1, .int (rq.ul ol)), (r0, 16, 46, .ref ol), (r0, 16, 47, .ref nw), (r0, 16, 71, .ref td), (r0, 16, 43, .ref yg), (r0, 16, 44, .int pu)]) [0, 1, 2, 3, 4, 5, 6, 7, 8, 9, 10, 11, 12, 13, 14] rfl (M1 := [(ut_3, 194, 1500, ca 1, (rq.tx r1)), (uz_3, 195, 40, ca 1, (rq.ux r1)), (ut_5, 194, 1500, ca 1, fo9_13), (uz_5, 195, 40, ca 1, (rq.ux ol)), (yg, 112, 3100, ca 1, fg)]) [0, 1, 2, 3, 4] rfl (I1 := [(jFxd, jXD dC dI ca G0 none fq)]) [1] rfl
        clear hh_15
        have hd_81f := hh_82.at 6 rfl
        refine j7_iastX hx hb hK hh_82 hB hB194 1 rfl (by decide) (by decide) rfl 2 rfl (M1 := [(uz_3, 195, 40, ca 1, (rq.ux r1)), (uz_5, 195, 40, ca 1, (rq.ux ol)), (yg, 112, 3100, ca 1, fg)]) [1, 3, 4] rfl rfl rfl hgt_5 (x := v2_13.toInt) (rfl) (by omega) (trivial) dX14_same_35 (fun H_80 locs_80 fs_83 hv_80 ho_80 hr_80 hh_80 => ?_)
        have hv_80 : jSo fs_83 (v2_13.toInt) = z_79.toInt := by unfold jSo; rw [hv_80]; try exact rfl
        clear hh_82
        have hd_81n := jRD.arr hd_81 hgol_1 hgt_5 (Or.inl ⟨rfl, hd_81f⟩) hr_80
        have hh_84 := hh_80.addI (jRD.ie hd_81n)
        clear hh_80
        clear hd_81 hd_81f hd_81n hr_80
        obtain ⟨z_85, ez_85⟩ : ∃ y : Int32, y = v2_13 + 1 := ⟨_, rfl⟩
        refine lv_iinc (v := z_85) (lv' := [(2, .int z_85), (0, .ref r0), (1, .ref r1)]) hx hb dX14_same_36 hl (k := 2) rfl (by rw [ez_85]; rfl) (by decide) rfl (fun ls hl => ?_)
        have hz_85 : z_85.toInt = v2_13.toInt + 1 := by rw [ez_85]; exact jb_iadd2 (rfl) (by decide) (by omega)
        refine lv_goto (tgt := 13) hx hb dX14_same_39 (by decide) ?_
        exact L13 z_85 fs_83 _ _ (hh_84.sub (L1 := [(ol, 14, 4, .int (rq.ln r1)), (ol, 14, 3, .ref ut_5), (ol, 14, 0, .ref uz_5), (ol, 14, 2, .int (rq.ve ol)), (ol, 14, 1, .int (rq.ul ol)), (r1, 14, 3, .ref ut_3), (r1, 14, 0, .ref uz_3), (r1, 14, 2, .int (rq.ve r1)), (r1, 14, 1, .int (rq.ul r1)), (r0, 16, 46, .ref ol), (r0, 16, 47, .ref nw), (r0, 16, 71, .ref td), (r0, 16, 43, .ref yg), (r0, 16, 44, .int pu)]) [5, 6, 7, 8, 9, 0, 1, 2, 4, 10, 11, 12, 13, 14] rfl (M1 := [(ut_5, 194, 1500, ca 1, fs_83), (uz_5, 195, 40, ca 1, (rq.ux ol)), (uz_3, 195, 40, ca 1, (rq.ux r1)), (yg, 112, 3100, ca 1, fg)]) [0, 2, 1, 3] rfl (I1 := [(jFrd, jRD dC dI ca G0 (some ol) rq), (jFxd, jXD dC dI ca G0 none fq)]) [0, 1] rfl) (by refine ⟨by omega, by omega, ?_⟩; exact hi_13_2.snoc (k := 1500) (by omega) (by omega) (by rw [hv_80, hqz_79]) (fun j h1 h2 => ho_80 j (by omega) h2) (by omega)) (by omega) _ (lv_sub hl [1, 2, 0] rfl)
  exact L13 ((rq.ln r1).toInt - (0 : Int32).toInt : Int).toNat.succ 0 (rq.tx ol) _ _ (hh_12.sub (L1 := [(ol, 14, 4, .int (rq.ln r1)), (ol, 14, 3, .ref ut_5), (ol, 14, 0, .ref uz_5), (ol, 14, 2, .int (rq.ve ol)), (ol, 14, 1, .int (rq.ul ol)), (r1, 14, 3, .ref ut_3), (r1, 14, 0, .ref uz_3), (r1, 14, 2, .int (rq.ve r1)), (r1, 14, 1, .int (rq.ul r1)), (r0, 16, 46, .ref ol), (r0, 16, 47, .ref nw), (r0, 16, 71, .ref td), (r0, 16, 43, .ref yg), (r0, 16, 44, .int pu)]) [0, 1, 2, 3, 4, 5, 6, 7, 8, 9, 10, 11, 12, 13] rfl (M1 := [(ut_5, 194, 1500, ca 1, (rq.tx ol)), (uz_5, 195, 40, ca 1, (rq.ux ol)), (uz_3, 195, 40, ca 1, (rq.ux r1)), (yg, 112, 3100, ca 1, fg)]) [0, 1, 3, 4] rfl (I1 := [(jFrd, jRD dC dI ca G0 (some ol) rq), (jFxd, jXD dC dI ca G0 none fq)]) [0, 1] rfl) (by refine ⟨by omega, by omega, ?_⟩; rw [hk0]; exact jEqU.nil _ _) (by omega) _ (lv_sub hl [1, 2, 0] rfl)
set_option maxHeartbeats 4000000 in
set_option maxRecDepth 20000 in
theorem uX14_settleChecksT (l : Launch) (dC : Nat → ClassId) (dI : Nat → Nat → Nat) (ca : Nat → ClassId) (base : Nat) (B : jF) (hB : jBok B) (hAp : jAp (dC, dI)) (hB14 : ∀ n G a H, B 14 n G a H ↔ jOb (dC, dI) 14 11 (F14 n G) a H) (hB16 : ∀ n G a H, B 16 n G a H ↔ jOb (dC, dI) 16 74 (F16 n G) a H) (hB101 : ∀ n G a H, B 101 n G a H ↔ jAr (dC, dI) (ca 1) (fun j z => True) n a H) (hB190 : ∀ n G a H, B 190 n G a H ↔ jAr (dC, dI) (ca 1) (fun j z => 0 ≤ z.toInt ∧ z.toInt ≤ 1500) n a H) (hB191 : ∀ n G a H, B 191 n G a H ↔ jAr (dC, dI) (ca 1) (fun j z => 0 ≤ z.toInt ∧ z.toInt ≤ 1500) n a H) (hB192 : ∀ n G a H, B 192 n G a H ↔ jAr (dC, dI) (ca 1) (fun j z => 0 ≤ z.toInt ∧ z.toInt ≤ 2) n a H) (hB194 : ∀ n G a H, B 194 n G a H ↔ jAr (dC, dI) (ca 1) (fun j z => True) n a H) (hB207 : ∀ n G a H, B 207 n G a H ↔ jAr (dC, dI) (ca 1) (fun j z => 0 ≤ z.toInt ∧ z.toInt ≤ 39) n a H) (hB208 : ∀ n G a H, B 208 n G a H ↔ jAq (dC, dI) (ca 4) (jQn 14 0) n G a H) (G0 : jT) (H0 : Heap) (r0 : Nat) (r1 : Nat) (a2 : Int32) (yt : Nat) (pz : Int32) (fq : jXg) (co : Nat → Option Nat) (cs : Nat → Int32) (cl : Nat → Int32) (ft : Nat → Int32) : Met l yX14_settleChecks (jw yX14_settleChecks cX14_settleChecks 4 none) ({ frames := 4, cells := 0, slots := 0, locals := 94 }) (va_Pc [.ref r0, .ref r1, .int a2] (fun U => U.heap = H0 ∧ jX B base G0 [] H0 ∧ jG dC dI ca base U ∧ jK2 dC dI ca U ∧ G0 r1 = some (14, 0) ∧ G0 r0 = some (16, 0) ∧ G0 yt = some (194, 1500) ∧ jP (dC, dI) G0 H0 [(r1, 14, 3, .ref yt), (r1, 14, 4, .int pz)] ∧ jMc (dC, dI) G0 H0 [(yt, 194, 1500, ca 1, ft)] ∧ jIs (dC, dI) G0 H0 [(jFxd, jXD dC dI ca G0 none fq), (jFHc, jHc dC dI ca G0 r0 co cs cl)] ∧ 0 ≤ a2.toInt ∧ a2.toInt ≤ jPar ft pz.toInt ∧ 0 ≤ pz.toInt ∧ pz.toInt ≤ 1500)) (va_Qv (S := (jXg) × (Nat → Option Nat)) (fun u => jrC ft pz.toInt fq u.1 r1 a2.toInt ∧ jrH co u.2 cs r1 a2.toInt 2) (fun u t => (jRt (dC, dI) B base G0 EX14_settleChecksT H0 [] t.heap) ∧ jIs (dC, dI) G0 t.heap [(jFxd, jXD dC dI ca G0 none (u.1)), (jFHc, jHc dC dI ca G0 r0 (u.2) cs cl)]) (jA base)) 0 0 (jA base) := by
  refine Met.ofW (cc := cX14_settleChecks) (maxL := 4) (ret := none) (by decide) rfl ?_
  intro p e s m args below meth c s₁ Bd hml hv
  obtain ⟨rfl, hH0, hX, hG, hK2, hg_r1, hg_r0, hg_yt, hP0, hM0, hI0, hp0, hp1, hp2, hp3⟩ := hv
  have hK := hG.1
  have hx := Bd.exec
  have hb := Bd.bytes
  have hr := Bd.returns
  have hts := atoms_spec (ws := (jw yX14_settleChecks cX14_settleChecks 4 none)) Bd.pre
  have htw : ∀ w ∈ jWl, w.before _ s = true := fun w h => hts w (List.mem_cons_of_mem _ h)
  have hown : s.vm.findClass RX14 = some m.cls := findClass_of_methodNamed Bd.named
  have hlocks := Bd.notSynchronized
  obtain ⟨Q, hQ⟩ : ∃ Q, Q = MQ below (va_Qv (S := (jXg) × (Nat → Option Nat)) (fun u => jrC ft pz.toInt fq u.1 r1 a2.toInt ∧ jrH co u.2 cs r1 a2.toInt 2) (fun u t => (jRt (dC, dI) B base G0 EX14_settleChecksT H0 [] t.heap) ∧ jIs (dC, dI) G0 t.heap [(jFxd, jXD dC dI ca G0 none (u.1)), (jFHc, jHc dC dI ca G0 r0 (u.2) cs cl)]) (jA base)) ([.ref r0, .ref r1, .int a2] : List Value).toArray s 0 0 (jA base) := ⟨_, rfl⟩
  rw [← hQ]
  have hl := lv_entry ([.ref r0, .ref r1, .int a2]) (n := 4) (Nat.le_of_ble_eq_true rfl)
  rw [lg_entry_eq]
  generalize (lg_sl ([.ref r0, .ref r1, .int a2]) ++ List.replicate (4 - (lg_sl ([.ref r0, .ref r1, .int a2])).length) Slot.unset).toArray = ls at hl ⊢
  have hl : lv_has ls 4 [(0, .ref r0), (1, .ref r1), (2, .int a2)] := hl
  generalize hR : (headSpec (jw yX14_settleChecks cX14_settleChecks 4 none) ({ frames := 4, cells := 0, slots := 0, locals := 94 })).room = R
  subst hH0
  have hh : jSt (dC, dI) B base G0 G0 EX14_settleChecksT s.heap 0 0 [(r1, 14, 3, .ref yt), (r1, 14, 4, .int pz)] [(yt, 194, 1500, ca 1, ft)] [(jFxd, jXD dC dI ca G0 none fq), (jFHc, jHc dC dI ca G0 r0 co cs cl)] s.heap [] := jSt.start hX hP0 hM0 hI0
  clear hX hP0
  have hk0 : (0 : Int32).toInt = 0 := by decide
  have hk1 : (1 : Int32).toInt = 1 := by decide
  have hk2 : (2 : Int32).toInt = 2 := by decide
  have hly_14_9 := htw (u_lay RX12 TX12 9) (jWc_wsX120 _ (u_in_lay (by decide)))
  have hly_16_60 := htw (u_lay RX14 TX14 60) (jWc_wsX140 _ (u_in_lay (by decide)))
  have hly_16_61 := htw (u_lay RX14 TX14 61) (jWc_wsX140 _ (u_in_lay (by decide)))
  have hlk_531 := (va_Nw.use (A := ([.ref r0, .ref r1, .int a2] : List Value).toArray) rfl (hG.2.1 RX14 531 "ProofServerModel$Document" "checked" "I" "ProofServerModel" (List.mem_of_getElem? (i := 1744) (by decide +kernel))))
  have hlk_129 := (htw (.fieldLink RX14 129 "ProofServerModel" "checkOf" "[LProofServerModel$Document;") (jWr_12 _ (List.mem_of_getElem? (i := 15) rfl)))
  have hlk_132 := (htw (.fieldLink RX14 132 "ProofServerModel" "checkSentence" "[I") (jWr_12 _ (List.mem_of_getElem? (i := 16) rfl)))
  have hrg_a2 := jb_rng a2
  obtain ⟨⟨ysb_1, yse_1, ysf_1, hgsb_1, hgse_1, hgsf_1, hgP_1, hgM_1⟩, hGe_1⟩ := jXD.opn (ca := ca) (hh.iv 0 rfl) hg_r1
  have hh_2 := ((hh.sub (L1 := [(r1, 14, 3, .ref yt), (r1, 14, 4, .int pz)]) [0, 1] rfl (M1 := [(yt, 194, 1500, ca 1, ft)]) [0] rfl (I1 := [(jFxd, jXD dC dI ca G0 none fq), (jFHc, jHc dC dI ca G0 r0 co cs cl)]) [0, 1] rfl).more (hgP_1.sub (L1 := [(r1, 14, 6, .ref ysb_1), (r1, 14, 7, .ref yse_1), (r1, 14, 8, .ref ysf_1), (r1, 14, 5, .int (fq.sn r1)), (r1, 14, 9, .int (fq.ck r1))]) [0, 1, 2, 3, 4] rfl)).moreM hgM_1
  clear hh
  have hh_3 := hh_2.sub (L1 := [(r1, 14, 6, .ref ysb_1), (r1, 14, 7, .ref yse_1), (r1, 14, 8, .ref ysf_1), (r1, 14, 5, .int (fq.sn r1)), (r1, 14, 9, .int (fq.ck r1)), (r1, 14, 3, .ref yt), (r1, 14, 4, .int pz)]) [0, 1, 2, 3, 4, 5, 6] rfl (M1 := [(ysb_1, 190, 40, ca 1, (fq.sb r1)), (yse_1, 191, 40, ca 1, (fq.se r1)), (ysf_1, 192, 40, ca 1, (fq.sf r1)), (yt, 194, 1500, ca 1, ft)]) [0, 1, 2, 3] rfl (I1 := [(jFHc, jHc dC dI ca G0 r0 co cs cl)]) [1] rfl
  clear hh_2
  have hh_4 := hh_3.addI (jXD.ie hGe_1)
  clear hh_3
  refine lv_aload_n hx hb dX14_settleChecks_0 rfl (lv_at hl 1 rfl) ?_
  refine va_callv (A0 := jA base) (H0 := s.heap) (va_runS (As := [.ref r1]) (rest := []) ⟨hx, hb, hml, hown, hts⟩ (uX14_partF l dC dI ca base B hB hAp hB14 hB101 hB190 hB191 hB192 hB194 G0 s.heap r1 yt pz ysb_1 yse_1 ysf_1 fq ft (fq.sb r1) (fq.se r1) (fq.sf r1)) (va_cwS 1 hts (jgS (jWr_57 _ (List.mem_of_getElem? (i := 10) rfl)) (jWr_57 _ (List.mem_of_getElem? (i := 11) rfl)) (jWr_1 _ (List.mem_of_getElem? (i := 5) rfl)) (jWr_57 _ (List.mem_of_getElem? (i := 12) rfl))) rfl rfl rfl (by decide +kernel) ⟨by rw [← hR]; exact Nat.le_of_ble_eq_true rfl, by rw [← hR]; exact Nat.le_of_ble_eq_true rfl⟩) ⟨fun a U g mk q => by obtain ⟨q0, q1, q2, qK, q10, q11, q12, q13, q14, q15, q16, q17, q18⟩ := q; exact ⟨q0, q1, q2, jG.calling g mk a qK, q10, q11, q12, q13, q14, q15, q16, q17, q18⟩, fun U hU hW => ⟨rfl, hU, hh_4.2.1, hG.step hW hU hh_4.1, hg_r1, hg_yt, hgsb_1, hgse_1, hgsf_1, (hh_4.2.2.1.sub (L1 := [(r1, 14, 3, .ref yt), (r1, 14, 4, .int pz), (r1, 14, 6, .ref ysb_1), (r1, 14, 7, .ref yse_1), (r1, 14, 8, .ref ysf_1)]) [5, 6, 0, 1, 2] rfl), (hh_4.2.2.2.2.2.2.2.1.sub (L1 := [(yt, 194, 1500, ca 1, ft), (ysb_1, 190, 40, ca 1, (fq.sb r1)), (yse_1, 191, 40, ca 1, (fq.se r1)), (ysf_1, 192, 40, ca 1, (fq.sf r1))]) [3, 0, 1, 2] rfl), (hh_4.2.2.2.2.2.2.2.2.sub (L1 := [(jFxd, jXD dC dI ca G0 (some r1) fq)]) [0] rfl), by first | omega | (refine ⟨?_, ?_⟩ <;> (first | omega | rfl | assumption | decide | exact Or.inl rfl | exact Or.inr rfl | (simp only; omega)))⟩⟩ rfl rfl hl.1 rfl (lv_room (Nat.le_of_ble_eq_true rfl)) dX14_settleChecks_1 ⟨Nat.zero_le _, Nat.zero_le _⟩) hh_4.1 (fun q _ h => h) (fun q h => h) (fun u_5 t_5 H_5 locs_5 ht_5 hvm_5 hr_6 hb_5 hz_5 hk_5 hS_5 => ?_)
  obtain ⟨qs_5, gb_5, ge_5, gl_5⟩ := u_5
  rw [ht_5] at hb_5
  obtain ⟨hb_5, hbE_5⟩ := hb_5
  obtain ⟨⟨hb_51, hb_52, hb_53, hb_54, hb_55⟩, hb_56⟩ := hb_5
  have hh_5 : jSt (dC, dI) B base G0 G0 EX14_settleChecksT s.heap 0 0 [(r1, 14, 5, .int qs_5), (r1, 14, 6, .ref ysb_1), (r1, 14, 7, .ref yse_1), (r1, 14, 8, .ref ysf_1), (r1, 14, 9, .int (fq.ck r1)), (r1, 14, 3, .ref yt), (r1, 14, 4, .int pz)] [(ysb_1, 190, 40, ca 1, gb_5), (yse_1, 191, 40, ca 1, ge_5), (ysf_1, 192, 40, ca 1, gl_5), (yt, 194, 1500, ca 1, ft)] [(jFxd, jXD dC dI ca G0 (some r1) fq), (jFHc, jHc dC dI ca G0 r0 co cs cl)] H_5 locs_5 := (((hh_4.call hb_51 hb_52 hb_53 hb_54 hS_5 rfl (L1 := [(r1, 14, 6, .ref ysb_1), (r1, 14, 7, .ref yse_1), (r1, 14, 8, .ref ysf_1), (r1, 14, 9, .int (fq.ck r1)), (r1, 14, 3, .ref yt), (r1, 14, 4, .int pz)]) [0, 1, 2, 4, 5, 6] rfl rfl (M1 := [(yt, 194, 1500, ca 1, ft)]) [3] rfl rfl (I1 := [(jFHc, jHc dC dI ca G0 r0 co cs cl)]) [1] rfl rfl).more hb_55).moreM hb_56).addIs hbE_5
  clear hh_4 ht_5 hvm_5 hz_5 hk_5 hS_5 hb_51 hb_52 hb_53 hb_54 hb_55
  clear hb_56
  clear  hbE_5
  try simp only at hr_6
  obtain ⟨hr_6_0, hr_6_1, hr_6_2, hr_6_3, hr_6_4, hr_6_5⟩ := hr_6
  refine lv_aload_n hx hb dX14_settleChecks_4 rfl (lv_at hl 1 rfl) ?_
  refine j7_readN hx hb hown hK (C := RX12) (T := TX12) (N := 11) rfl hly_14_9 hlk_531 (hh_5.at 4 rfl) dX14_settleChecks_5 ?_
  refine lv_iload_n hx hb dX14_settleChecks_8 rfl (lv_at hl 2 rfl) ?_
  refine lv_icmp_le (tgt := 17) hx hb dX14_settleChecks_9 (by decide) (fun c_7 => ?_) (fun c_7 => ?_)
  · skip
    have c_7' : (fq.ck r1).toInt ≤ a2.toInt := jb_le (rfl) (rfl) c_7
    have hF_8 := jXD.full (ca := ca) (hh_5.iv 0 rfl) hg_r1 (hh_5.at 1 rfl) (hh_5.at 2 rfl) (hh_5.at 3 rfl) (hh_5.at 0 rfl) (hh_5.at 4 rfl) (hh_5.2.2.2.2.2.2.2.1.sub (L1 := [(ysb_1, 190, 40, ca 1, gb_5), (yse_1, 191, 40, ca 1, ge_5), (ysf_1, 192, 40, ca 1, gl_5)]) [0, 1, 2] rfl)
    obtain ⟨g_8, ht_9⟩ : ∃ q : jXg, q = fq.put r1 qs_5 (fq.ck r1) gb_5 ge_5 gl_5 := ⟨_, rfl⟩
    rw [← ht_9] at hF_8
    have hh_10 := hh_5.sub (L1 := [(r1, 14, 5, .int qs_5), (r1, 14, 6, .ref ysb_1), (r1, 14, 7, .ref yse_1), (r1, 14, 8, .ref ysf_1), (r1, 14, 9, .int (fq.ck r1)), (r1, 14, 3, .ref yt), (r1, 14, 4, .int pz)]) [0, 1, 2, 3, 4, 5, 6] rfl (M1 := [(ysb_1, 190, 40, ca 1, gb_5), (yse_1, 191, 40, ca 1, ge_5), (ysf_1, 192, 40, ca 1, gl_5), (yt, 194, 1500, ca 1, ft)]) [0, 1, 2, 3] rfl (I1 := [(jFHc, jHc dC dI ca G0 r0 co cs cl)]) [1] rfl
    clear hh_5
    have hh_11 := hh_10.addI (jXD.ie hF_8)
    clear hh_10
    obtain ⟨ycs_12, ycl_12, yco_12, -, ⟨hgcs_12, hgcl_12, hgco_12⟩, hoP_12, hoM_12, hqco_12, -⟩ := hh_11.iv 1 rfl
    have hh_13 := ((hh_11.sub (L1 := [(r1, 14, 5, .int qs_5), (r1, 14, 6, .ref ysb_1), (r1, 14, 7, .ref yse_1), (r1, 14, 8, .ref ysf_1), (r1, 14, 9, .int (fq.ck r1)), (r1, 14, 3, .ref yt), (r1, 14, 4, .int pz)]) [0, 1, 2, 3, 4, 5, 6] rfl (M1 := [(ysb_1, 190, 40, ca 1, gb_5), (yse_1, 191, 40, ca 1, ge_5), (ysf_1, 192, 40, ca 1, gl_5), (yt, 194, 1500, ca 1, ft)]) [0, 1, 2, 3] rfl (I1 := [(jFxd, jXD dC dI ca G0 none g_8)]) [0] rfl).more hoP_12).moreM hoM_12
    clear hh_11
    have hh_14 := hh_13.addI (jQc.ie hqco_12 hgco_12 (by decide) (by decide))
    clear hh_13
    refine lv_iconst (v := 0) hx hb dX14_settleChecks_17 (by decide) ?_
    refine lv_istore_n (lv' := [(3, .int 0), (0, .ref r0), (1, .ref r1), (2, .int a2)]) hx hb dX14_settleChecks_18 rfl hl (by decide) rfl (fun ls hl => ?_)
    have L19 : ∀ (N : Nat) (v3_15 : Int32) (cox_15 : Nat → Option Nat) (H_15 : Heap) (locs_15 : List Loc), jSt (dC, dI) B base G0 G0 EX14_settleChecksT s.heap 0 0 [(r0, 16, 61, .ref ycs_12), (r0, 16, 62, .ref ycl_12), (r0, 16, 60, .ref yco_12), (r1, 14, 5, .int qs_5), (r1, 14, 6, .ref ysb_1), (r1, 14, 7, .ref yse_1), (r1, 14, 8, .ref ysf_1), (r1, 14, 9, .int (fq.ck r1)), (r1, 14, 3, .ref yt), (r1, 14, 4, .int pz)] [(ycs_12, 207, 2, ca 1, cs), (ycl_12, 115, 2, ca 1, cl), (ysb_1, 190, 40, ca 1, gb_5), (yse_1, 191, 40, ca 1, ge_5), (ysf_1, 192, 40, ca 1, gl_5), (yt, 194, 1500, ca 1, ft)] [([(208, 0)], jQc dC dI (ca 4) yco_12 2 cox_15), (jFxd, jXD dC dI ca G0 none g_8)] H_15 locs_15 → (0 ≤ v3_15.toInt ∧ v3_15.toInt ≤ 2 ∧ jrH co cox_15 cs r1 a2.toInt v3_15.toInt) → (2 - v3_15.toInt : Int) < N → ∀ ls : Array Slot, lv_has ls 4 [(0, .ref r0), (1, .ref r1), (2, .int a2), (3, .int v3_15)] → W p l e R s m ([.ref r0, .ref r1, .int a2] : List Value).toArray below meth c H_15 locs_15 0 0 Q (F0 m 19 ls []) := by
      intro N
      induction N with
      | zero => intro v3_15 cox_15 H_15 locs_15 hh_15  hi_15 hm; exact absurd hm (by omega)
      | succ N L19 =>
        intro v3_15 cox_15 H_15 locs_15 hh_15  hi_15 hm_15 ls hl
        obtain ⟨hi_15_0, hi_15_1, hi_15_2⟩ := hi_15
        refine lv_iload_n hx hb dX14_settleChecks_19 rfl (lv_at hl 3 rfl) ?_
        refine lv_iconst (v := 2) hx hb dX14_settleChecks_20 (by decide) ?_
        refine lv_icmp_ge (tgt := 57) hx hb dX14_settleChecks_21 (by decide) (fun c_16 => ?_) (fun c_16 => ?_)
        · skip
          have c_16' : v3_15.toInt ≥ 2 := jb_ge (rfl) ((by decide)) c_16
          have hHf_17 : jHc dC dI ca G0 r0 cox_15 cs cl H_15 := ⟨ycs_12, ycl_12, yco_12, ⟨_, hg_r0⟩, ⟨hgcs_12, hgcl_12, hgco_12⟩, hh_15.2.2.1.sub (L1 := [(r0, 16, 61, .ref ycs_12), (r0, 16, 62, .ref ycl_12), (r0, 16, 60, .ref yco_12)]) [0, 1, 2] rfl, hh_15.2.2.2.2.2.2.2.1.sub (L1 := [(ycs_12, 207, 2, ca 1, cs), (ycl_12, 115, 2, ca 1, cl)]) [0, 1] rfl, hh_15.iv 0 rfl, trivial⟩
          have hh_18 := hh_15.sub (L1 := [(r0, 16, 61, .ref ycs_12), (r0, 16, 62, .ref ycl_12), (r0, 16, 60, .ref yco_12), (r1, 14, 5, .int qs_5), (r1, 14, 6, .ref ysb_1), (r1, 14, 7, .ref yse_1), (r1, 14, 8, .ref ysf_1), (r1, 14, 9, .int (fq.ck r1)), (r1, 14, 3, .ref yt), (r1, 14, 4, .int pz)]) [0, 1, 2, 3, 4, 5, 6, 7, 8, 9] rfl (M1 := [(ycs_12, 207, 2, ca 1, cs), (ycl_12, 115, 2, ca 1, cl), (ysb_1, 190, 40, ca 1, gb_5), (yse_1, 191, 40, ca 1, ge_5), (ysf_1, 192, 40, ca 1, gl_5), (yt, 194, 1500, ca 1, ft)]) [0, 1, 2, 3, 4, 5] rfl (I1 := [(jFxd, jXD dC dI ca G0 none g_8)]) [1] rfl
          clear hh_15
          have hh_19 := hh_18.addI (jHc.ie hHf_17)
          clear hh_18
          rw [hQ]
          exact W.vret hx hb hr (fun t ht hW => ⟨⟨(g_8, cox_15), rfl, by (try dsimp only); skip; (try dsimp only); refine ⟨jrC.mk ht_9 hr_6_0 hr_6_4 hr_6_5 (Or.inr ⟨by omega, rfl⟩) (hr_6_3.up (by omega)) (by omega) (by omega), ?_⟩; have h9 := hi_15_2; rw [show v3_15.toInt = 2 by omega] at h9; exact h9, ⟨hh_19.rt (M1 := []) [] rfl ht, by rw [ht]; exact hh_19.2.2.2.2.2.2.2.2.sub (L1 := [(jFxd, jXD dC dI ca G0 none g_8), (jFHc, jHc dC dI ca G0 r0 cox_15 cs cl)]) [1, 0] rfl⟩⟩, by rw [ht]; try exact hh_19.1.1, fun q h9 hq => by rw [ht]; try exact hh_19.1.2.1 q h9 hq⟩) hh_19.1.2.2 dX14_settleChecks_57
        · skip
          have c_16' : v3_15.toInt < 2 := jb_ge_n (rfl) ((by decide)) c_16
          refine lv_aload_n hx hb dX14_settleChecks_24 rfl (lv_at hl 0 rfl) ?_
          refine j7_read hx hb hown hK (C := RX14) (T := TX14) (N := 74) rfl hly_16_60 hlk_129 (hh_15.at 2 rfl) dX14_settleChecks_25 ?_
          refine lv_iload_n hx hb dX14_settleChecks_28 rfl (lv_at hl 3 rfl) ?_
          refine j7_qaldI hx hb hK2 hh_15 hB208 0 rfl (by decide) hgco_12 (x := v3_15.toInt) (rfl) (by omega) (hh_15.iv 0 rfl) dX14_settleChecks_29 (fun o_20 ho_20 heo_20 => ?_)
          rcases ho_20 with rfl | ⟨el_21, rfl, hg_el_21⟩
          · simp only [va_rf]
            refine lv_aload_n hx hb dX14_settleChecks_30 rfl (lv_at hl 1 rfl) ?_
            refine lv_acmp_ne (rx := none) (ry := (some r1)) (tgt := 51) hx hb dX14_settleChecks_31 (by decide) (fun c_22 => ?_) (fun c_22 => ?_)
            · skip
              obtain ⟨z_23, ez_23⟩ : ∃ y : Int32, y = v3_15 + 1 := ⟨_, rfl⟩
              refine lv_iinc (v := z_23) (lv' := [(3, .int z_23), (0, .ref r0), (1, .ref r1), (2, .int a2)]) hx hb dX14_settleChecks_51 hl (k := 3) rfl (by rw [ez_23]; rfl) (by decide) rfl (fun ls hl => ?_)
              have hz_23 : z_23.toInt = v3_15.toInt + 1 := by rw [ez_23]; exact jb_iadd2 (rfl) (by decide) (by omega)
              refine lv_goto (tgt := 19) hx hb dX14_settleChecks_54 (by decide) ?_
              exact L19 z_23 cox_15 _ _ hh_15 (⟨by omega, by omega, hi_15_2.k (by omega) (fun q9 => c_22 (heo_20.trans q9.1)) (by omega) (by omega)⟩) (by omega) _ (lv_sub hl [1, 2, 3, 0] rfl)
            · skip
              cases c_22
          · simp only [va_rf]
            refine lv_aload_n hx hb dX14_settleChecks_30 rfl (lv_at hl 1 rfl) ?_
            refine lv_acmp_ne (rx := (some el_21)) (ry := (some r1)) (tgt := 51) hx hb dX14_settleChecks_31 (by decide) (fun c_24 => ?_) (fun c_24 => ?_)
            · skip
              obtain ⟨z_25, ez_25⟩ : ∃ y : Int32, y = v3_15 + 1 := ⟨_, rfl⟩
              refine lv_iinc (v := z_25) (lv' := [(3, .int z_25), (0, .ref r0), (1, .ref r1), (2, .int a2)]) hx hb dX14_settleChecks_51 hl (k := 3) rfl (by rw [ez_25]; rfl) (by decide) rfl (fun ls hl => ?_)
              have hz_25 : z_25.toInt = v3_15.toInt + 1 := by rw [ez_25]; exact jb_iadd2 (rfl) (by decide) (by omega)
              refine lv_goto (tgt := 19) hx hb dX14_settleChecks_54 (by decide) ?_
              exact L19 z_25 cox_15 _ _ hh_15 (⟨by omega, by omega, hi_15_2.k (by omega) (fun q9 => c_24 (heo_20.trans q9.1)) (by omega) (by omega)⟩) (by omega) _ (lv_sub hl [1, 2, 3, 0] rfl)
            · skip
              refine lv_aload_n hx hb dX14_settleChecks_34 rfl (lv_at hl 0 rfl) ?_
              refine j7_read hx hb hown hK (C := RX14) (T := TX14) (N := 74) rfl hly_16_61 hlk_132 (hh_15.at 0 rfl) dX14_settleChecks_35 ?_
              refine lv_iload_n hx hb dX14_settleChecks_38 rfl (lv_at hl 3 rfl) ?_
              refine j7_ialdM hx hb hK hh_15 hB207 1 rfl (by decide) hgcs_12 (x := v3_15.toInt) (rfl) (by omega) (j := 0) rfl dX14_settleChecks_39 (fun z_26 ez_26 (hz_26 : 0 ≤ z_26.toInt ∧ z_26.toInt ≤ 39) => ?_)
              have hqz_26 : z_26.toInt = jSo cs (v3_15.toInt) := by unfold jSo; rw [ez_26]
              refine lv_iload_n hx hb dX14_settleChecks_40 rfl (lv_at hl 2 rfl) ?_
              refine lv_icmp_lt (tgt := 51) hx hb dX14_settleChecks_41 (by decide) (fun c_27 => ?_) (fun c_27 => ?_)
              · skip
                have c_27' : z_26.toInt < a2.toInt := jb_lt (rfl) (rfl) c_27
                obtain ⟨z_28, ez_28⟩ : ∃ y : Int32, y = v3_15 + 1 := ⟨_, rfl⟩
                refine lv_iinc (v := z_28) (lv' := [(3, .int z_28), (0, .ref r0), (1, .ref r1), (2, .int a2)]) hx hb dX14_settleChecks_51 hl (k := 3) rfl (by rw [ez_28]; rfl) (by decide) rfl (fun ls hl => ?_)
                have hz_28 : z_28.toInt = v3_15.toInt + 1 := by rw [ez_28]; exact jb_iadd2 (rfl) (by decide) (by omega)
                refine lv_goto (tgt := 19) hx hb dX14_settleChecks_54 (by decide) ?_
                exact L19 z_28 cox_15 _ _ hh_15 (⟨by omega, by omega, hi_15_2.k (by omega) (fun q9 => by have h9 := hqz_26; have h8 := q9.2; omega) (by omega) (by omega)⟩) (by omega) _ (lv_sub hl [1, 2, 3, 0] rfl)
              · skip
                have c_27' : z_26.toInt ≥ a2.toInt := jb_lt_n (rfl) (rfl) c_27
                refine lv_aload_n hx hb dX14_settleChecks_44 rfl (lv_at hl 0 rfl) ?_
                refine j7_read hx hb hown hK (C := RX14) (T := TX14) (N := 74) rfl hly_16_60 hlk_129 (hh_15.at 2 rfl) dX14_settleChecks_45 ?_
                refine lv_iload_n hx hb dX14_settleChecks_48 rfl (lv_at hl 3 rfl) ?_
                refine lv_null hx hb dX14_settleChecks_49 ?_
                have hd_30 := hh_15.iv 0 rfl
                have hh_32 := hh_15.sub (L1 := [(r0, 16, 61, .ref ycs_12), (r0, 16, 62, .ref ycl_12), (r0, 16, 60, .ref yco_12), (r1, 14, 5, .int qs_5), (r1, 14, 6, .ref ysb_1), (r1, 14, 7, .ref yse_1), (r1, 14, 8, .ref ysf_1), (r1, 14, 9, .int (fq.ck r1)), (r1, 14, 3, .ref yt), (r1, 14, 4, .int pz)]) [0, 1, 2, 3, 4, 5, 6, 7, 8, 9] rfl (M1 := [(ycs_12, 207, 2, ca 1, cs), (ycl_12, 115, 2, ca 1, cl), (ysb_1, 190, 40, ca 1, gb_5), (yse_1, 191, 40, ca 1, ge_5), (ysf_1, 192, 40, ca 1, gl_5), (yt, 194, 1500, ca 1, ft)]) [0, 1, 2, 3, 4, 5] rfl (I1 := [(jFxd, jXD dC dI ca G0 none g_8)]) [1] rfl
                clear hh_15
                refine j7_qastNI hx hb hK2 hh_32 hB hB208 0 rfl (by decide) (by decide) rfl rfl rfl hgco_12 (x := v3_15.toInt) (rfl) (by omega) (Or.inl rfl) hd_30 dX14_settleChecks_50 (fun H_29 locs_29 fq_31 hv_29 ho_29 hq_29 hh_29 => ?_)
                clear hh_32
                have hh_33 := hh_29.addI (hq_29.ie hgco_12 (by decide) (by decide))
                clear hh_29
                clear hd_30
                obtain ⟨z_34, ez_34⟩ : ∃ y : Int32, y = v3_15 + 1 := ⟨_, rfl⟩
                refine lv_iinc (v := z_34) (lv' := [(3, .int z_34), (0, .ref r0), (1, .ref r1), (2, .int a2)]) hx hb dX14_settleChecks_51 hl (k := 3) rfl (by rw [ez_34]; rfl) (by decide) rfl (fun ls hl => ?_)
                have hz_34 : z_34.toInt = v3_15.toInt + 1 := by rw [ez_34]; exact jb_iadd2 (rfl) (by decide) (by omega)
                refine lv_goto (tgt := 19) hx hb dX14_settleChecks_54 (by decide) ?_
                exact L19 z_34 fq_31 _ _ hh_33 (⟨by omega, by omega, hi_15_2.d (by omega) (by omega) (heo_20.symm.trans c_24) (by have h9 := hqz_26; omega) hv_29 ho_29 (by omega) (by omega)⟩) (by omega) _ (lv_sub hl [1, 2, 3, 0] rfl)
    exact L19 (2 - (0 : Int32).toInt : Int).toNat.succ 0 co _ _ hh_14 (⟨by omega, by omega, jrH.st (by omega)⟩) (by omega) _ (lv_sub hl [1, 2, 3, 0] rfl)
  · skip
    have c_7' : (fq.ck r1).toInt > a2.toInt := jb_le_n (rfl) (rfl) c_7
    refine lv_aload_n hx hb dX14_settleChecks_12 rfl (lv_at hl 1 rfl) ?_
    refine lv_iload_n hx hb dX14_settleChecks_13 rfl (lv_at hl 2 rfl) ?_
    have hdg_35 := hh_5.iv 0 rfl
    have hdg_35_6 := hh_5.at 1 rfl
    have hdg_35_7 := hh_5.at 2 rfl
    have hdg_35_8 := hh_5.at 3 rfl
    have hh_36 := hh_5.sub (L1 := [(r1, 14, 5, .int qs_5), (r1, 14, 6, .ref ysb_1), (r1, 14, 7, .ref yse_1), (r1, 14, 8, .ref ysf_1), (r1, 14, 9, .int (fq.ck r1)), (r1, 14, 3, .ref yt), (r1, 14, 4, .int pz)]) [0, 1, 2, 3, 4, 5, 6] rfl (M1 := [(ysb_1, 190, 40, ca 1, gb_5), (yse_1, 191, 40, ca 1, ge_5), (ysf_1, 192, 40, ca 1, gl_5), (yt, 194, 1500, ca 1, ft)]) [0, 1, 2, 3] rfl (I1 := [(jFHc, jHc dC dI ca G0 r0 co cs cl)]) [1] rfl
    clear hh_5
    refine j7_putNX hx hb hown hK hh_36 hB hAp hB14 (C := RX12) (T := TX12) (N := 11) rfl (by decide) hg_r1 (i := 9) (by decide) hly_14_9 rfl hlk_531 rfl (ty := .int) (v := .int a2) (by decide +kernel) rfl rfl (⟨_, rfl, by omega, by omega⟩) rfl (L1 := [(r1, 14, 5, .int qs_5), (r1, 14, 6, .ref ysb_1), (r1, 14, 7, .ref yse_1), (r1, 14, 8, .ref ysf_1), (r1, 14, 3, .ref yt), (r1, 14, 4, .int pz)]) [0, 1, 2, 3, 5, 6] rfl rfl rfl dX14_settleChecks_14 (fun H_37 locs_37 hr_37 hf_37 hh_37 => ?_)
    clear hf_37
    clear hh_36
    have hdg_35n := jXD.fld (ca := ca) hdg_35 hg_r1 hr_37 hdg_35_6 hdg_35_7 hdg_35_8 (hh_37.at 2 rfl) (hh_37.at 3 rfl) (hh_37.at 4 rfl)
    have hh_38 := hh_37.addI (jXD.ie hdg_35n)
    clear hh_37
    clear hdg_35 hdg_35n hr_37 hdg_35_6 hdg_35_7 hdg_35_8
    have hF_39 := jXD.full (ca := ca) (hh_38.iv 0 rfl) hg_r1 (hh_38.at 2 rfl) (hh_38.at 3 rfl) (hh_38.at 4 rfl) (hh_38.at 1 rfl) (hh_38.at 0 rfl) (hh_38.2.2.2.2.2.2.2.1.sub (L1 := [(ysb_1, 190, 40, ca 1, gb_5), (yse_1, 191, 40, ca 1, ge_5), (ysf_1, 192, 40, ca 1, gl_5)]) [0, 1, 2] rfl)
    obtain ⟨g_39, ht_40⟩ : ∃ q : jXg, q = fq.put r1 qs_5 a2 gb_5 ge_5 gl_5 := ⟨_, rfl⟩
    rw [← ht_40] at hF_39
    have hh_41 := hh_38.sub (L1 := [(r1, 14, 9, .int a2), (r1, 14, 5, .int qs_5), (r1, 14, 6, .ref ysb_1), (r1, 14, 7, .ref yse_1), (r1, 14, 8, .ref ysf_1), (r1, 14, 3, .ref yt), (r1, 14, 4, .int pz)]) [0, 1, 2, 3, 4, 5, 6] rfl (M1 := [(ysb_1, 190, 40, ca 1, gb_5), (yse_1, 191, 40, ca 1, ge_5), (ysf_1, 192, 40, ca 1, gl_5), (yt, 194, 1500, ca 1, ft)]) [0, 1, 2, 3] rfl (I1 := [(jFHc, jHc dC dI ca G0 r0 co cs cl)]) [1] rfl
    clear hh_38
    have hh_42 := hh_41.addI (jXD.ie hF_39)
    clear hh_41
    obtain ⟨ycs_43, ycl_43, yco_43, -, ⟨hgcs_43, hgcl_43, hgco_43⟩, hoP_43, hoM_43, hqco_43, -⟩ := hh_42.iv 1 rfl
    have hh_44 := ((hh_42.sub (L1 := [(r1, 14, 9, .int a2), (r1, 14, 5, .int qs_5), (r1, 14, 6, .ref ysb_1), (r1, 14, 7, .ref yse_1), (r1, 14, 8, .ref ysf_1), (r1, 14, 3, .ref yt), (r1, 14, 4, .int pz)]) [0, 1, 2, 3, 4, 5, 6] rfl (M1 := [(ysb_1, 190, 40, ca 1, gb_5), (yse_1, 191, 40, ca 1, ge_5), (ysf_1, 192, 40, ca 1, gl_5), (yt, 194, 1500, ca 1, ft)]) [0, 1, 2, 3] rfl (I1 := [(jFxd, jXD dC dI ca G0 none g_39)]) [0] rfl).more hoP_43).moreM hoM_43
    clear hh_42
    have hh_45 := hh_44.addI (jQc.ie hqco_43 hgco_43 (by decide) (by decide))
    clear hh_44
    refine lv_iconst (v := 0) hx hb dX14_settleChecks_17 (by decide) ?_
    refine lv_istore_n (lv' := [(3, .int 0), (0, .ref r0), (1, .ref r1), (2, .int a2)]) hx hb dX14_settleChecks_18 rfl hl (by decide) rfl (fun ls hl => ?_)
    have L19 : ∀ (N : Nat) (v3_46 : Int32) (cox_46 : Nat → Option Nat) (H_46 : Heap) (locs_46 : List Loc), jSt (dC, dI) B base G0 G0 EX14_settleChecksT s.heap 0 0 [(r0, 16, 61, .ref ycs_43), (r0, 16, 62, .ref ycl_43), (r0, 16, 60, .ref yco_43), (r1, 14, 9, .int a2), (r1, 14, 5, .int qs_5), (r1, 14, 6, .ref ysb_1), (r1, 14, 7, .ref yse_1), (r1, 14, 8, .ref ysf_1), (r1, 14, 3, .ref yt), (r1, 14, 4, .int pz)] [(ycs_43, 207, 2, ca 1, cs), (ycl_43, 115, 2, ca 1, cl), (ysb_1, 190, 40, ca 1, gb_5), (yse_1, 191, 40, ca 1, ge_5), (ysf_1, 192, 40, ca 1, gl_5), (yt, 194, 1500, ca 1, ft)] [([(208, 0)], jQc dC dI (ca 4) yco_43 2 cox_46), (jFxd, jXD dC dI ca G0 none g_39)] H_46 locs_46 → (0 ≤ v3_46.toInt ∧ v3_46.toInt ≤ 2 ∧ jrH co cox_46 cs r1 a2.toInt v3_46.toInt) → (2 - v3_46.toInt : Int) < N → ∀ ls : Array Slot, lv_has ls 4 [(0, .ref r0), (1, .ref r1), (2, .int a2), (3, .int v3_46)] → W p l e R s m ([.ref r0, .ref r1, .int a2] : List Value).toArray below meth c H_46 locs_46 0 0 Q (F0 m 19 ls []) := by
      intro N
      induction N with
      | zero => intro v3_46 cox_46 H_46 locs_46 hh_46  hi_46 hm; exact absurd hm (by omega)
      | succ N L19 =>
        intro v3_46 cox_46 H_46 locs_46 hh_46  hi_46 hm_46 ls hl
        obtain ⟨hi_46_0, hi_46_1, hi_46_2⟩ := hi_46
        refine lv_iload_n hx hb dX14_settleChecks_19 rfl (lv_at hl 3 rfl) ?_
        refine lv_iconst (v := 2) hx hb dX14_settleChecks_20 (by decide) ?_
        refine lv_icmp_ge (tgt := 57) hx hb dX14_settleChecks_21 (by decide) (fun c_47 => ?_) (fun c_47 => ?_)
        · skip
          have c_47' : v3_46.toInt ≥ 2 := jb_ge (rfl) ((by decide)) c_47
          have hHf_48 : jHc dC dI ca G0 r0 cox_46 cs cl H_46 := ⟨ycs_43, ycl_43, yco_43, ⟨_, hg_r0⟩, ⟨hgcs_43, hgcl_43, hgco_43⟩, hh_46.2.2.1.sub (L1 := [(r0, 16, 61, .ref ycs_43), (r0, 16, 62, .ref ycl_43), (r0, 16, 60, .ref yco_43)]) [0, 1, 2] rfl, hh_46.2.2.2.2.2.2.2.1.sub (L1 := [(ycs_43, 207, 2, ca 1, cs), (ycl_43, 115, 2, ca 1, cl)]) [0, 1] rfl, hh_46.iv 0 rfl, trivial⟩
          have hh_49 := hh_46.sub (L1 := [(r0, 16, 61, .ref ycs_43), (r0, 16, 62, .ref ycl_43), (r0, 16, 60, .ref yco_43), (r1, 14, 9, .int a2), (r1, 14, 5, .int qs_5), (r1, 14, 6, .ref ysb_1), (r1, 14, 7, .ref yse_1), (r1, 14, 8, .ref ysf_1), (r1, 14, 3, .ref yt), (r1, 14, 4, .int pz)]) [0, 1, 2, 3, 4, 5, 6, 7, 8, 9] rfl (M1 := [(ycs_43, 207, 2, ca 1, cs), (ycl_43, 115, 2, ca 1, cl), (ysb_1, 190, 40, ca 1, gb_5), (yse_1, 191, 40, ca 1, ge_5), (ysf_1, 192, 40, ca 1, gl_5), (yt, 194, 1500, ca 1, ft)]) [0, 1, 2, 3, 4, 5] rfl (I1 := [(jFxd, jXD dC dI ca G0 none g_39)]) [1] rfl
          clear hh_46
          have hh_50 := hh_49.addI (jHc.ie hHf_48)
          clear hh_49
          rw [hQ]
          exact W.vret hx hb hr (fun t ht hW => ⟨⟨(g_39, cox_46), rfl, by (try dsimp only); skip; (try dsimp only); refine ⟨jrC.mk ht_40 hr_6_0 hr_6_4 hr_6_5 (Or.inl ⟨by omega, rfl⟩) (hr_6_3.up (by omega)) (by omega) (by omega), ?_⟩; have h9 := hi_46_2; rw [show v3_46.toInt = 2 by omega] at h9; exact h9, ⟨hh_50.rt (M1 := []) [] rfl ht, by rw [ht]; exact hh_50.2.2.2.2.2.2.2.2.sub (L1 := [(jFxd, jXD dC dI ca G0 none g_39), (jFHc, jHc dC dI ca G0 r0 cox_46 cs cl)]) [1, 0] rfl⟩⟩, by rw [ht]; try exact hh_50.1.1, fun q h9 hq => by rw [ht]; try exact hh_50.1.2.1 q h9 hq⟩) hh_50.1.2.2 dX14_settleChecks_57
        · skip
          have c_47' : v3_46.toInt < 2 := jb_ge_n (rfl) ((by decide)) c_47
          refine lv_aload_n hx hb dX14_settleChecks_24 rfl (lv_at hl 0 rfl) ?_
          refine j7_read hx hb hown hK (C := RX14) (T := TX14) (N := 74) rfl hly_16_60 hlk_129 (hh_46.at 2 rfl) dX14_settleChecks_25 ?_
          refine lv_iload_n hx hb dX14_settleChecks_28 rfl (lv_at hl 3 rfl) ?_
          refine j7_qaldI hx hb hK2 hh_46 hB208 0 rfl (by decide) hgco_43 (x := v3_46.toInt) (rfl) (by omega) (hh_46.iv 0 rfl) dX14_settleChecks_29 (fun o_51 ho_51 heo_51 => ?_)
          rcases ho_51 with rfl | ⟨el_52, rfl, hg_el_52⟩
          · simp only [va_rf]
            refine lv_aload_n hx hb dX14_settleChecks_30 rfl (lv_at hl 1 rfl) ?_
            refine lv_acmp_ne (rx := none) (ry := (some r1)) (tgt := 51) hx hb dX14_settleChecks_31 (by decide) (fun c_53 => ?_) (fun c_53 => ?_)
            · skip
              obtain ⟨z_54, ez_54⟩ : ∃ y : Int32, y = v3_46 + 1 := ⟨_, rfl⟩
              refine lv_iinc (v := z_54) (lv' := [(3, .int z_54), (0, .ref r0), (1, .ref r1), (2, .int a2)]) hx hb dX14_settleChecks_51 hl (k := 3) rfl (by rw [ez_54]; rfl) (by decide) rfl (fun ls hl => ?_)
              have hz_54 : z_54.toInt = v3_46.toInt + 1 := by rw [ez_54]; exact jb_iadd2 (rfl) (by decide) (by omega)
              refine lv_goto (tgt := 19) hx hb dX14_settleChecks_54 (by decide) ?_
              exact L19 z_54 cox_46 _ _ hh_46 (⟨by omega, by omega, hi_46_2.k (by omega) (fun q9 => c_53 (heo_51.trans q9.1)) (by omega) (by omega)⟩) (by omega) _ (lv_sub hl [1, 2, 3, 0] rfl)
            · skip
              cases c_53
          · simp only [va_rf]
            refine lv_aload_n hx hb dX14_settleChecks_30 rfl (lv_at hl 1 rfl) ?_
            refine lv_acmp_ne (rx := (some el_52)) (ry := (some r1)) (tgt := 51) hx hb dX14_settleChecks_31 (by decide) (fun c_55 => ?_) (fun c_55 => ?_)
            · skip
              obtain ⟨z_56, ez_56⟩ : ∃ y : Int32, y = v3_46 + 1 := ⟨_, rfl⟩
              refine lv_iinc (v := z_56) (lv' := [(3, .int z_56), (0, .ref r0), (1, .ref r1), (2, .int a2)]) hx hb dX14_settleChecks_51 hl (k := 3) rfl (by rw [ez_56]; rfl) (by decide) rfl (fun ls hl => ?_)
              have hz_56 : z_56.toInt = v3_46.toInt + 1 := by rw [ez_56]; exact jb_iadd2 (rfl) (by decide) (by omega)
              refine lv_goto (tgt := 19) hx hb dX14_settleChecks_54 (by decide) ?_
              exact L19 z_56 cox_46 _ _ hh_46 (⟨by omega, by omega, hi_46_2.k (by omega) (fun q9 => c_55 (heo_51.trans q9.1)) (by omega) (by omega)⟩) (by omega) _ (lv_sub hl [1, 2, 3, 0] rfl)
            · skip
              refine lv_aload_n hx hb dX14_settleChecks_34 rfl (lv_at hl 0 rfl) ?_
              refine j7_read hx hb hown hK (C := RX14) (T := TX14) (N := 74) rfl hly_16_61 hlk_132 (hh_46.at 0 rfl) dX14_settleChecks_35 ?_
              refine lv_iload_n hx hb dX14_settleChecks_38 rfl (lv_at hl 3 rfl) ?_
              refine j7_ialdM hx hb hK hh_46 hB207 1 rfl (by decide) hgcs_43 (x := v3_46.toInt) (rfl) (by omega) (j := 0) rfl dX14_settleChecks_39 (fun z_57 ez_57 (hz_57 : 0 ≤ z_57.toInt ∧ z_57.toInt ≤ 39) => ?_)
              have hqz_57 : z_57.toInt = jSo cs (v3_46.toInt) := by unfold jSo; rw [ez_57]
              refine lv_iload_n hx hb dX14_settleChecks_40 rfl (lv_at hl 2 rfl) ?_
              refine lv_icmp_lt (tgt := 51) hx hb dX14_settleChecks_41 (by decide) (fun c_58 => ?_) (fun c_58 => ?_)
              · skip
                have c_58' : z_57.toInt < a2.toInt := jb_lt (rfl) (rfl) c_58
                obtain ⟨z_59, ez_59⟩ : ∃ y : Int32, y = v3_46 + 1 := ⟨_, rfl⟩
                refine lv_iinc (v := z_59) (lv' := [(3, .int z_59), (0, .ref r0), (1, .ref r1), (2, .int a2)]) hx hb dX14_settleChecks_51 hl (k := 3) rfl (by rw [ez_59]; rfl) (by decide) rfl (fun ls hl => ?_)
                have hz_59 : z_59.toInt = v3_46.toInt + 1 := by rw [ez_59]; exact jb_iadd2 (rfl) (by decide) (by omega)
                refine lv_goto (tgt := 19) hx hb dX14_settleChecks_54 (by decide) ?_
                exact L19 z_59 cox_46 _ _ hh_46 (⟨by omega, by omega, hi_46_2.k (by omega) (fun q9 => by have h9 := hqz_57; have h8 := q9.2; omega) (by omega) (by omega)⟩) (by omega) _ (lv_sub hl [1, 2, 3, 0] rfl)
              · skip
                have c_58' : z_57.toInt ≥ a2.toInt := jb_lt_n (rfl) (rfl) c_58
                refine lv_aload_n hx hb dX14_settleChecks_44 rfl (lv_at hl 0 rfl) ?_
                refine j7_read hx hb hown hK (C := RX14) (T := TX14) (N := 74) rfl hly_16_60 hlk_129 (hh_46.at 2 rfl) dX14_settleChecks_45 ?_
                refine lv_iload_n hx hb dX14_settleChecks_48 rfl (lv_at hl 3 rfl) ?_
                refine lv_null hx hb dX14_settleChecks_49 ?_
                have hd_61 := hh_46.iv 0 rfl
                have hh_63 := hh_46.sub (L1 := [(r0, 16, 61, .ref ycs_43), (r0, 16, 62, .ref ycl_43), (r0, 16, 60, .ref yco_43), (r1, 14, 9, .int a2), (r1, 14, 5, .int qs_5), (r1, 14, 6, .ref ysb_1), (r1, 14, 7, .ref yse_1), (r1, 14, 8, .ref ysf_1), (r1, 14, 3, .ref yt), (r1, 14, 4, .int pz)]) [0, 1, 2, 3, 4, 5, 6, 7, 8, 9] rfl (M1 := [(ycs_43, 207, 2, ca 1, cs), (ycl_43, 115, 2, ca 1, cl), (ysb_1, 190, 40, ca 1, gb_5), (yse_1, 191, 40, ca 1, ge_5), (ysf_1, 192, 40, ca 1, gl_5), (yt, 194, 1500, ca 1, ft)]) [0, 1, 2, 3, 4, 5] rfl (I1 := [(jFxd, jXD dC dI ca G0 none g_39)]) [1] rfl
                clear hh_46
                refine j7_qastNI hx hb hK2 hh_63 hB hB208 0 rfl (by decide) (by decide) rfl rfl rfl hgco_43 (x := v3_46.toInt) (rfl) (by omega) (Or.inl rfl) hd_61 dX14_settleChecks_50 (fun H_60 locs_60 fq_62 hv_60 ho_60 hq_60 hh_60 => ?_)
                clear hh_63
                have hh_64 := hh_60.addI (hq_60.ie hgco_43 (by decide) (by decide))
                clear hh_60
                clear hd_61
                obtain ⟨z_65, ez_65⟩ : ∃ y : Int32, y = v3_46 + 1 := ⟨_, rfl⟩
                refine lv_iinc (v := z_65) (lv' := [(3, .int z_65), (0, .ref r0), (1, .ref r1), (2, .int a2)]) hx hb dX14_settleChecks_51 hl (k := 3) rfl (by rw [ez_65]; rfl) (by decide) rfl (fun ls hl => ?_)
                have hz_65 : z_65.toInt = v3_46.toInt + 1 := by rw [ez_65]; exact jb_iadd2 (rfl) (by decide) (by omega)
                refine lv_goto (tgt := 19) hx hb dX14_settleChecks_54 (by decide) ?_
                exact L19 z_65 fq_62 _ _ hh_64 (⟨by omega, by omega, hi_46_2.d (by omega) (by omega) (heo_51.symm.trans c_55) (by have h9 := hqz_57; omega) hv_60 ho_60 (by omega) (by omega)⟩) (by omega) _ (lv_sub hl [1, 2, 3, 0] rfl)
    exact L19 (2 - (0 : Int32).toInt : Int).toNat.succ 0 co _ _ hh_45 (⟨by omega, by omega, jrH.st (by omega)⟩) (by omega) _ (lv_sub hl [1, 2, 3, 0] rfl)
end
