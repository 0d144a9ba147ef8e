section
def EX14_isWaitedForT : List (Nat × Nat) := []
def EX14_keepRowT : List (Nat × Nat) := [(16, 66), (114, 0), (205, 0)]
def EX14_costOfT : List (Nat × Nat) := [(15, 5), (15, 7), (15, 10), (15, 11), (15, 15), (15, 18), (15, 21), (15, 30), (15, 31), (155, 0), (156, 0), (157, 0), (166, 0), (167, 0)]
set_option maxHeartbeats 4000000 in
set_option maxRecDepth 20000 in
theorem uX14_isWaitedForT (l : Launch) (dC : Nat → ClassId) (dI : Nat → Nat → Nat) (ca : Nat → ClassId) (base : Nat) (B : jF) (hB : jBok B) (hAp : jAp (dC, dI)) (hB14 : ∀ n G a H, B 14 n G a H ↔ jOb (dC, dI) 14 11 (F14 n G) a H) (hB16 : ∀ n G a H, B 16 n G a H ↔ jOb (dC, dI) 16 74 (F16 n G) a H) (hB202 : ∀ n G a H, B 202 n G a H ↔ jAq (dC, dI) (ca 4) (jQn 14 0) n G a H) (G0 : jT) (H0 : Heap) (r0 : Nat) (r1 : Nat) (WW : List jwA) : Met l yX14_isWaitedFor (jw yX14_isWaitedFor cX14_isWaitedFor 3 (some .boolean)) ({ frames := 0, cells := 0, slots := 0, locals := 0 }) (va_Pc [.ref r0, .ref r1] (fun U => U.heap = H0 ∧ jX B base G0 [] H0 ∧ jG dC dI ca base U ∧ jK2 dC dI ca U ∧ G0 r1 = some (14, 0) ∧ G0 r0 = some (16, 0) ∧ jP (dC, dI) G0 H0 [] ∧ jIs (dC, dI) G0 H0 [(jFHw, jHw dC dI ca G0 r0 WW)] ∧ True)) (va_Qi (S := Unit) (fun r u => (r = 0 ∨ r = 1) ∧ (((r.toInt = 1 ∧ jwIs WW r1) ∨ (r.toInt = 0 ∧ ¬ jwIs WW r1)))) (fun u t => (jRt (dC, dI) B base G0 EX14_isWaitedForT H0 [] t.heap) ∧ jIs (dC, dI) G0 t.heap [(jFHw, jHw dC dI ca G0 r0 WW)]) (jA base)) 0 0 (jA base) := by
  refine Met.ofW (cc := cX14_isWaitedFor) (maxL := 3) (ret := (some .boolean)) (by decide) rfl ?_
  intro p e s m args below meth c s₁ Bd hml hv
  obtain ⟨rfl, hH0, hX, hG, hK2, hg_r1, hg_r0, hP0, hI0, hp0⟩ := hv
  have hK := hG.1
  have hx := Bd.exec
  have hb := Bd.bytes
  have hr := Bd.returns
  have hts := atoms_spec (ws := (jw yX14_isWaitedFor cX14_isWaitedFor 3 (some .boolean))) Bd.pre
  have htw : ∀ w ∈ jWl, w.before _ s = true := fun w h => hts w (List.mem_cons_of_mem _ h)
  have hown : s.vm.findClass RX14 = some m.cls := findClass_of_methodNamed Bd.named
  have hlocks := Bd.notSynchronized
  obtain ⟨Q, hQ⟩ : ∃ Q, Q = MQ below (va_Qi (S := Unit) (fun r u => (r = 0 ∨ r = 1) ∧ (((r.toInt = 1 ∧ jwIs WW r1) ∨ (r.toInt = 0 ∧ ¬ jwIs WW r1)))) (fun u t => (jRt (dC, dI) B base G0 EX14_isWaitedForT H0 [] t.heap) ∧ jIs (dC, dI) G0 t.heap [(jFHw, jHw dC dI ca G0 r0 WW)]) (jA base)) ([.ref r0, .ref r1] : List Value).toArray s 0 0 (jA base) := ⟨_, rfl⟩
  rw [← hQ]
  have hl := lv_entry ([.ref r0, .ref r1]) (n := 3) (Nat.le_of_ble_eq_true rfl)
  rw [lg_entry_eq]
  generalize (lg_sl ([.ref r0, .ref r1]) ++ List.replicate (3 - (lg_sl ([.ref r0, .ref r1])).length) Slot.unset).toArray = ls at hl ⊢
  have hl : lv_has ls 3 [(0, .ref r0), (1, .ref r1)] := hl
  generalize hR : (headSpec (jw yX14_isWaitedFor cX14_isWaitedFor 3 (some .boolean)) ({ frames := 0, cells := 0, slots := 0, locals := 0 })).room = R
  subst hH0
  have hh : jSt (dC, dI) B base G0 G0 EX14_isWaitedForT s.heap 0 0 [] [] [(jFHw, jHw dC dI ca G0 r0 WW)] s.heap [] := jSt.start hX hP0 jMc.nil hI0
  clear hX hP0
  have hk0 : (0 : Int32).toInt = 0 := by decide
  have hk1 : (1 : Int32).toInt = 1 := by decide
  have hly_16_48 := htw (u_lay RX14 TX14 48) (jWc_wsX140 _ (u_in_lay (by decide)))
  have hly_16_49 := htw (u_lay RX14 TX14 49) (jWc_wsX140 _ (u_in_lay (by decide)))
  have hlk_711 := (htw (.fieldLink RX14 711 "ProofServerModel" "waits" "I") (jWr_58 _ (List.mem_of_getElem? (i := 11) rfl)))
  have hlk_91 := (htw (.fieldLink RX14 91 "ProofServerModel" "waitOf" "[LProofServerModel$Document;") (jWr_12 _ (List.mem_of_getElem? (i := 0) rfl)))
  obtain ⟨ywd_1, yws_1, ywi_1, ywu_1, ywe_1, ywo_1, wn_1, wd_1, ws_1, wi_1, wu_1, we_1, wo_1, -, ⟨hgwd_1, hgws_1, hgwi_1, hgwu_1, hgwe_1, hgwo_1⟩, hoP_1, hoM_1, hqwo_1, hoR_1⟩ := hh.iv 0 rfl
  have hh_2 := ((hh.sub (L1 := []) [] rfl (M1 := []) [] rfl (I1 := []) [] rfl).more hoP_1).moreM hoM_1
  clear hh
  have hh_3 := hh_2.addI (jQc.ie hqwo_1 hgwo_1 (by decide) (by decide))
  clear hh_2
  have hwl9 := hoR_1
  have hwb9 := And.intro hoR_1.1 hoR_1.2.1
  refine lv_iconst (v := 0) hx hb dX14_isWaitedFor_0 (by decide) ?_
  refine lv_istore_n (lv' := [(2, .int 0), (0, .ref r0), (1, .ref r1)]) hx hb dX14_isWaitedFor_1 rfl hl (by decide) rfl (fun ls hl => ?_)
  have L2 : ∀ (N : Nat) (v2_4 : Int32) (H_4 : Heap) (locs_4 : List Loc), jSt (dC, dI) B base G0 G0 EX14_isWaitedForT s.heap 0 0 [(r0, 16, 51, .ref ywd_1), (r0, 16, 52, .ref yws_1), (r0, 16, 53, .ref ywi_1), (r0, 16, 54, .ref ywu_1), (r0, 16, 55, .ref ywe_1), (r0, 16, 49, .ref ywo_1), (r0, 16, 48, .int wn_1)] [(ywd_1, 206, 12, ca 1, wd_1), (yws_1, 104, 12, ca 3, ws_1), (ywi_1, 116, 12, ca 1, wi_1), (ywu_1, 126, 240, ca 1, wu_1), (ywe_1, 203, 12, ca 1, we_1)] [([(202, 0)], jQc dC dI (ca 4) ywo_1 12 wo_1)] H_4 locs_4 → (0 ≤ v2_4.toInt ∧ v2_4.toInt ≤ wn_1.toInt ∧ (∀ i : Nat, (i : Int) < v2_4.toInt → wo_1 i ≠ some r1)) → (wn_1.toInt - v2_4.toInt : Int) < N → ∀ ls : Array Slot, lv_has ls 3 [(0, .ref r0), (1, .ref r1), (2, .int v2_4)] → W p l e R s m ([.ref r0, .ref r1] : List Value).toArray below meth c H_4 locs_4 0 0 Q (F0 m 2 ls []) := by
    intro N
    induction N with
    | zero => intro v2_4 H_4 locs_4 hh_4  hi_4 hm; exact absurd hm (by omega)
    | succ N L2 =>
      intro v2_4 H_4 locs_4 hh_4  hi_4 hm_4 ls hl
      obtain ⟨hi_4_0, hi_4_1, hi_4_2⟩ := hi_4
      refine lv_iload_n hx hb dX14_isWaitedFor_2 rfl (lv_at hl 2 rfl) ?_
      refine lv_aload_n hx hb dX14_isWaitedFor_3 rfl (lv_at hl 0 rfl) ?_
      refine j7_read hx hb hown hK (C := RX14) (T := TX14) (N := 74) rfl hly_16_48 hlk_711 (hh_4.at 6 rfl) dX14_isWaitedFor_4 ?_
      refine lv_icmp_ge (tgt := 28) hx hb dX14_isWaitedFor_7 (by decide) (fun c_5 => ?_) (fun c_5 => ?_)
      · skip
        have c_5' : v2_4.toInt ≥ wn_1.toInt := jb_ge (rfl) (rfl) c_5
        refine lv_iconst (v := 0) hx hb dX14_isWaitedFor_28 (by decide) ?_
        have hHf_6 : jHw dC dI ca G0 r0 WW H_4 := ⟨ywd_1, yws_1, ywi_1, ywu_1, ywe_1, ywo_1, wn_1, wd_1, ws_1, wi_1, wu_1, we_1, wo_1, ⟨_, hg_r0⟩, ⟨hgwd_1, hgws_1, hgwi_1, hgwu_1, hgwe_1, hgwo_1⟩, hh_4.2.2.1.sub (L1 := [(r0, 16, 51, .ref ywd_1), (r0, 16, 52, .ref yws_1), (r0, 16, 53, .ref ywi_1), (r0, 16, 54, .ref ywu_1), (r0, 16, 55, .ref ywe_1), (r0, 16, 49, .ref ywo_1), (r0, 16, 48, .int wn_1)]) [0, 1, 2, 3, 4, 5, 6] rfl, hh_4.2.2.2.2.2.2.2.1.sub (L1 := [(ywd_1, 206, 12, ca 1, wd_1), (yws_1, 104, 12, ca 3, ws_1), (ywi_1, 116, 12, ca 1, wi_1), (ywu_1, 126, 240, ca 1, wu_1), (ywe_1, 203, 12, ca 1, we_1)]) [0, 1, 2, 3, 4] rfl, hh_4.iv 0 rfl, hoR_1⟩
        have hh_7 := hh_4.sub (L1 := [(r0, 16, 51, .ref ywd_1), (r0, 16, 52, .ref yws_1), (r0, 16, 53, .ref ywi_1), (r0, 16, 54, .ref ywu_1), (r0, 16, 55, .ref ywe_1), (r0, 16, 49, .ref ywo_1), (r0, 16, 48, .int wn_1)]) [0, 1, 2, 3, 4, 5, 6] rfl (M1 := [(ywd_1, 206, 12, ca 1, wd_1), (yws_1, 104, 12, ca 3, ws_1), (ywi_1, 116, 12, ca 1, wi_1), (ywu_1, 126, 240, ca 1, wu_1), (ywe_1, 203, 12, ca 1, we_1)]) [0, 1, 2, 3, 4] rfl (I1 := []) [] rfl
        clear hh_4
        have hh_8 := hh_7.addI (jHw.ie hHf_6)
        clear hh_7
        rw [hQ]
        exact W.zret (v := 0) hx hb hr (jb_nz (Or.inl rfl)) (fun t ht hW => ⟨⟨0, (), rfl, ⟨(Or.inl rfl), Or.inr ⟨hk0, jwIs.n hwl9 (by omega) hi_4_2⟩⟩, ⟨hh_8.rt (M1 := []) [] rfl ht, by rw [ht]; exact hh_8.2.2.2.2.2.2.2.2.sub (L1 := [(jFHw, jHw dC dI ca G0 r0 WW)]) [0] rfl⟩⟩, by rw [ht]; try exact hh_8.1.1, fun q h9 hq => by rw [ht]; try exact hh_8.1.2.1 q h9 hq⟩) hh_8.1.2.2 dX14_isWaitedFor_29
      · skip
        have c_5' : v2_4.toInt < wn_1.toInt := jb_ge_n (rfl) (rfl) c_5
        refine lv_aload_n hx hb dX14_isWaitedFor_10 rfl (lv_at hl 0 rfl) ?_
        refine j7_read hx hb hown hK (C := RX14) (T := TX14) (N := 74) rfl hly_16_49 hlk_91 (hh_4.at 5 rfl) dX14_isWaitedFor_11 ?_
        refine lv_iload_n hx hb dX14_isWaitedFor_14 rfl (lv_at hl 2 rfl) ?_
        refine j7_qaldI hx hb hK2 hh_4 hB202 0 rfl (by decide) hgwo_1 (x := v2_4.toInt) (rfl) (by omega) (hh_4.iv 0 rfl) dX14_isWaitedFor_15 (fun o_9 ho_9 heo_9 => ?_)
        rcases ho_9 with rfl | ⟨el_10, rfl, hg_el_10⟩
        · simp only [va_rf]
          refine lv_aload_n hx hb dX14_isWaitedFor_16 rfl (lv_at hl 1 rfl) ?_
          refine lv_acmp_ne (rx := none) (ry := (some r1)) (tgt := 22) hx hb dX14_isWaitedFor_17 (by decide) (fun c_11 => ?_) (fun c_11 => ?_)
          · skip
            obtain ⟨z_12, ez_12⟩ : ∃ y : Int32, y = v2_4 + 1 := ⟨_, rfl⟩
            refine lv_iinc (v := z_12) (lv' := [(2, .int z_12), (0, .ref r0), (1, .ref r1)]) hx hb dX14_isWaitedFor_22 hl (k := 2) rfl (by rw [ez_12]; rfl) (by decide) rfl (fun ls hl => ?_)
            have hz_12 : z_12.toInt = v2_4.toInt + 1 := by rw [ez_12]; exact jb_iadd2 (rfl) (by decide) (by omega)
            refine lv_goto (tgt := 2) hx hb dX14_isWaitedFor_25 (by decide) ?_
            exact L2 z_12 _ _ hh_4 (⟨by omega, by omega, by first | exact jwWr.nn hi_4_2 heo_9 (by omega) (by omega) | exact jwWr.nx hi_4_2 heo_9 (fun e => c_11 (congrArg some e)) (by omega) (by omega)⟩) (by omega) _ (lv_sub hl [1, 2, 0] rfl)
          · skip
            cases c_11
        · simp only [va_rf]
          refine lv_aload_n hx hb dX14_isWaitedFor_16 rfl (lv_at hl 1 rfl) ?_
          refine lv_acmp_ne (rx := (some el_10)) (ry := (some r1)) (tgt := 22) hx hb dX14_isWaitedFor_17 (by decide) (fun c_13 => ?_) (fun c_13 => ?_)
          · skip
            obtain ⟨z_14, ez_14⟩ : ∃ y : Int32, y = v2_4 + 1 := ⟨_, rfl⟩
            refine lv_iinc (v := z_14) (lv' := [(2, .int z_14), (0, .ref r0), (1, .ref r1)]) hx hb dX14_isWaitedFor_22 hl (k := 2) rfl (by rw [ez_14]; rfl) (by decide) rfl (fun ls hl => ?_)
            have hz_14 : z_14.toInt = v2_4.toInt + 1 := by rw [ez_14]; exact jb_iadd2 (rfl) (by decide) (by omega)
            refine lv_goto (tgt := 2) hx hb dX14_isWaitedFor_25 (by decide) ?_
            exact L2 z_14 _ _ hh_4 (⟨by omega, by omega, by first | exact jwWr.nn hi_4_2 heo_9 (by omega) (by omega) | exact jwWr.nx hi_4_2 heo_9 (fun e => c_13 (congrArg some e)) (by omega) (by omega)⟩) (by omega) _ (lv_sub hl [1, 2, 0] rfl)
          · skip
            refine lv_iconst (v := 1) hx hb dX14_isWaitedFor_20 (by decide) ?_
            have hHf_15 : jHw dC dI ca G0 r0 WW H_4 := ⟨ywd_1, yws_1, ywi_1, ywu_1, ywe_1, ywo_1, wn_1, wd_1, ws_1, wi_1, wu_1, we_1, wo_1, ⟨_, hg_r0⟩, ⟨hgwd_1, hgws_1, hgwi_1, hgwu_1, hgwe_1, hgwo_1⟩, hh_4.2.2.1.sub (L1 := [(r0, 16, 51, .ref ywd_1), (r0, 16, 52, .ref yws_1), (r0, 16, 53, .ref ywi_1), (r0, 16, 54, .ref ywu_1), (r0, 16, 55, .ref ywe_1), (r0, 16, 49, .ref ywo_1), (r0, 16, 48, .int wn_1)]) [0, 1, 2, 3, 4, 5, 6] rfl, hh_4.2.2.2.2.2.2.2.1.sub (L1 := [(ywd_1, 206, 12, ca 1, wd_1), (yws_1, 104, 12, ca 3, ws_1), (ywi_1, 116, 12, ca 1, wi_1), (ywu_1, 126, 240, ca 1, wu_1), (ywe_1, 203, 12, ca 1, we_1)]) [0, 1, 2, 3, 4] rfl, hh_4.iv 0 rfl, hoR_1⟩
            have hh_16 := hh_4.sub (L1 := [(r0, 16, 51, .ref ywd_1), (r0, 16, 52, .ref yws_1), (r0, 16, 53, .ref ywi_1), (r0, 16, 54, .ref ywu_1), (r0, 16, 55, .ref ywe_1), (r0, 16, 49, .ref ywo_1), (r0, 16, 48, .int wn_1)]) [0, 1, 2, 3, 4, 5, 6] rfl (M1 := [(ywd_1, 206, 12, ca 1, wd_1), (yws_1, 104, 12, ca 3, ws_1), (ywi_1, 116, 12, ca 1, wi_1), (ywu_1, 126, 240, ca 1, wu_1), (ywe_1, 203, 12, ca 1, we_1)]) [0, 1, 2, 3, 4] rfl (I1 := []) [] rfl
            clear hh_4
            have hh_17 := hh_16.addI (jHw.ie hHf_15)
            clear hh_16
            rw [hQ]
            exact W.zret (v := 1) hx hb hr (jb_nz (Or.inr rfl)) (fun t ht hW => ⟨⟨1, (), rfl, ⟨(Or.inr rfl), Or.inl ⟨hk1, jwIs.y hwl9 (by omega) (by omega) (c_13.symm.trans heo_9)⟩⟩, ⟨hh_17.rt (M1 := []) [] rfl ht, by rw [ht]; exact hh_17.2.2.2.2.2.2.2.2.sub (L1 := [(jFHw, jHw dC dI ca G0 r0 WW)]) [0] rfl⟩⟩, by rw [ht]; try exact hh_17.1.1, fun q h9 hq => by rw [ht]; try exact hh_17.1.2.1 q h9 hq⟩) hh_17.1.2.2 dX14_isWaitedFor_21
  exact L2 (wn_1.toInt - (0 : Int32).toInt : Int).toNat.succ 0 _ _ hh_3 (⟨by omega, by omega, fun i hi => by have h9 := hk0; omega⟩) (by omega) _ (lv_sub hl [1, 2, 0] rfl)
set_option maxHeartbeats 4000000 in
set_option maxRecDepth 20000 in
theorem uX14_keepRowT (l : Launch) (dC : Nat → ClassId) (dI : Nat → Nat → Nat) (ca : Nat → ClassId) (base : Nat) (B : jF) (hB : jBok B) (hAp : jAp (dC, dI)) (hB16 : ∀ n G a H, B 16 n G a H ↔ jOb (dC, dI) 16 74 (F16 n G) a H) (hB113 : ∀ n G a H, B 113 n G a H ↔ jAr (dC, dI) (ca 1) (fun j z => True) n a H) (hB114 : ∀ n G a H, B 114 n G a H ↔ jAr (dC, dI) (ca 1) (fun j z => True) n a H) (hB205 : ∀ n G a H, B 205 n G a H ↔ jAr (dC, dI) (ca 1) (fun j z => 0 ≤ z.toInt ∧ z.toInt ≤ 1600) n a H) (G0 : jT) (H0 : Heap) (r0 : Nat) (pl : Int32) (yr : Nat) (RR : List Int) (CC : List (List Int)) (fr : Nat → Int32) : Met l yX14_keepRow (jw yX14_keepRow cX14_keepRow 4 none) ({ frames := 1, cells := 0, slots := 0, locals := 23 }) (va_Pc [.ref r0] (fun U => U.heap = H0 ∧ jX B base G0 [] H0 ∧ jG dC dI ca base U ∧ G0 r0 = some (16, 0) ∧ G0 yr = some (113, 1600) ∧ jP (dC, dI) G0 H0 [(r0, 16, 70, .int pl), (r0, 16, 69, .ref yr)] ∧ jMc (dC, dI) G0 H0 [(yr, 113, 1600, ca 1, fr)] ∧ jIs (dC, dI) G0 H0 [(jFHk, jHk dC dI ca G0 r0 CC)] ∧ 0 ≤ pl.toInt ∧ pl.toInt ≤ 1600 ∧ jcL fr (pl.toInt).toNat 0 = RR)) (va_Qv (S := Unit) (fun u => True) (fun u t => (jRt (dC, dI) B base G0 EX14_keepRowT H0 [] t.heap) ∧ jIs (dC, dI) G0 t.heap [(jFHk, jHk dC dI ca G0 r0 (jwKp CC RR))]) (jA base)) 0 0 (jA base) := by
  refine Met.ofW (cc := cX14_keepRow) (maxL := 4) (ret := none) (by decide) rfl ?_
  intro p e s m args below meth c s₁ Bd hml hv
  obtain ⟨rfl, hH0, hX, hG, hg_r0, hg_yr, hP0, hM0, hI0, hp0, hp1, hp2⟩ := hv
  have hK := hG.1
  have hx := Bd.exec
  have hb := Bd.bytes
  have hr := Bd.returns
  have hts := atoms_spec (ws := (jw yX14_keepRow cX14_keepRow 4 none)) Bd.pre
  have htw : ∀ w ∈ jWl, w.before _ s = true := fun w h => hts w (List.mem_cons_of_mem _ h)
  have hown : s.vm.findClass RX14 = some m.cls := findClass_of_methodNamed Bd.named
  have hlocks := Bd.notSynchronized
  obtain ⟨Q, hQ⟩ : ∃ Q, Q = MQ below (va_Qv (S := Unit) (fun u => True) (fun u t => (jRt (dC, dI) B base G0 EX14_keepRowT H0 [] t.heap) ∧ jIs (dC, dI) G0 t.heap [(jFHk, jHk dC dI ca G0 r0 (jwKp CC RR))]) (jA base)) ([.ref r0] : List Value).toArray s 0 0 (jA base) := ⟨_, rfl⟩
  rw [← hQ]
  have hl := lv_entry ([.ref r0]) (n := 4) (Nat.le_of_ble_eq_true rfl)
  rw [lg_entry_eq]
  generalize (lg_sl ([.ref r0]) ++ List.replicate (4 - (lg_sl ([.ref r0])).length) Slot.unset).toArray = ls at hl ⊢
  have hl : lv_has ls 4 [(0, .ref r0)] := hl
  generalize hR : (headSpec (jw yX14_keepRow cX14_keepRow 4 none) ({ frames := 1, cells := 0, slots := 0, locals := 23 })).room = R
  subst hH0
  have hh : jSt (dC, dI) B base G0 G0 EX14_keepRowT s.heap 0 0 [(r0, 16, 70, .int pl), (r0, 16, 69, .ref yr)] [(yr, 113, 1600, ca 1, fr)] [(jFHk, jHk dC dI ca G0 r0 CC)] s.heap [] := jSt.start hX hP0 hM0 hI0
  clear hX hP0
  have hk0 : (0 : Int32).toInt = 0 := by decide
  have hk1 : (1 : Int32).toInt = 1 := by decide
  have hk24 : (24 : Int32).toInt = 24 := by decide
  have hk1600 : (1600 : Int32).toInt = 1600 := by decide
  have hly_16_66 := htw (u_lay RX14 TX14 66) (jWc_wsX140 _ (u_in_lay (by decide)))
  have hly_16_67 := htw (u_lay RX14 TX14 67) (jWc_wsX140 _ (u_in_lay (by decide)))
  have hly_16_68 := htw (u_lay RX14 TX14 68) (jWc_wsX140 _ (u_in_lay (by decide)))
  have hly_16_69 := htw (u_lay RX14 TX14 69) (jWc_wsX140 _ (u_in_lay (by decide)))
  have hly_16_70 := htw (u_lay RX14 TX14 70) (jWc_wsX140 _ (u_in_lay (by decide)))
  have hlk_769 := (htw (.fieldLink RX14 769 "ProofServerModel" "cached" "I") (jWr_90 _ (List.mem_of_getElem? (i := 22) rfl)))
  have hlk_145 := (htw (.fieldLink RX14 145 "ProofServerModel" "cacheLength" "[I") (jWr_12 _ (List.mem_of_getElem? (i := 21) rfl)))
  have hlk_142 := (htw (.fieldLink RX14 142 "ProofServerModel" "cacheUnits" "[I") (jWr_12 _ (List.mem_of_getElem? (i := 20) rfl)))
  have hlk_766 := (htw (.fieldLink RX14 766 "ProofServerModel" "rowLength" "I") (jWr_90 _ (List.mem_of_getElem? (i := 17) rfl)))
  have hlk_148 := (htw (.fieldLink RX14 148 "ProofServerModel" "row" "[I") (jWr_12 _ (List.mem_of_getElem? (i := 22) rfl)))
  obtain ⟨ycu_1, yce_1, cn_1, cu_1, ce_1, -, ⟨hgcu_1, hgce_1⟩, hoP_1, hoM_1, -, hoR_1⟩ := hh.iv 0 rfl
  have hh_2 := ((hh.sub (L1 := [(r0, 16, 70, .int pl), (r0, 16, 69, .ref yr)]) [0, 1] rfl (M1 := [(yr, 113, 1600, ca 1, fr)]) [0] rfl (I1 := []) [] rfl).more hoP_1).moreM hoM_1
  clear hh
  obtain ⟨hc1, hc2, hc3⟩ := hoR_1
  refine lv_aload_n hx hb dX14_keepRow_0 rfl (lv_at hl 0 rfl) ?_
  refine va_calli (A0 := jA base) (H0 := s.heap) (va_runV (As := []) (rest := []) ⟨hx, hb, hml, hown, hts⟩ (uX14_inCacheT l dC dI ca base B hB hAp hB16 hB113 hB114 hB205 G0 s.heap r0 cn_1 pl yr ycu_1 yce_1 CC RR fr cu_1 ce_1) (cwV 0 hts (jgV (jWr_90 _ (List.mem_of_getElem? (i := 18) rfl)) (jWr_90 _ (List.mem_of_getElem? (i := 19) rfl)) (jWr_90 _ (List.mem_of_getElem? (i := 20) rfl)) (jWr_1 _ (List.mem_of_getElem? (i := 5) rfl)) (jWr_90 _ (List.mem_of_getElem? (i := 21) rfl))) rfl rfl rfl (by decide +kernel) ⟨by rw [← hR]; exact Nat.le_of_ble_eq_true rfl, by rw [← hR]; exact Nat.le_of_ble_eq_true rfl⟩) ⟨fun a U g mk q => by obtain ⟨q0, q1, q2, qK, q10, q11, q12, q13, q14, q15, q16⟩ := q; exact ⟨q0, q1, q2, jG.calling g mk a qK, q10, q11, q12, q13, q14, q15, q16⟩, hh_2.recv (C := RX14) (T := TX14) (N := 74) hB16 rfl (by decide) hg_r0 hK, fun U hU hW => ⟨rfl, hU, hh_2.2.1, hG.step hW hU hh_2.1, hg_r0, hg_yr, hgcu_1, hgce_1, (hh_2.2.2.1.sub (L1 := [(r0, 16, 66, .int cn_1), (r0, 16, 70, .int pl), (r0, 16, 69, .ref yr), (r0, 16, 67, .ref ycu_1), (r0, 16, 68, .ref yce_1)]) [2, 3, 4, 0, 1] rfl), (hh_2.2.2.2.2.2.2.2.1.sub (L1 := [(yr, 113, 1600, ca 1, fr), (ycu_1, 114, 38400, ca 1, cu_1), (yce_1, 205, 24, ca 1, ce_1)]) [2, 0, 1] rfl), ⟨(by first | omega | rfl | assumption | exact hc3 | exact hp2), (by first | omega | rfl | assumption | exact hc3 | exact hp2), (by first | omega | rfl | assumption | exact hc3 | exact hp2), (by first | omega | rfl | assumption | exact hc3 | exact hp2), (by first | omega | rfl | assumption | exact hc3 | exact hp2), (by first | assumption | exact hc3 | exact hp2 | omega), (by first | assumption | exact hc3 | exact hp2 | omega)⟩⟩⟩ rfl rfl hl.1 rfl (lv_room (Nat.le_of_ble_eq_true rfl)) dX14_keepRow_1 ⟨Nat.zero_le _, Nat.zero_le _⟩) hh_2.1 (fun q _ h => h) (fun q h => h) (fun r_4 u_3 t_3 H_3 locs_3 ht_3 hvm_3 hr_4 hb_3 hz_3 hk_3 hS_3 => ?_)
  rw [ht_3] at hb_3
  obtain ⟨hb_31, hb_32, hb_33, hb_34, hb_35⟩ := hb_3
  have hh_3 : jSt (dC, dI) B base G0 G0 EX14_keepRowT s.heap 0 0 [(r0, 16, 67, .ref ycu_1), (r0, 16, 68, .ref yce_1), (r0, 16, 66, .int cn_1), (r0, 16, 70, .int pl), (r0, 16, 69, .ref yr)] [(ycu_1, 114, 38400, ca 1, cu_1), (yce_1, 205, 24, ca 1, ce_1), (yr, 113, 1600, ca 1, fr)] [] H_3 locs_3 := ((hh_2.call hb_31 hb_32 hb_33 hb_34 hS_3 rfl (L1 := [(r0, 16, 67, .ref ycu_1), (r0, 16, 68, .ref yce_1), (r0, 16, 66, .int cn_1), (r0, 16, 70, .int pl), (r0, 16, 69, .ref yr)]) [0, 1, 2, 3, 4] rfl rfl (M1 := [(ycu_1, 114, 38400, ca 1, cu_1), (yce_1, 205, 24, ca 1, ce_1), (yr, 113, 1600, ca 1, fr)]) [0, 1, 2] rfl rfl (I1 := []) [] rfl rfl).more hb_35)
  clear hh_2 ht_3 hvm_3 hz_3 hk_3 hS_3 hb_31 hb_32 hb_33 hb_34 hb_35
  have hix9 := hr_4
  refine lv_istore_n (lv' := [(1, .int r_4), (0, .ref r0)]) hx hb dX14_keepRow_4 rfl hl (by decide) rfl (fun ls hl => ?_)
  refine lv_iload_n hx hb dX14_keepRow_5 rfl (lv_at hl 0 rfl) ?_
  have C20 : ∀ (v1_5 : Int32) (H_5 : Heap) (locs_5 : List Loc), jSt (dC, dI) B base G0 G0 EX14_keepRowT s.heap 0 0 [(r0, 16, 67, .ref ycu_1), (r0, 16, 68, .ref yce_1), (r0, 16, 66, .int cn_1), (r0, 16, 70, .int pl), (r0, 16, 69, .ref yr)] [(ycu_1, 114, 38400, ca 1, cu_1), (yce_1, 205, 24, ca 1, ce_1), (yr, 113, 1600, ca 1, fr)] [] H_5 locs_5 → ((v1_5.toInt = -1 ∧ CC = jwKo CC RR ∧ CC.length < 24) ∨ (0 ≤ v1_5.toInt ∧ v1_5.toInt < cn_1.toInt ∧ CC.eraseIdx (v1_5.toInt).toNat = jwKo CC RR)) → ∀ ls : Array Slot, lv_has ls 4 [(0, .ref r0), (1, .int v1_5)] → W p l e R s m ([.ref r0] : List Value).toArray below meth c H_5 locs_5 0 0 Q (F0 m 20 ls []) := by
    intro v1_5 H_5 locs_5 hh_5  hi_5 ls hl
    refine lv_iload_n hx hb dX14_keepRow_20 rfl (lv_at hl 1 rfl) ?_
    have C112 : ∀ (wq_6 : Int32) (cx_6 : Nat → Int32) (ex_6 : Nat → Int32) (H_6 : Heap) (locs_6 : List Loc), jSt (dC, dI) B base G0 G0 EX14_keepRowT s.heap 0 0 [(r0, 16, 66, .int wq_6), (r0, 16, 67, .ref ycu_1), (r0, 16, 68, .ref yce_1), (r0, 16, 70, .int pl), (r0, 16, 69, .ref yr)] [(yce_1, 205, 24, ca 1, ex_6), (ycu_1, 114, 38400, ca 1, cx_6), (yr, 113, 1600, ca 1, fr)] [] H_6 locs_6 → (wq_6.toInt = ((jwKo CC RR).length : Int) ∧ (jwKo CC RR).length < 24 ∧ jwCh cx_6 ex_6 (jwKo CC RR)) → ∀ ls : Array Slot, lv_has ls 4 [(0, .ref r0), (1, .int v1_5)] → W p l e R s m ([.ref r0] : List Value).toArray below meth c H_6 locs_6 0 0 Q (F0 m 112 ls []) := by
      intro wq_6 cx_6 ex_6 H_6 locs_6 hh_6  hi_6 ls hl
      obtain ⟨hi_6_0, hi_6_1, hi_6_2⟩ := hi_6
      refine lv_aload_n hx hb dX14_keepRow_112 rfl (lv_at hl 0 rfl) ?_
      refine j7_read hx hb hown hK (C := RX14) (T := TX14) (N := 74) rfl hly_16_68 hlk_145 (hh_6.at 2 rfl) dX14_keepRow_113 ?_
      refine lv_aload_n hx hb dX14_keepRow_116 rfl (lv_at hl 0 rfl) ?_
      refine j7_read hx hb hown hK (C := RX14) (T := TX14) (N := 74) rfl hly_16_66 hlk_769 (hh_6.at 0 rfl) dX14_keepRow_117 ?_
      refine lv_aload_n hx hb dX14_keepRow_120 rfl (lv_at hl 0 rfl) ?_
      refine j7_read hx hb hown hK (C := RX14) (T := TX14) (N := 74) rfl hly_16_70 hlk_766 (hh_6.at 3 rfl) dX14_keepRow_121 ?_
      refine j7_iastU hx hb hK hh_6 hB hB205 1 rfl (by decide) (by decide) rfl 0 rfl (M1 := [(ycu_1, 114, 38400, ca 1, cx_6), (yr, 113, 1600, ca 1, fr)]) [1, 2] rfl rfl rfl hgce_1 (x := wq_6.toInt) (rfl) (by omega) (by first | omega | (refine ⟨?_, ?_⟩ <;> (first | omega | rfl | assumption | decide | exact Or.inl rfl | exact Or.inr rfl | (simp only; omega)))) dX14_keepRow_124 (fun H_7 locs_7 fs_8 hv_7 ho_7 hh_7 => ?_)
      have hv_7 : jSo fs_8 (wq_6.toInt) = pl.toInt := by unfold jSo; rw [hv_7]; try exact rfl
      clear hh_6
      refine lv_iconst (v := 0) hx hb dX14_keepRow_125 (by decide) ?_
      refine lv_istore_n (lv' := [(2, .int 0), (0, .ref r0), (1, .int v1_5)]) hx hb dX14_keepRow_126 rfl hl (by decide) rfl (fun ls hl => ?_)
      have L127 : ∀ (N : Nat) (v2_9 : Int32) (cx_9 : Nat → Int32) (H_9 : Heap) (locs_9 : List Loc), jSt (dC, dI) B base G0 G0 EX14_keepRowT s.heap 0 0 [(r0, 16, 66, .int wq_6), (r0, 16, 67, .ref ycu_1), (r0, 16, 68, .ref yce_1), (r0, 16, 70, .int pl), (r0, 16, 69, .ref yr)] [(ycu_1, 114, 38400, ca 1, cx_9), (yce_1, 205, 24, ca 1, fs_8), (yr, 113, 1600, ca 1, fr)] [] H_9 locs_9 → (0 ≤ v2_9.toInt ∧ v2_9.toInt ≤ 1600 ∧ jwCp cx_9 fs_8 fr (jwKo CC RR) pl.toInt v2_9.toInt) → (((pl.toInt - v2_9.toInt).toNat : Int) : Int) < N → ∀ ls : Array Slot, lv_has ls 4 [(0, .ref r0), (1, .int v1_5), (2, .int v2_9)] → W p l e R s m ([.ref r0] : List Value).toArray below meth c H_9 locs_9 0 0 Q (F0 m 127 ls []) := by
        intro N
        induction N with
        | zero => intro v2_9 cx_9 H_9 locs_9 hh_9  hi_9 hm; exact absurd hm (by omega)
        | succ N L127 =>
          intro v2_9 cx_9 H_9 locs_9 hh_9  hi_9 hm_9 ls hl
          obtain ⟨hi_9_0, hi_9_1, hi_9_2⟩ := hi_9
          refine lv_iload_n hx hb dX14_keepRow_127 rfl (lv_at hl 2 rfl) ?_
          refine lv_aload_n hx hb dX14_keepRow_128 rfl (lv_at hl 0 rfl) ?_
          refine j7_read hx hb hown hK (C := RX14) (T := TX14) (N := 74) rfl hly_16_70 hlk_766 (hh_9.at 3 rfl) dX14_keepRow_129 ?_
          refine lv_icmp_ge (tgt := 162) hx hb dX14_keepRow_132 (by decide) (fun c_10 => ?_) (fun c_10 => ?_)
          · skip
            have c_10' : v2_9.toInt ≥ pl.toInt := jb_ge (rfl) (rfl) c_10
            refine lv_aload_n hx hb dX14_keepRow_162 rfl (lv_at hl 0 rfl) ?_
            refine lv_dup hx hb dX14_keepRow_163 rfl ?_
            refine j7_read hx hb hown hK (C := RX14) (T := TX14) (N := 74) rfl hly_16_66 hlk_769 (hh_9.at 0 rfl) dX14_keepRow_164 ?_
            refine lv_iconst (v := 1) hx hb dX14_keepRow_167 (by decide) ?_
            refine lv_iadd hx hb dX14_keepRow_168 ?_
            refine lv_topi (fun z_11 ez_11 => ?_)
            have hz_11 : z_11.toInt = wq_6.toInt + 1 := by rw [ez_11]; exact jb_iadd2 (rfl) ((by decide)) (by omega)
            refine j7_put hx hb hown hK hh_9 hB hAp hB16 (C := RX14) (T := TX14) (N := 74) rfl (by decide) hg_r0 (i := 66) (by decide) hly_16_66 rfl hlk_769 rfl (ty := .int) (v := .int z_11) (by decide +kernel) rfl rfl (⟨_, rfl, by omega, by omega⟩) rfl (L1 := [(r0, 16, 67, .ref ycu_1), (r0, 16, 68, .ref yce_1), (r0, 16, 70, .int pl), (r0, 16, 69, .ref yr)]) [1, 2, 3, 4] rfl rfl rfl dX14_keepRow_169 (fun H_12 locs_12 hh_12 => ?_)
            clear hh_9
            have hHf_13 : jHk dC dI ca G0 r0 (jwKp CC RR) H_12 := ⟨ycu_1, yce_1, z_11, cx_9, fs_8, ⟨_, hg_r0⟩, ⟨hgcu_1, hgce_1⟩, hh_12.2.2.1.sub (L1 := [(r0, 16, 67, .ref ycu_1), (r0, 16, 68, .ref yce_1), (r0, 16, 66, .int z_11)]) [1, 2, 0] rfl, hh_12.2.2.2.2.2.2.2.1.sub (L1 := [(ycu_1, 114, 38400, ca 1, cx_9), (yce_1, 205, 24, ca 1, fs_8)]) [0, 1] rfl, trivial, by rw [← jwKo.kp]; exact ⟨by rw [List.length_append]; show _ = ((_ + 1 : Nat) : Int); omega, by rw [List.length_append]; show _ + 1 ≤ 24; omega, hi_9_2.en (by omega) (by omega) (by omega) hp2⟩⟩
            have hh_14 := hh_12.addI (jHk.ie hHf_13)
            clear hh_12
            rw [hQ]
            exact W.vret hx hb hr (fun t ht hW => ⟨⟨(), rfl, trivial, ⟨hh_14.rt (M1 := []) [] rfl ht, by rw [ht]; exact hh_14.2.2.2.2.2.2.2.2.sub (L1 := [(jFHk, jHk dC dI ca G0 r0 (jwKp CC RR))]) [0] rfl⟩⟩, by rw [ht]; try exact hh_14.1.1, fun q h9 hq => by rw [ht]; try exact hh_14.1.2.1 q h9 hq⟩) hh_14.1.2.2 dX14_keepRow_172
          · skip
            have c_10' : v2_9.toInt < pl.toInt := jb_ge_n (rfl) (rfl) c_10
            refine lv_aload_n hx hb dX14_keepRow_135 rfl (lv_at hl 0 rfl) ?_
            refine j7_read hx hb hown hK (C := RX14) (T := TX14) (N := 74) rfl hly_16_67 hlk_142 (hh_9.at 1 rfl) dX14_keepRow_136 ?_
            refine lv_sipush (v := 1600) hx hb dX14_keepRow_139 (by decide) ?_
            refine lv_aload_n hx hb dX14_keepRow_142 rfl (lv_at hl 0 rfl) ?_
            refine j7_read hx hb hown hK (C := RX14) (T := TX14) (N := 74) rfl hly_16_66 hlk_769 (hh_9.at 0 rfl) dX14_keepRow_143 ?_
            refine lv_imul hx hb dX14_keepRow_146 ?_
            refine lv_topi (fun z_15 ez_15 => ?_)
            have hz_15 : z_15.toInt = 1600 * wq_6.toInt := by rw [ez_15]; exact jb_imul2 ((by decide)) (rfl) (by omega)
            refine lv_iload_n hx hb dX14_keepRow_147 rfl (lv_at hl 2 rfl) ?_
            refine lv_iadd hx hb dX14_keepRow_148 ?_
            refine lv_topi (fun z_16 ez_16 => ?_)
            have hz_16 : z_16.toInt = z_15.toInt + v2_9.toInt := by rw [ez_16]; exact jb_iadd2 (rfl) (rfl) (by omega)
            refine lv_aload_n hx hb dX14_keepRow_149 rfl (lv_at hl 0 rfl) ?_
            refine j7_read hx hb hown hK (C := RX14) (T := TX14) (N := 74) rfl hly_16_69 hlk_148 (hh_9.at 4 rfl) dX14_keepRow_150 ?_
            refine lv_iload_n hx hb dX14_keepRow_153 rfl (lv_at hl 2 rfl) ?_
            refine j7_ialdM hx hb hK hh_9 hB113 1 rfl (by decide) hg_yr (x := v2_9.toInt) (rfl) (by omega) (j := 2) rfl dX14_keepRow_154 (fun z_17 ez_17 (hz_17 : True) => ?_)
            have hqz_17 : z_17.toInt = jSo fr (v2_9.toInt) := by unfold jSo; rw [ez_17]
            refine j7_iastU hx hb hK hh_9 hB hB114 1 rfl (by decide) (by decide) rfl 0 rfl (M1 := [(yce_1, 205, 24, ca 1, fs_8), (yr, 113, 1600, ca 1, fr)]) [1, 2] rfl rfl rfl hgcu_1 (x := z_16.toInt) (rfl) (by omega) (trivial) dX14_keepRow_155 (fun H_18 locs_18 fs_19 hv_18 ho_18 hh_18 => ?_)
            have hv_18 : jSo fs_19 (z_16.toInt) = z_17.toInt := by unfold jSo; rw [hv_18]; try exact rfl
            rw [show z_16.toInt = ((1600 * wq_6.toInt) + v2_9.toInt) by omega] at hv_18 ho_18
            clear hh_9
            obtain ⟨z_20, ez_20⟩ : ∃ y : Int32, y = v2_9 + 1 := ⟨_, rfl⟩
            refine lv_iinc (v := z_20) (lv' := [(2, .int z_20), (0, .ref r0), (1, .int v1_5)]) hx hb dX14_keepRow_156 hl (k := 2) rfl (by rw [ez_20]; rfl) (by decide) rfl (fun ls hl => ?_)
            have hz_20 : z_20.toInt = v2_9.toInt + 1 := by rw [ez_20]; exact jb_iadd2 (rfl) (by decide) (by omega)
            refine lv_goto (tgt := 127) hx hb dX14_keepRow_159 (by decide) ?_
            exact L127 z_20 fs_19 _ _ hh_18 (⟨by omega, by omega, hi_9_2.s (jUpd.mk (n := 38400) hv_18 ho_18 rfl (by omega)) (by omega) (by rw [hqz_17]) (by omega) (by omega) (by omega) (by omega)⟩) (by omega) _ (lv_sub hl [1, 2, 0] rfl)
      exact L127 (((pl.toInt - (0 : Int32).toInt).toNat : Int) : Int).toNat.succ 0 cx_6 _ _ (hh_7.sub (L1 := [(r0, 16, 66, .int wq_6), (r0, 16, 67, .ref ycu_1), (r0, 16, 68, .ref yce_1), (r0, 16, 70, .int pl), (r0, 16, 69, .ref yr)]) [0, 1, 2, 3, 4] rfl (M1 := [(ycu_1, 114, 38400, ca 1, cx_6), (yce_1, 205, 24, ca 1, fs_8), (yr, 113, 1600, ca 1, fr)]) [1, 0, 2] rfl (I1 := []) [] rfl) (⟨by omega, by omega, jwCp.st hi_6_2 (jUpd.mk (n := 24) hv_7 ho_7 rfl (by omega)) (by omega) (by omega) (by omega)⟩) (by omega) _ (lv_sub hl [1, 2, 0] rfl)
    refine lv_if_lt (tgt := 112) hx hb dX14_keepRow_21 (by decide) (fun c_21 => ?_) (fun c_21 => ?_)
    · skip
      have c_21' : v1_5.toInt < 0 := jb_lt (rfl) ((by decide)) c_21
      exact C112 cn_1 cu_1 ce_1 _ _ (hh_5.sub (L1 := [(r0, 16, 66, .int cn_1), (r0, 16, 67, .ref ycu_1), (r0, 16, 68, .ref yce_1), (r0, 16, 70, .int pl), (r0, 16, 69, .ref yr)]) [2, 0, 1, 3, 4] rfl (M1 := [(yce_1, 205, 24, ca 1, ce_1), (ycu_1, 114, 38400, ca 1, cu_1), (yr, 113, 1600, ca 1, fr)]) [1, 0, 2] rfl (I1 := []) [] rfl) (by have ha20 := hi_5.resolve_right (fun q => by have q1 := q.1; omega); have h9 := ha20.2.1; rw [← h9]; exact ⟨by omega, by omega, hc3⟩) _ (lv_sub hl [0, 1] rfl)
    · skip
      have c_21' : v1_5.toInt ≥ 0 := jb_lt_n (rfl) ((by decide)) c_21
      have hb20 := hi_5.resolve_left (fun q => by have q1 := q.1; omega)
      have hb21 := hb20.1
      have hb22 := hb20.2.1
      refine lv_iload_n hx hb dX14_keepRow_24 rfl (lv_at hl 1 rfl) ?_
      refine lv_istore_n (lv' := [(2, .int v1_5), (0, .ref r0), (1, .int v1_5)]) hx hb dX14_keepRow_25 rfl hl (by decide) rfl (fun ls hl => ?_)
      have L26 : ∀ (N : Nat) (v2_22 : Int32) (cx_22 : Nat → Int32) (ex_22 : Nat → Int32) (H_22 : Heap) (locs_22 : List Loc), jSt (dC, dI) B base G0 G0 EX14_keepRowT s.heap 0 0 [(r0, 16, 67, .ref ycu_1), (r0, 16, 68, .ref yce_1), (r0, 16, 66, .int cn_1), (r0, 16, 70, .int pl), (r0, 16, 69, .ref yr)] [(yce_1, 205, 24, ca 1, ex_22), (ycu_1, 114, 38400, ca 1, cx_22), (yr, 113, 1600, ca 1, fr)] [] H_22 locs_22 → (v1_5.toInt ≤ v2_22.toInt ∧ v2_22.toInt < cn_1.toInt ∧ jwCm cx_22 ex_22 CC v1_5.toInt v2_22.toInt) → (cn_1.toInt - v2_22.toInt : Int) < N → ∀ ls : Array Slot, lv_has ls 4 [(0, .ref r0), (1, .int v1_5), (2, .int v2_22)] → W p l e R s m ([.ref r0] : List Value).toArray below meth c H_22 locs_22 0 0 Q (F0 m 26 ls []) := by
        intro N
        induction N with
        | zero => intro v2_22 cx_22 ex_22 H_22 locs_22 hh_22  hi_22 hm; exact absurd hm (by omega)
        | succ N L26 =>
          intro v2_22 cx_22 ex_22 H_22 locs_22 hh_22  hi_22 hm_22 ls hl
          obtain ⟨hi_22_0, hi_22_1, hi_22_2⟩ := hi_22
          refine lv_iload_n hx hb dX14_keepRow_26 rfl (lv_at hl 2 rfl) ?_
          refine lv_iconst (v := 1) hx hb dX14_keepRow_27 (by decide) ?_
          refine lv_iadd hx hb dX14_keepRow_28 ?_
          refine lv_topi (fun z_23 ez_23 => ?_)
          have hz_23 : z_23.toInt = v2_22.toInt + 1 := by rw [ez_23]; exact jb_iadd2 (rfl) ((by decide)) (by omega)
          refine lv_aload_n hx hb dX14_keepRow_29 rfl (lv_at hl 0 rfl) ?_
          refine j7_read hx hb hown hK (C := RX14) (T := TX14) (N := 74) rfl hly_16_66 hlk_769 (hh_22.at 2 rfl) dX14_keepRow_30 ?_
          refine lv_icmp_ge (tgt := 102) hx hb dX14_keepRow_33 (by decide) (fun c_24 => ?_) (fun c_24 => ?_)
          · skip
            have c_24' : z_23.toInt ≥ cn_1.toInt := jb_ge (rfl) (rfl) c_24
            refine lv_aload_n hx hb dX14_keepRow_102 rfl (lv_at hl 0 rfl) ?_
            refine lv_dup hx hb dX14_keepRow_103 rfl ?_
            refine j7_read hx hb hown hK (C := RX14) (T := TX14) (N := 74) rfl hly_16_66 hlk_769 (hh_22.at 2 rfl) dX14_keepRow_104 ?_
            refine lv_iconst (v := 1) hx hb dX14_keepRow_107 (by decide) ?_
            refine lv_isub hx hb dX14_keepRow_108 ?_
            refine lv_topi (fun z_25 ez_25 => ?_)
            have hz_25 : z_25.toInt = cn_1.toInt - 1 := by rw [ez_25]; exact jb_isub2 (rfl) ((by decide)) (by omega)
            refine j7_put hx hb hown hK hh_22 hB hAp hB16 (C := RX14) (T := TX14) (N := 74) rfl (by decide) hg_r0 (i := 66) (by decide) hly_16_66 rfl hlk_769 rfl (ty := .int) (v := .int z_25) (by decide +kernel) rfl rfl (⟨_, rfl, by omega, by omega⟩) rfl (L1 := [(r0, 16, 67, .ref ycu_1), (r0, 16, 68, .ref yce_1), (r0, 16, 70, .int pl), (r0, 16, 69, .ref yr)]) [0, 1, 3, 4] rfl rfl rfl dX14_keepRow_109 (fun H_26 locs_26 hh_26 => ?_)
            clear hh_22
            exact C112 z_25 cx_22 ex_22 _ _ hh_26 (by have h9 := hb20.2.2; have hl9 : (CC.eraseIdx v1_5.toInt.toNat).length = CC.length - 1 := (by rw [List.length_eraseIdx, if_pos (by omega)]); rw [← h9]; exact ⟨by omega, by omega, hi_22_2.en (by omega) (by omega) (by omega)⟩) _ (lv_sub hl [0, 1] rfl)
          · skip
            have c_24' : z_23.toInt < cn_1.toInt := jb_ge_n (rfl) (rfl) c_24
            refine lv_aload_n hx hb dX14_keepRow_36 rfl (lv_at hl 0 rfl) ?_
            refine j7_read hx hb hown hK (C := RX14) (T := TX14) (N := 74) rfl hly_16_68 hlk_145 (hh_22.at 1 rfl) dX14_keepRow_37 ?_
            refine lv_iload_n hx hb dX14_keepRow_40 rfl (lv_at hl 2 rfl) ?_
            refine lv_aload_n hx hb dX14_keepRow_41 rfl (lv_at hl 0 rfl) ?_
            refine j7_read hx hb hown hK (C := RX14) (T := TX14) (N := 74) rfl hly_16_68 hlk_145 (hh_22.at 1 rfl) dX14_keepRow_42 ?_
            refine lv_iload_n hx hb dX14_keepRow_45 rfl (lv_at hl 2 rfl) ?_
            refine lv_iconst (v := 1) hx hb dX14_keepRow_46 (by decide) ?_
            refine lv_iadd hx hb dX14_keepRow_47 ?_
            refine lv_topi (fun z_27 ez_27 => ?_)
            have hz_27 : z_27.toInt = v2_22.toInt + 1 := by rw [ez_27]; exact jb_iadd2 (rfl) ((by decide)) (by omega)
            refine j7_ialdM hx hb hK hh_22 hB205 1 rfl (by decide) hgce_1 (x := z_27.toInt) (rfl) (by omega) (j := 0) rfl dX14_keepRow_48 (fun z_28 ez_28 (hz_28 : 0 ≤ z_28.toInt ∧ z_28.toInt ≤ 1600) => ?_)
            have hqz_28 : z_28.toInt = jSo ex_22 ((v2_22.toInt + 1)) := by unfold jSo; rw [ez_28, show z_27.toInt = (v2_22.toInt + 1) by omega]
            refine j7_iastU hx hb hK hh_22 hB hB205 1 rfl (by decide) (by decide) rfl 0 rfl (M1 := [(ycu_1, 114, 38400, ca 1, cx_22), (yr, 113, 1600, ca 1, fr)]) [1, 2] rfl rfl rfl hgce_1 (x := v2_22.toInt) (rfl) (by omega) (by first | omega | (refine ⟨?_, ?_⟩ <;> (first | omega | rfl | assumption | decide | exact Or.inl rfl | exact Or.inr rfl | (simp only; omega)))) dX14_keepRow_49 (fun H_29 locs_29 fs_30 hv_29 ho_29 hh_29 => ?_)
            have hv_29 : jSo fs_30 (v2_22.toInt) = z_28.toInt := by unfold jSo; rw [hv_29]; try exact rfl
            clear hh_22
            refine lv_iconst (v := 0) hx hb dX14_keepRow_50 (by decide) ?_
            refine lv_istore_n (lv' := [(3, .int 0), (0, .ref r0), (1, .int v1_5), (2, .int v2_22)]) hx hb dX14_keepRow_51 rfl hl (by decide) rfl (fun ls hl => ?_)
            have L52 : ∀ (N : Nat) (v3_31 : Int32) (cx_31 : Nat → Int32) (H_31 : Heap) (locs_31 : List Loc), jSt (dC, dI) B base G0 G0 EX14_keepRowT s.heap 0 0 [(r0, 16, 67, .ref ycu_1), (r0, 16, 68, .ref yce_1), (r0, 16, 66, .int cn_1), (r0, 16, 70, .int pl), (r0, 16, 69, .ref yr)] [(ycu_1, 114, 38400, ca 1, cx_31), (yce_1, 205, 24, ca 1, fs_30), (yr, 113, 1600, ca 1, fr)] [] H_31 locs_31 → (0 ≤ v3_31.toInt ∧ v3_31.toInt ≤ 1600 ∧ jwCi cx_31 fs_30 CC v1_5.toInt v2_22.toInt v3_31.toInt) → (1600 - v3_31.toInt : Int) < N → ∀ ls : Array Slot, lv_has ls 4 [(0, .ref r0), (1, .int v1_5), (2, .int v2_22), (3, .int v3_31)] → W p l e R s m ([.ref r0] : List Value).toArray below meth c H_31 locs_31 0 0 Q (F0 m 52 ls []) := by
              intro N
              induction N with
              | zero => intro v3_31 cx_31 H_31 locs_31 hh_31  hi_31 hm; exact absurd hm (by omega)
              | succ N L52 =>
                intro v3_31 cx_31 H_31 locs_31 hh_31  hi_31 hm_31 ls hl
                obtain ⟨hi_31_0, hi_31_1, hi_31_2⟩ := hi_31
                refine lv_iload_n hx hb dX14_keepRow_52 rfl (lv_at hl 3 rfl) ?_
                refine lv_aload_n hx hb dX14_keepRow_53 rfl (lv_at hl 0 rfl) ?_
                refine j7_read hx hb hown hK (C := RX14) (T := TX14) (N := 74) rfl hly_16_68 hlk_145 (hh_31.at 1 rfl) dX14_keepRow_54 ?_
                refine lv_iload_n hx hb dX14_keepRow_57 rfl (lv_at hl 2 rfl) ?_
                refine j7_ialdM hx hb hK hh_31 hB205 1 rfl (by decide) hgce_1 (x := v2_22.toInt) (rfl) (by omega) (j := 1) rfl dX14_keepRow_58 (fun z_32 ez_32 (hz_32 : 0 ≤ z_32.toInt ∧ z_32.toInt ≤ 1600) => ?_)
                have hqz_32 : z_32.toInt = jSo fs_30 (v2_22.toInt) := by unfold jSo; rw [ez_32]
                refine lv_icmp_ge (tgt := 96) hx hb dX14_keepRow_59 (by decide) (fun c_33 => ?_) (fun c_33 => ?_)
                · skip
                  have c_33' : v3_31.toInt ≥ z_32.toInt := jb_ge (rfl) (rfl) c_33
                  obtain ⟨z_34, ez_34⟩ : ∃ y : Int32, y = v2_22 + 1 := ⟨_, rfl⟩
                  refine lv_iinc (v := z_34) (lv' := [(2, .int z_34), (0, .ref r0), (1, .int v1_5), (3, .int v3_31)]) hx hb dX14_keepRow_96 hl (k := 2) rfl (by rw [ez_34]; rfl) (by decide) rfl (fun ls hl => ?_)
                  have hz_34 : z_34.toInt = v2_22.toInt + 1 := by rw [ez_34]; exact jb_iadd2 (rfl) (by decide) (by omega)
                  refine lv_goto (tgt := 26) hx hb dX14_keepRow_99 (by decide) ?_
                  exact L26 z_34 cx_31 fs_30 _ _ (hh_31.sub (L1 := [(r0, 16, 67, .ref ycu_1), (r0, 16, 68, .ref yce_1), (r0, 16, 66, .int cn_1), (r0, 16, 70, .int pl), (r0, 16, 69, .ref yr)]) [0, 1, 2, 3, 4] rfl (M1 := [(yce_1, 205, 24, ca 1, fs_30), (ycu_1, 114, 38400, ca 1, cx_31), (yr, 113, 1600, ca 1, fr)]) [1, 0, 2] rfl (I1 := []) [] rfl) (⟨by omega, by omega, hi_31_2.en (by have h9 := hqz_32; omega) (by omega) (by omega) (by omega)⟩) (by omega) _ (lv_sub hl [1, 2, 0] rfl)
                · skip
                  have c_33' : v3_31.toInt < z_32.toInt := jb_ge_n (rfl) (rfl) c_33
                  refine lv_aload_n hx hb dX14_keepRow_62 rfl (lv_at hl 0 rfl) ?_
                  refine j7_read hx hb hown hK (C := RX14) (T := TX14) (N := 74) rfl hly_16_67 hlk_142 (hh_31.at 0 rfl) dX14_keepRow_63 ?_
                  refine lv_sipush (v := 1600) hx hb dX14_keepRow_66 (by decide) ?_
                  refine lv_iload_n hx hb dX14_keepRow_69 rfl (lv_at hl 2 rfl) ?_
                  refine lv_imul hx hb dX14_keepRow_70 ?_
                  refine lv_topi (fun z_35 ez_35 => ?_)
                  have hz_35 : z_35.toInt = 1600 * v2_22.toInt := by rw [ez_35]; exact jb_imul2 ((by decide)) (rfl) (by omega)
                  refine lv_iload_n hx hb dX14_keepRow_71 rfl (lv_at hl 3 rfl) ?_
                  refine lv_iadd hx hb dX14_keepRow_72 ?_
                  refine lv_topi (fun z_36 ez_36 => ?_)
                  have hz_36 : z_36.toInt = z_35.toInt + v3_31.toInt := by rw [ez_36]; exact jb_iadd2 (rfl) (rfl) (by omega)
                  refine lv_aload_n hx hb dX14_keepRow_73 rfl (lv_at hl 0 rfl) ?_
                  refine j7_read hx hb hown hK (C := RX14) (T := TX14) (N := 74) rfl hly_16_67 hlk_142 (hh_31.at 0 rfl) dX14_keepRow_74 ?_
                  refine lv_sipush (v := 1600) hx hb dX14_keepRow_77 (by decide) ?_
                  refine lv_iload_n hx hb dX14_keepRow_80 rfl (lv_at hl 2 rfl) ?_
                  refine lv_imul hx hb dX14_keepRow_81 ?_
                  refine lv_topi (fun z_37 ez_37 => ?_)
                  have hz_37 : z_37.toInt = 1600 * v2_22.toInt := by rw [ez_37]; exact jb_imul2 ((by decide)) (rfl) (by omega)
                  refine lv_sipush (v := 1600) hx hb dX14_keepRow_82 (by decide) ?_
                  refine lv_iadd hx hb dX14_keepRow_85 ?_
                  refine lv_topi (fun z_38 ez_38 => ?_)
                  have hz_38 : z_38.toInt = z_37.toInt + 1600 := by rw [ez_38]; exact jb_iadd2 (rfl) ((by decide)) (by omega)
                  refine lv_iload_n hx hb dX14_keepRow_86 rfl (lv_at hl 3 rfl) ?_
                  refine lv_iadd hx hb dX14_keepRow_87 ?_
                  refine lv_topi (fun z_39 ez_39 => ?_)
                  have hz_39 : z_39.toInt = z_38.toInt + v3_31.toInt := by rw [ez_39]; exact jb_iadd2 (rfl) (rfl) (by omega)
                  refine j7_ialdM hx hb hK hh_31 hB114 1 rfl (by decide) hgcu_1 (x := z_39.toInt) (rfl) (by omega) (j := 0) rfl dX14_keepRow_88 (fun z_40 ez_40 (hz_40 : True) => ?_)
                  have hqz_40 : z_40.toInt = jSo cx_31 ((((1600 * v2_22.toInt) + 1600) + v3_31.toInt)) := by unfold jSo; rw [ez_40, show z_39.toInt = (((1600 * v2_22.toInt) + 1600) + v3_31.toInt) by omega]
                  refine j7_iastU hx hb hK hh_31 hB hB114 1 rfl (by decide) (by decide) rfl 0 rfl (M1 := [(yce_1, 205, 24, ca 1, fs_30), (yr, 113, 1600, ca 1, fr)]) [1, 2] rfl rfl rfl hgcu_1 (x := z_36.toInt) (rfl) (by omega) (trivial) dX14_keepRow_89 (fun H_41 locs_41 fs_42 hv_41 ho_41 hh_41 => ?_)
                  have hv_41 : jSo fs_42 (z_36.toInt) = z_40.toInt := by unfold jSo; rw [hv_41]; try exact rfl
                  rw [show z_36.toInt = ((1600 * v2_22.toInt) + v3_31.toInt) by omega] at hv_41 ho_41
                  clear hh_31
                  obtain ⟨z_43, ez_43⟩ : ∃ y : Int32, y = v3_31 + 1 := ⟨_, rfl⟩
                  refine lv_iinc (v := z_43) (lv' := [(3, .int z_43), (0, .ref r0), (1, .int v1_5), (2, .int v2_22)]) hx hb dX14_keepRow_90 hl (k := 3) rfl (by rw [ez_43]; rfl) (by decide) rfl (fun ls hl => ?_)
                  have hz_43 : z_43.toInt = v3_31.toInt + 1 := by rw [ez_43]; exact jb_iadd2 (rfl) (by decide) (by omega)
                  refine lv_goto (tgt := 52) hx hb dX14_keepRow_93 (by decide) ?_
                  exact L52 z_43 fs_42 _ _ hh_41 (⟨by omega, by omega, hi_31_2.s (jUpd.mk (n := 38400) hv_41 ho_41 rfl (by omega)) (by omega) (by rw [hqz_40]; congr 1; omega) (by omega) (by omega) (by omega) (by omega) (by omega) hc2⟩) (by omega) _ (lv_sub hl [1, 2, 3, 0] rfl)
            exact L52 (1600 - (0 : Int32).toInt : Int).toNat.succ 0 cx_22 _ _ (hh_29.sub (L1 := [(r0, 16, 67, .ref ycu_1), (r0, 16, 68, .ref yce_1), (r0, 16, 66, .int cn_1), (r0, 16, 70, .int pl), (r0, 16, 69, .ref yr)]) [0, 1, 2, 3, 4] rfl (M1 := [(ycu_1, 114, 38400, ca 1, cx_22), (yce_1, 205, 24, ca 1, fs_30), (yr, 113, 1600, ca 1, fr)]) [1, 0, 2] rfl (I1 := []) [] rfl) (⟨by omega, by omega, jwCi.st hi_22_2 (jUpd.mk (n := 24) hv_29 ho_29 rfl (by omega)) (by rw [hqz_28]) (by omega) (by omega) hc2 (by omega)⟩) (by omega) _ (lv_sub hl [1, 2, 3, 0] rfl)
      exact L26 (cn_1.toInt - (v1_5 : Int32).toInt : Int).toNat.succ v1_5 cu_1 ce_1 _ _ (hh_5.sub (L1 := [(r0, 16, 67, .ref ycu_1), (r0, 16, 68, .ref yce_1), (r0, 16, 66, .int cn_1), (r0, 16, 70, .int pl), (r0, 16, 69, .ref yr)]) [0, 1, 2, 3, 4] rfl (M1 := [(yce_1, 205, 24, ca 1, ce_1), (ycu_1, 114, 38400, ca 1, cu_1), (yr, 113, 1600, ca 1, fr)]) [1, 0, 2] rfl (I1 := []) [] rfl) (⟨by omega, by omega, jwCm.st hc3 (by omega)⟩) (by omega) _ (lv_sub hl [1, 2, 0] rfl)
  refine lv_if_ge (tgt := 20) hx hb dX14_keepRow_6 (by decide) (fun c_44 => ?_) (fun c_44 => ?_)
  · skip
    have c_44' : r_4.toInt ≥ 0 := jb_ge (rfl) ((by decide)) c_44
    exact C20 r_4 _ _ hh_3 (Or.inr ⟨by omega, by have h9 := hix9; rcases h9 with h | h; omega; have h2 := h.2.1; omega, jwKo.y hix9 (by omega) (by omega)⟩) _ (lv_sub hl [1, 0] rfl)
  · skip
    have c_44' : r_4.toInt < 0 := jb_ge_n (rfl) ((by decide)) c_44
    refine lv_aload_n hx hb dX14_keepRow_9 rfl (lv_at hl 1 rfl) ?_
    refine j7_read hx hb hown hK (C := RX14) (T := TX14) (N := 74) rfl hly_16_66 hlk_769 (hh_3.at 2 rfl) dX14_keepRow_10 ?_
    refine lv_bipush (v := 24) hx hb dX14_keepRow_13 (by decide) ?_
    refine lv_icmp_ne (tgt := 20) hx hb dX14_keepRow_15 (by decide) (fun c_45 => ?_) (fun c_45 => ?_)
    · skip
      have c_45' : cn_1.toInt ≠ 24 := jb_ne (rfl) ((by decide)) c_45
      exact C20 r_4 _ _ hh_3 (Or.inl ⟨by have h9 := hix9; rcases h9 with h | h; exact h.1; have h2 := h.1; omega, jwKo.n hix9 (by omega) (by omega), by omega⟩) _ (lv_sub hl [1, 0] rfl)
    · skip
      have c_45' : cn_1.toInt = 24 := jb_ne_n (rfl) ((by decide)) c_45
      refine lv_iconst (v := 0) hx hb dX14_keepRow_18 (by decide) ?_
      refine lv_istore_n (lv' := [(1, .int 0), (0, .ref r0)]) hx hb dX14_keepRow_19 rfl hl (by decide) rfl (fun ls hl => ?_)
      exact C20 0 _ _ hh_3 (Or.inr ⟨by omega, by omega, jwKo.f hix9 (by omega) (by omega) (by omega)⟩) _ (lv_sub hl [1, 0] rfl)
set_option maxHeartbeats 4000000 in
set_option maxRecDepth 20000 in
theorem uX14_costOfT (l : Launch) (dC : Nat → ClassId) (dI : Nat → Nat → Nat) (ca : Nat → ClassId) (base : Nat) (B : jF) (hB : jBok B) (hAp : jAp (dC, dI)) (hB14 : ∀ n G a H, B 14 n G a H ↔ jOb (dC, dI) 14 11 (F14 n G) a H) (hB15 : ∀ n G a H, B 15 n G a H ↔ jOb (dC, dI) 15 50 (F15 n G) a H) (hB16 : ∀ n G a H, B 16 n G a H ↔ jOb (dC, dI) 16 74 (F16 n G) a H) (hB101 : ∀ n G a H, B 101 n G a H ↔ jAr (dC, dI) (ca 1) (fun j z => True) n a H) (hB155 : ∀ n G a H, B 155 n G a H ↔ jAr (dC, dI) (ca 1) (fun j z => 0 ≤ z.toInt ∧ z.toInt ≤ 11990) n a H) (hB156 : ∀ n G a H, B 156 n G a H ↔ jAr (dC, dI) (ca 1) (fun j z => 0 ≤ z.toInt ∧ z.toInt ≤ 10) n a H) (hB157 : ∀ n G a H, B 157 n G a H ↔ jAr (dC, dI) (ca 1) (fun j z => 0 ≤ z.toInt ∧ z.toInt ≤ 1599) n a H) (hB166 : ∀ n G a H, B 166 n G a H ↔ jAr (dC, dI) (ca 1) (fun j z => True) n a H) (hB167 : ∀ n G a H, B 167 n G a H ↔ jAr (dC, dI) (ca 1) (fun j z => True) n a H) (hB190 : ∀ n G a H, B 190 n G a H ↔ jAr (dC, dI) (ca 1) (fun j z => 0 ≤ z.toInt ∧ z.toInt ≤ 1500) n a H) (hB191 : ∀ n G a H, B 191 n G a H ↔ jAr (dC, dI) (ca 1) (fun j z => 0 ≤ z.toInt ∧ z.toInt ≤ 1500) n a H) (hB192 : ∀ n G a H, B 192 n G a H ↔ jAr (dC, dI) (ca 1) (fun j z => 0 ≤ z.toInt ∧ z.toInt ≤ 2) n a H) (hB194 : ∀ n G a H, B 194 n G a H ↔ jAr (dC, dI) (ca 1) (fun j z => True) n a H) (G0 : jT) (H0 : Heap) (r0 : Nat) (r1 : Nat) (a2 : Int32) (yb : Nat) (ye : Nat) (yt : Nat) (yl : Nat) (nn : Int) (fb : Nat → Int32) (fe : Nat → Int32) (ft : Nat → Int32) (fl : Nat → Int32) : Met l yX14_costOf (jw yX14_costOf cX14_costOf 3 (some .int)) ({ frames := 5, cells := 0, slots := 0, locals := 114 }) (va_Pc [.ref r0, .ref r1, .int a2] (fun U => U.heap = H0 ∧ jX B base G0 [] H0 ∧ jG dC dI ca base U ∧ G0 r1 = some (14, 0) ∧ G0 r0 = some (16, 0) ∧ G0 yb = some (190, 40) ∧ G0 ye = some (191, 40) ∧ G0 yt = some (194, 1500) ∧ G0 yl = some (192, 40) ∧ jP (dC, dI) G0 H0 [(r1, 14, 6, .ref yb), (r1, 14, 7, .ref ye), (r1, 14, 3, .ref yt), (r1, 14, 8, .ref yl)] ∧ jMc (dC, dI) G0 H0 [(yb, 190, 40, ca 1, fb), (ye, 191, 40, ca 1, fe), (yt, 194, 1500, ca 1, ft), (yl, 192, 40, ca 1, fl)] ∧ 0 ≤ a2.toInt ∧ a2.toInt ≤ 39 ∧ 0 ≤ nn ∧ nn ≤ 1500 ∧ jSo fb a2.toInt = jcB ft nn (a2.toInt).toNat ∧ jSo fe a2.toInt = jcE ft nn (a2.toInt).toNat ∧ jSo fl a2.toInt = jcF ft nn (a2.toInt).toNat ∧ jcB ft nn (a2.toInt).toNat < nn)) (va_Qi (S := Unit) (fun r u => (r.toInt = jcC ft nn (a2.toInt).toNat)) (fun u t => jRt (dC, dI) B base G0 EX14_costOfT H0 [] t.heap) (jA base)) 0 0 (jA base) := by
  refine Met.ofW (cc := cX14_costOf) (maxL := 3) (ret := (some .int)) (by decide) rfl ?_
  intro p e s m args below meth c s₁ Bd hml hv
  obtain ⟨rfl, hH0, hX, hG, hg_r1, hg_r0, hg_yb, hg_ye, hg_yt, hg_yl, hP0, hM0, hp0, hp1, hp2, hp3, hp4, hp5, hp6, hp7⟩ := hv
  have hK := hG.1
  have hx := Bd.exec
  have hb := Bd.bytes
  have hr := Bd.returns
  have hts := atoms_spec (ws := (jw yX14_costOf cX14_costOf 3 (some .int))) Bd.pre
  have htw : ∀ w ∈ jWl, w.before _ s = true := fun w h => hts w (List.mem_cons_of_mem _ h)
  have hown : s.vm.findClass RX14 = some m.cls := findClass_of_methodNamed Bd.named
  have hlocks := Bd.notSynchronized
  obtain ⟨Q, hQ⟩ : ∃ Q, Q = MQ below (va_Qi (S := Unit) (fun r u => (r.toInt = jcC ft nn (a2.toInt).toNat)) (fun u t => jRt (dC, dI) B base G0 EX14_costOfT H0 [] t.heap) (jA base)) ([.ref r0, .ref r1, .int a2] : List Value).toArray s 0 0 (jA base) := ⟨_, rfl⟩
  rw [← hQ]
  have hl := lv_entry ([.ref r0, .ref r1, .int a2]) (n := 3) (Nat.le_of_ble_eq_true rfl)
  rw [lg_entry_eq]
  generalize (lg_sl ([.ref r0, .ref r1, .int a2]) ++ List.replicate (3 - (lg_sl ([.ref r0, .ref r1, .int a2])).length) Slot.unset).toArray = ls at hl ⊢
  have hl : lv_has ls 3 [(0, .ref r0), (1, .ref r1), (2, .int a2)] := hl
  generalize hR : (headSpec (jw yX14_costOf cX14_costOf 3 (some .int)) ({ frames := 5, cells := 0, slots := 0, locals := 114 })).room = R
  subst hH0
  have hh : jSt (dC, dI) B base G0 G0 EX14_costOfT s.heap 0 0 [(r1, 14, 6, .ref yb), (r1, 14, 7, .ref ye), (r1, 14, 3, .ref yt), (r1, 14, 8, .ref yl)] [(yb, 190, 40, ca 1, fb), (ye, 191, 40, ca 1, fe), (yt, 194, 1500, ca 1, ft), (yl, 192, 40, ca 1, fl)] [] s.heap [] := jSt.start hX hP0 hM0 jIs.nil
  clear hX hP0
  have hk0 : (0 : Int32).toInt = 0 := by decide
  have hk1 : (1 : Int32).toInt = 1 := by decide
  have hly_14_3 := htw (u_lay RX12 TX12 3) (jWc_wsX120 _ (u_in_lay (by decide)))
  have hly_14_6 := htw (u_lay RX12 TX12 6) (jWc_wsX120 _ (u_in_lay (by decide)))
  have hly_14_7 := htw (u_lay RX12 TX12 7) (jWc_wsX120 _ (u_in_lay (by decide)))
  have hly_14_8 := htw (u_lay RX12 TX12 8) (jWc_wsX120 _ (u_in_lay (by decide)))
  have hly_16_58 := htw (u_lay RX14 TX14 58) (jWc_wsX140 _ (u_in_lay (by decide)))
  have hlk_122 := (htw (.fieldLink RX14 122 "ProofServerModel" "kernel" "LProofServerModel$Kernel;") (jWr_12 _ (List.mem_of_getElem? (i := 13) rfl)))
  have hlk_529 := (va_Nw.use (A := ([.ref r0, .ref r1, .int a2] : List Value).toArray) rfl (hG.2.1 RX14 529 "ProofServerModel$Document" "text" "[I" "ProofServerModel" (List.mem_of_getElem? (i := 1735) (by decide +kernel))))
  have hlk_596 := (va_Nw.use (A := ([.ref r0, .ref r1, .int a2] : List Value).toArray) rfl (hG.2.1 RX14 596 "ProofServerModel$Document" "begin" "[I" "ProofServerModel" (List.mem_of_getElem? (i := 1739) (by decide +kernel))))
  have hlk_594 := (va_Nw.use (A := ([.ref r0, .ref r1, .int a2] : List Value).toArray) rfl (hG.2.1 RX14 594 "ProofServerModel$Document" "end" "[I" "ProofServerModel" (List.mem_of_getElem? (i := 1741) (by decide +kernel))))
  have hlk_599 := (va_Nw.use (A := ([.ref r0, .ref r1, .int a2] : List Value).toArray) rfl (hG.2.1 RX14 599 "ProofServerModel$Document" "flaw" "[I" "ProofServerModel" (List.mem_of_getElem? (i := 1743) (by decide +kernel))))
  have hrg_a2 := jb_rng a2
  have hce := jcE.rg hp7
  have hcb := jcB.nn (f := ft) hp2 a2.toInt.toNat
  refine lv_aload_n hx hb dX14_costOf_0 rfl (lv_at hl 0 rfl) ?_
  obtain ⟨v_1, hv_1, hh_2⟩ := hh.pin (C := RX14) (T := TX14) (N := 74) hB16 rfl (by decide) hg_r0 (i := 58) (by decide) rfl
  clear hh
  obtain ⟨kernel_3, rfl, hg_kernel_3⟩ := hv_1
  refine j7_read hx hb hown hK (C := RX14) (T := TX14) (N := 74) rfl hly_16_58 hlk_122 (hh_2.at 0 rfl) dX14_costOf_1 ?_
  refine va_callv (A0 := jA base) (H0 := s.heap) (va_runV (As := []) (rest := []) ⟨hx, hb, hml, hown, hts⟩ (uX13_beginK l dC dI ca base B hB hAp hB15 G0 s.heap kernel_3) (cwV 0 hts (jgV (jWr_59 _ (List.mem_of_getElem? (i := 10) rfl)) (jWr_59 _ (List.mem_of_getElem? (i := 11) rfl)) (jWr_59 _ (List.mem_of_getElem? (i := 12) rfl)) (jWr_12 _ (List.mem_of_getElem? (i := 12) rfl)) (jWr_59 _ (List.mem_of_getElem? (i := 13) rfl))) rfl rfl rfl (by decide +kernel) ⟨by rw [← hR]; exact Nat.le_of_ble_eq_true rfl, by rw [← hR]; exact Nat.le_of_ble_eq_true rfl⟩) ⟨fun a U g mk q => by obtain ⟨q0, q1, q2, qK, q10, q11, q12⟩ := q; exact ⟨q0, q1, q2, jG.calling g mk a qK, q10, q11, q12⟩, hh_2.recv (C := RX13) (T := TX13) (N := 50) hB15 rfl (by decide) hg_kernel_3 hK, fun U hU hW => ⟨rfl, hU, hh_2.2.1, hG.step hW hU hh_2.1, hg_kernel_3, jP.nil, trivial⟩⟩ rfl rfl hl.1 rfl (lv_room (Nat.le_of_ble_eq_true rfl)) dX14_costOf_4 ⟨Nat.zero_le _, Nat.zero_le _⟩) hh_2.1 (fun q _ h => h) (fun q h => h) (fun u_4 t_4 H_4 locs_4 ht_4 hvm_4 hr_5 hb_4 hz_4 hk_4 hS_4 => ?_)
  obtain ⟨qn_4, qy_4, qf_4, qg_4, qp_4, qc_4, qs_4⟩ := u_4
  rw [ht_4] at hb_4
  obtain ⟨hb_41, hb_42, hb_43, hb_44, hb_45⟩ := hb_4
  have hh_4 : jSt (dC, dI) B base G0 G0 EX14_costOfT s.heap 0 0 [(kernel_3, 15, 5, .int qn_4), (kernel_3, 15, 11, .int qy_4), (kernel_3, 15, 15, .int qf_4), (kernel_3, 15, 21, .int qg_4), (kernel_3, 15, 18, .int qp_4), (kernel_3, 15, 10, .int qc_4), (kernel_3, 15, 7, .int qs_4), (r0, 16, 58, .ref kernel_3), (r1, 14, 6, .ref yb), (r1, 14, 7, .ref ye), (r1, 14, 3, .ref yt), (r1, 14, 8, .ref yl)] [(yb, 190, 40, ca 1, fb), (ye, 191, 40, ca 1, fe), (yt, 194, 1500, ca 1, ft), (yl, 192, 40, ca 1, fl)] [] H_4 locs_4 := ((hh_2.call hb_41 hb_42 hb_43 hb_44 hS_4 rfl (L1 := [(r0, 16, 58, .ref kernel_3), (r1, 14, 6, .ref yb), (r1, 14, 7, .ref ye), (r1, 14, 3, .ref yt), (r1, 14, 8, .ref yl)]) [0, 1, 2, 3, 4] rfl rfl (M1 := [(yb, 190, 40, ca 1, fb), (ye, 191, 40, ca 1, fe), (yt, 194, 1500, ca 1, ft), (yl, 192, 40, ca 1, fl)]) [0, 1, 2, 3] rfl rfl (I1 := []) [] rfl rfl).more hb_45)
  clear hh_2 ht_4 hvm_4 hz_4 hk_4 hS_4 hb_41 hb_42 hb_43 hb_44 hb_45
  try simp only at hr_5
  obtain ⟨hr_5_0, hr_5_1, hr_5_2, hr_5_3, hr_5_4, hr_5_5, hr_5_6⟩ := hr_5
  refine lv_aload_n hx hb dX14_costOf_7 rfl (lv_at hl 0 rfl) ?_
  refine j7_read hx hb hown hK (C := RX14) (T := TX14) (N := 74) rfl hly_16_58 hlk_122 (hh_4.at 7 rfl) dX14_costOf_8 ?_
  refine lv_aload_n hx hb dX14_costOf_11 rfl (lv_at hl 1 rfl) ?_
  refine j7_readN hx hb hown hK (C := RX12) (T := TX12) (N := 11) rfl hly_14_3 hlk_529 (hh_4.at 10 rfl) dX14_costOf_12 ?_
  refine lv_aload_n hx hb dX14_costOf_15 rfl (lv_at hl 1 rfl) ?_
  refine j7_readN hx hb hown hK (C := RX12) (T := TX12) (N := 11) rfl hly_14_6 hlk_596 (hh_4.at 8 rfl) dX14_costOf_16 ?_
  refine lv_iload_n hx hb dX14_costOf_19 rfl (lv_at hl 2 rfl) ?_
  refine j7_ialdM hx hb hK hh_4 hB190 1 rfl (by decide) hg_yb (x := a2.toInt) (rfl) (by omega) (j := 0) rfl dX14_costOf_20 (fun z_6 ez_6 (hz_6 : 0 ≤ z_6.toInt ∧ z_6.toInt ≤ 1500) => ?_)
  have hqz_6 : z_6.toInt = jSo fb (a2.toInt) := by unfold jSo; rw [ez_6]
  refine lv_aload_n hx hb dX14_costOf_21 rfl (lv_at hl 1 rfl) ?_
  refine j7_readN hx hb hown hK (C := RX12) (T := TX12) (N := 11) rfl hly_14_7 hlk_594 (hh_4.at 9 rfl) dX14_costOf_22 ?_
  refine lv_iload_n hx hb dX14_costOf_25 rfl (lv_at hl 2 rfl) ?_
  refine j7_ialdM hx hb hK hh_4 hB191 1 rfl (by decide) hg_ye (x := a2.toInt) (rfl) (by omega) (j := 1) rfl dX14_costOf_26 (fun z_7 ez_7 (hz_7 : 0 ≤ z_7.toInt ∧ z_7.toInt ≤ 1500) => ?_)
  have hqz_7 : z_7.toInt = jSo fe (a2.toInt) := by unfold jSo; rw [ez_7]
  refine lv_aload_n hx hb dX14_costOf_27 rfl (lv_at hl 1 rfl) ?_
  refine j7_readN hx hb hown hK (C := RX12) (T := TX12) (N := 11) rfl hly_14_8 hlk_599 (hh_4.at 11 rfl) dX14_costOf_28 ?_
  refine lv_iload_n hx hb dX14_costOf_31 rfl (lv_at hl 2 rfl) ?_
  refine j7_ialdM hx hb hK hh_4 hB192 1 rfl (by decide) hg_yl (x := a2.toInt) (rfl) (by omega) (j := 3) rfl dX14_costOf_32 (fun z_8 ez_8 (hz_8 : 0 ≤ z_8.toInt ∧ z_8.toInt ≤ 2) => ?_)
  have hqz_8 : z_8.toInt = jSo fl (a2.toInt) := by unfold jSo; rw [ez_8]
  refine va_calli (A0 := jA base) (H0 := s.heap) (va_runV (As := [.ref yt, .int z_6, .int z_7, .int z_8]) (rest := []) ⟨hx, hb, hml, hown, hts⟩ (uX13_costT l dC dI ca base B hB hAp hB15 hB101 hB155 hB156 hB157 hB166 hB167 hB194 G0 H_4 kernel_3 yt z_6 z_7 z_8 1500 qc_4 qs_4 nn ft) (cwV 4 hts (jgV (jWr_91 _ (List.mem_of_getElem? (i := 3) rfl)) (jWr_91 _ (List.mem_of_getElem? (i := 4) rfl)) (jWr_91 _ (List.mem_of_getElem? (i := 5) rfl)) (jWr_12 _ (List.mem_of_getElem? (i := 12) rfl)) (jWr_91 _ (List.mem_of_getElem? (i := 6) rfl))) rfl rfl rfl (by decide +kernel) ⟨by rw [← hR]; exact Nat.le_of_ble_eq_true rfl, by rw [← hR]; exact Nat.le_of_ble_eq_true rfl⟩) ⟨fun a U g mk q => by obtain ⟨q0, q1, q2, qK, q10, q11, q12, q13, q14⟩ := q; exact ⟨q0, q1, q2, jG.calling g mk a qK, q10, q11, q12, q13, q14⟩, hh_4.recv (C := RX13) (T := TX13) (N := 50) hB15 rfl (by decide) hg_kernel_3 hK, fun U hU hW => ⟨rfl, hU, hh_4.2.1, hG.step hW hU hh_4.1, hg_yt, hg_kernel_3, (hh_4.2.2.1.sub (L1 := [(kernel_3, 15, 10, .int qc_4), (kernel_3, 15, 7, .int qs_4)]) [5, 6] rfl), (hh_4.2.2.2.2.2.2.2.1.sub (L1 := [(yt, 194, 1500, ca 1, ft)]) [2] rfl), ⟨(by first | omega | rfl | assumption | (by_cases q9 : 0 < jcF ft nn a2.toInt.toNat; exact Or.inl (by rw [hqz_8, hp6]; exact q9); refine Or.inr ?_; rw [hqz_6, hqz_7, hp4, hp5]; exact jcV.fl q9)), (by first | omega | rfl | assumption | (by_cases q9 : 0 < jcF ft nn a2.toInt.toNat; exact Or.inl (by rw [hqz_8, hp6]; exact q9); refine Or.inr ?_; rw [hqz_6, hqz_7, hp4, hp5]; exact jcV.fl q9)), (by first | omega | rfl | assumption | (by_cases q9 : 0 < jcF ft nn a2.toInt.toNat; exact Or.inl (by rw [hqz_8, hp6]; exact q9); refine Or.inr ?_; rw [hqz_6, hqz_7, hp4, hp5]; exact jcV.fl q9)), (by first | omega | rfl | assumption | (by_cases q9 : 0 < jcF ft nn a2.toInt.toNat; exact Or.inl (by rw [hqz_8, hp6]; exact q9); refine Or.inr ?_; rw [hqz_6, hqz_7, hp4, hp5]; exact jcV.fl q9)), (by first | omega | rfl | assumption | (by_cases q9 : 0 < jcF ft nn a2.toInt.toNat; exact Or.inl (by rw [hqz_8, hp6]; exact q9); refine Or.inr ?_; rw [hqz_6, hqz_7, hp4, hp5]; exact jcV.fl q9)), (by first | omega | rfl | assumption | (by_cases q9 : 0 < jcF ft nn a2.toInt.toNat; exact Or.inl (by rw [hqz_8, hp6]; exact q9); refine Or.inr ?_; rw [hqz_6, hqz_7, hp4, hp5]; exact jcV.fl q9)), (by first | omega | rfl | assumption | (by_cases q9 : 0 < jcF ft nn a2.toInt.toNat; exact Or.inl (by rw [hqz_8, hp6]; exact q9); refine Or.inr ?_; rw [hqz_6, hqz_7, hp4, hp5]; exact jcV.fl q9)), (by first | omega | rfl | assumption | (by_cases q9 : 0 < jcF ft nn a2.toInt.toNat; exact Or.inl (by rw [hqz_8, hp6]; exact q9); refine Or.inr ?_; rw [hqz_6, hqz_7, hp4, hp5]; exact jcV.fl q9)), (by first | omega | rfl | assumption | (by_cases q9 : 0 < jcF ft nn a2.toInt.toNat; exact Or.inl (by rw [hqz_8, hp6]; exact q9); refine Or.inr ?_; rw [hqz_6, hqz_7, hp4, hp5]; exact jcV.fl q9)), (by first | omega | rfl | assumption | (by_cases q9 : 0 < jcF ft nn a2.toInt.toNat; exact Or.inl (by rw [hqz_8, hp6]; exact q9); refine Or.inr ?_; rw [hqz_6, hqz_7, hp4, hp5]; exact jcV.fl q9)), (by first | assumption | (by_cases q9 : 0 < jcF ft nn a2.toInt.toNat; exact Or.inl (by rw [hqz_8, hp6]; exact q9); refine Or.inr ?_; rw [hqz_6, hqz_7, hp4, hp5]; exact jcV.fl q9) | omega)⟩⟩⟩ rfl rfl hl.1 rfl (lv_room (Nat.le_of_ble_eq_true rfl)) dX14_costOf_33 ⟨Nat.zero_le _, Nat.zero_le _⟩) hh_4.1 (fun q _ h => h) (fun q h => h) (fun r_10 u_9 t_9 H_9 locs_9 ht_9 hvm_9 hr_10 hb_9 hz_9 hk_9 hS_9 => ?_)
  rw [ht_9] at hb_9
  obtain ⟨hb_91, hb_92, hb_93, hb_94, hb_95⟩ := hb_9
  have hh_9 : jSt (dC, dI) B base G0 G0 EX14_costOfT s.heap 0 0 [(kernel_3, 15, 5, .int qn_4), (kernel_3, 15, 11, .int qy_4), (kernel_3, 15, 15, .int qf_4), (kernel_3, 15, 21, .int qg_4), (kernel_3, 15, 18, .int qp_4), (r0, 16, 58, .ref kernel_3), (r1, 14, 6, .ref yb), (r1, 14, 7, .ref ye), (r1, 14, 3, .ref yt), (r1, 14, 8, .ref yl)] [(yb, 190, 40, ca 1, fb), (ye, 191, 40, ca 1, fe), (yt, 194, 1500, ca 1, ft), (yl, 192, 40, ca 1, fl)] [] H_9 locs_9 := ((hh_4.call hb_91 hb_92 hb_93 hb_94 hS_9 rfl (L1 := [(kernel_3, 15, 5, .int qn_4), (kernel_3, 15, 11, .int qy_4), (kernel_3, 15, 15, .int qf_4), (kernel_3, 15, 21, .int qg_4), (kernel_3, 15, 18, .int qp_4), (r0, 16, 58, .ref kernel_3), (r1, 14, 6, .ref yb), (r1, 14, 7, .ref ye), (r1, 14, 3, .ref yt), (r1, 14, 8, .ref yl)]) [0, 1, 2, 3, 4, 7, 8, 9, 10, 11] rfl rfl (M1 := [(yb, 190, 40, ca 1, fb), (ye, 191, 40, ca 1, fe), (yt, 194, 1500, ca 1, ft), (yl, 192, 40, ca 1, fl)]) [0, 1, 2, 3] rfl rfl (I1 := []) [] rfl rfl).more hb_95)
  clear hh_4 ht_9 hvm_9 hz_9 hk_9 hS_9 hb_91 hb_92 hb_93 hb_94 hb_95
  rw [hQ]
  exact W.iret (v := r_10) hx hb hr (fun t ht hW => ⟨⟨r_10, (), rfl, by have h9 := hr_10; rw [hqz_6, hqz_7, hqz_8, hp4, hp5, hp6] at h9; exact h9, hh_9.rt (M1 := []) [] rfl ht⟩, by rw [ht]; try exact hh_9.1.1, fun q h9 hq => by rw [ht]; try exact hh_9.1.2.1 q h9 hq⟩) hh_9.1.2.2 dX14_costOf_36
end
