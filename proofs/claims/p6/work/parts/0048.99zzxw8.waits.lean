section
def EX14_releaseT : List (Nat × Nat) := [(16, 36), (16, 37), (16, 39), (16, 40), (16, 48), (101, 0), (103, 0), (104, 0), (116, 0), (126, 0), (202, 0), (203, 0), (204, 0), (206, 0)]
set_option maxHeartbeats 4000000 in
set_option maxRecDepth 20000 in
theorem uX14_releaseT (l : Launch) (dC : Nat → ClassId) (dI : Nat → Nat → Nat) (ca : Nat → ClassId) (base : Nat) (B : jF) (hB : jBok B) (hAp : jAp (dC, dI)) (hB14 : ∀ n G a H, B 14 n G a H ↔ jOb (dC, dI) 14 11 (F14 n G) a H) (hB16 : ∀ n G a H, B 16 n G a H ↔ jOb (dC, dI) 16 74 (F16 n G) a H) (hB101 : ∀ n G a H, B 101 n G a H ↔ jAr (dC, dI) (ca 1) (fun j z => True) n a H) (hB103 : ∀ n G a H, B 103 n G a H ↔ jAr (dC, dI) (ca 3) (fun j z => (z = 0 ∨ z = 1)) n a H) (hB104 : ∀ n G a H, B 104 n G a H ↔ jAr (dC, dI) (ca 3) (fun j z => (z = 0 ∨ z = 1)) n a H) (hB116 : ∀ n G a H, B 116 n G a H ↔ jAr (dC, dI) (ca 1) (fun j z => True) n a H) (hB126 : ∀ n G a H, B 126 n G a H ↔ jAr (dC, dI) (ca 1) (fun j z => True) n a H) (hB202 : ∀ n G a H, B 202 n G a H ↔ jAq (dC, dI) (ca 4) (jQn 14 0) n G a H) (hB203 : ∀ n G a H, B 203 n G a H ↔ jAr (dC, dI) (ca 1) (fun j z => -3300 ≤ z.toInt ∧ z.toInt ≤ 20) n a H) (hB204 : ∀ n G a H, B 204 n G a H ↔ jAr (dC, dI) (ca 1) (fun j z => -3100 ≤ z.toInt ∧ z.toInt ≤ 3100) n a H) (hB206 : ∀ n G a H, B 206 n G a H ↔ jAr (dC, dI) (ca 1) (fun j z => 0 ≤ z.toInt ∧ z.toInt ≤ 40) n a H) (G0 : jT) (H0 : Heap) (r0 : Nat) (a1 : Int32) (WW : List jwA) : Met l yX14_release (jw yX14_release cX14_release 4 none) ({ frames := 0, cells := 0, slots := 0, locals := 0 }) (va_Pc [.ref r0, .int a1] (fun U => U.heap = H0 ∧ jX B base G0 [] H0 ∧ jG dC dI ca base U ∧ jK2 dC dI ca U ∧ G0 r0 = some (16, 0) ∧ jP (dC, dI) G0 H0 [] ∧ jIs (dC, dI) G0 H0 [(jFHw, jHw dC dI ca G0 r0 WW)] ∧ 0 ≤ a1.toInt ∧ a1.toInt < (WW.length : Int))) (va_Qv (S := Unit) (fun u => True) (fun u t => (jRt (dC, dI) B base G0 EX14_releaseT H0 [] t.heap) ∧ jIs (dC, dI) G0 t.heap [(jFHw, jHw dC dI ca G0 r0 (WW.eraseIdx (a1.toInt).toNat))]) (jA base)) 0 0 (jA base) := by
  refine Met.ofW (cc := cX14_release) (maxL := 4) (ret := none) (by decide) rfl ?_
  intro p e s m args below meth c s₁ Bd hml hv
  obtain ⟨rfl, hH0, hX, hG, hK2, hg_r0, hP0, hI0, hp0, hp1⟩ := hv
  have hK := hG.1
  have hx := Bd.exec
  have hb := Bd.bytes
  have hr := Bd.returns
  have hts := atoms_spec (ws := (jw yX14_release cX14_release 4 none)) Bd.pre
  have htw : ∀ w ∈ jWl, w.before _ s = true := fun w h => hts w (List.mem_cons_of_mem _ h)
  have hown : s.vm.findClass RX14 = some m.cls := findClass_of_methodNamed Bd.named
  have hlocks := Bd.notSynchronized
  obtain ⟨Q, hQ⟩ : ∃ Q, Q = MQ below (va_Qv (S := Unit) (fun u => True) (fun u t => (jRt (dC, dI) B base G0 EX14_releaseT H0 [] t.heap) ∧ jIs (dC, dI) G0 t.heap [(jFHw, jHw dC dI ca G0 r0 (WW.eraseIdx (a1.toInt).toNat))]) (jA base)) ([.ref r0, .int a1] : List Value).toArray s 0 0 (jA base) := ⟨_, rfl⟩
  rw [← hQ]
  have hl := lv_entry ([.ref r0, .int a1]) (n := 4) (Nat.le_of_ble_eq_true rfl)
  rw [lg_entry_eq]
  generalize (lg_sl ([.ref r0, .int a1]) ++ List.replicate (4 - (lg_sl ([.ref r0, .int a1])).length) Slot.unset).toArray = ls at hl ⊢
  have hl : lv_has ls 4 [(0, .ref r0), (1, .int a1)] := hl
  generalize hR : (headSpec (jw yX14_release cX14_release 4 none) ({ frames := 0, cells := 0, slots := 0, locals := 0 })).room = R
  subst hH0
  have hh : jSt (dC, dI) B base G0 G0 EX14_releaseT s.heap 0 0 [] [] [(jFHw, jHw dC dI ca G0 r0 WW)] s.heap [] := jSt.start hX hP0 jMc.nil hI0
  clear hX hP0
  have hk0 : (0 : Int32).toInt = 0 := by decide
  have hk1 : (1 : Int32).toInt = 1 := by decide
  have hk20 : (20 : Int32).toInt = 20 := by decide
  have hk3100 : (3100 : Int32).toInt = 3100 := by decide
  have hly_16_36 := htw (u_lay RX14 TX14 36) (jWc_wsX140 _ (u_in_lay (by decide)))
  have hly_16_37 := htw (u_lay RX14 TX14 37) (jWc_wsX140 _ (u_in_lay (by decide)))
  have hly_16_38 := htw (u_lay RX14 TX14 38) (jWc_wsX140 _ (u_in_lay (by decide)))
  have hly_16_39 := htw (u_lay RX14 TX14 39) (jWc_wsX140 _ (u_in_lay (by decide)))
  have hly_16_40 := htw (u_lay RX14 TX14 40) (jWc_wsX140 _ (u_in_lay (by decide)))
  have hly_16_48 := htw (u_lay RX14 TX14 48) (jWc_wsX140 _ (u_in_lay (by decide)))
  have hly_16_49 := htw (u_lay RX14 TX14 49) (jWc_wsX140 _ (u_in_lay (by decide)))
  have hly_16_50 := htw (u_lay RX14 TX14 50) (jWc_wsX140 _ (u_in_lay (by decide)))
  have hly_16_51 := htw (u_lay RX14 TX14 51) (jWc_wsX140 _ (u_in_lay (by decide)))
  have hly_16_52 := htw (u_lay RX14 TX14 52) (jWc_wsX140 _ (u_in_lay (by decide)))
  have hly_16_53 := htw (u_lay RX14 TX14 53) (jWc_wsX140 _ (u_in_lay (by decide)))
  have hly_16_54 := htw (u_lay RX14 TX14 54) (jWc_wsX140 _ (u_in_lay (by decide)))
  have hly_16_55 := htw (u_lay RX14 TX14 55) (jWc_wsX140 _ (u_in_lay (by decide)))
  have hly_16_56 := htw (u_lay RX14 TX14 56) (jWc_wsX140 _ (u_in_lay (by decide)))
  have hly_16_57 := htw (u_lay RX14 TX14 57) (jWc_wsX140 _ (u_in_lay (by decide)))
  have hlk_374 := (htw (.fieldLink RX14 374 "ProofServerModel" "idNull" "Z") (jWr_50 _ (List.mem_of_getElem? (i := 10) rfl)))
  have hlk_100 := (htw (.fieldLink RX14 100 "ProofServerModel" "waitString" "[Z") (jWr_12 _ (List.mem_of_getElem? (i := 3) rfl)))
  have hlk_377 := (htw (.fieldLink RX14 377 "ProofServerModel" "idString" "Z") (jWr_53 _ (List.mem_of_getElem? (i := 19) rfl)))
  have hlk_103 := (htw (.fieldLink RX14 103 "ProofServerModel" "waitInt" "[I") (jWr_12 _ (List.mem_of_getElem? (i := 4) rfl)))
  have hlk_380 := (htw (.fieldLink RX14 380 "ProofServerModel" "idInt" "I") (jWr_53 _ (List.mem_of_getElem? (i := 21) rfl)))
  have hlk_109 := (htw (.fieldLink RX14 109 "ProofServerModel" "waitLength" "[I") (jWr_12 _ (List.mem_of_getElem? (i := 6) rfl)))
  have hlk_383 := (htw (.fieldLink RX14 383 "ProofServerModel" "idLength" "I") (jWr_53 _ (List.mem_of_getElem? (i := 20) rfl)))
  have hlk_68 := (htw (.fieldLink RX14 68 "ProofServerModel" "idUnits" "[I") (jWr_11 _ (List.mem_of_getElem? (i := 15) rfl)))
  have hlk_106 := (htw (.fieldLink RX14 106 "ProofServerModel" "waitUnits" "[I") (jWr_12 _ (List.mem_of_getElem? (i := 5) rfl)))
  have hlk_711 := (htw (.fieldLink RX14 711 "ProofServerModel" "waits" "I") (jWr_58 _ (List.mem_of_getElem? (i := 11) rfl)))
  have hlk_91 := (htw (.fieldLink RX14 91 "ProofServerModel" "waitOf" "[LProofServerModel$Document;") (jWr_12 _ (List.mem_of_getElem? (i := 0) rfl)))
  have hlk_94 := (htw (.fieldLink RX14 94 "ProofServerModel" "waitGoals" "[Z") (jWr_12 _ (List.mem_of_getElem? (i := 1) rfl)))
  have hlk_97 := (htw (.fieldLink RX14 97 "ProofServerModel" "waitNeed" "[I") (jWr_12 _ (List.mem_of_getElem? (i := 2) rfl)))
  have hlk_116 := (htw (.fieldLink RX14 116 "ProofServerModel" "waitNameLength" "[I") (jWr_12 _ (List.mem_of_getElem? (i := 9) rfl)))
  have hlk_113 := (htw (.fieldLink RX14 113 "ProofServerModel" "waitName" "[I") (jWr_12 _ (List.mem_of_getElem? (i := 8) rfl)))
  have hrg_a1 := jb_rng a1
  obtain ⟨ywd_1, yws_1, ywi_1, ywu_1, ywe_1, ywo_1, wn_1, wd_1, ws_1, wi_1, wu_1, we_1, wo_1, -, ⟨hgwd_1, hgws_1, hgwi_1, hgwu_1, hgwe_1, hgwo_1⟩, hoP_1, hoM_1, hqwo_1, hoR_1⟩ := hh.iv 0 rfl
  have hh_2 := ((hh.sub (L1 := []) [] rfl (M1 := []) [] rfl (I1 := []) [] rfl).more hoP_1).moreM hoM_1
  clear hh
  have hh_3 := hh_2.addI (jQc.ie hqwo_1 hgwo_1 (by decide) (by decide))
  clear hh_2
  have hwl9 := hoR_1
  have hwb9 := And.intro hoR_1.1 hoR_1.2.1
  refine lv_aload_n hx hb dX14_release_0 rfl (lv_at hl 0 rfl) ?_
  refine lv_iconst (v := 0) hx hb dX14_release_1 (by decide) ?_
  refine j7_put hx hb hown hK hh_3 hB hAp hB16 (C := RX14) (T := TX14) (N := 74) rfl (by decide) hg_r0 (i := 40) (by decide) hly_16_40 rfl hlk_374 rfl (ty := .boolean) (v := .int 0) (by decide +kernel) (jb_nz (Or.inl rfl)) (jb_fz (Or.inl rfl)) (⟨_, rfl, (Or.inl rfl)⟩) rfl (L1 := [(r0, 16, 51, .ref ywd_1), (r0, 16, 52, .ref yws_1), (r0, 16, 53, .ref ywi_1), (r0, 16, 54, .ref ywu_1), (r0, 16, 55, .ref ywe_1), (r0, 16, 49, .ref ywo_1), (r0, 16, 48, .int wn_1)]) [0, 1, 2, 3, 4, 5, 6] rfl rfl rfl dX14_release_2 (fun H_4 locs_4 hh_4 => ?_)
  clear hh_3
  refine lv_aload_n hx hb dX14_release_5 rfl (lv_at hl 0 rfl) ?_
  refine lv_aload_n hx hb dX14_release_6 rfl (lv_at hl 0 rfl) ?_
  refine j7_read hx hb hown hK (C := RX14) (T := TX14) (N := 74) rfl hly_16_52 hlk_100 (hh_4.at 2 rfl) dX14_release_7 ?_
  refine lv_iload_n hx hb dX14_release_10 rfl (lv_at hl 1 rfl) ?_
  refine j7_zaldM hx hb hK hh_4 hB104 3 rfl (by decide) hgws_1 (x := a1.toInt) (rfl) (by omega) (j := 1) rfl dX14_release_11 (fun z_5 ez_5 (hz_5 : (z_5 = 0 ∨ z_5 = 1)) => ?_)
  have hqz_5 : z_5.toInt = jSo ws_1 (a1.toInt) := by unfold jSo; rw [ez_5]
  have hz_5' := jb_01 hz_5
  refine j7_put hx hb hown hK hh_4 hB hAp hB16 (C := RX14) (T := TX14) (N := 74) rfl (by decide) hg_r0 (i := 36) (by decide) hly_16_36 rfl hlk_377 rfl (ty := .boolean) (v := .int z_5) (by decide +kernel) (jb_nz (hz_5)) (jb_fz (hz_5)) (⟨_, rfl, (hz_5)⟩) rfl (L1 := [(r0, 16, 40, .int 0), (r0, 16, 51, .ref ywd_1), (r0, 16, 52, .ref yws_1), (r0, 16, 53, .ref ywi_1), (r0, 16, 54, .ref ywu_1), (r0, 16, 55, .ref ywe_1), (r0, 16, 49, .ref ywo_1), (r0, 16, 48, .int wn_1)]) [0, 1, 2, 3, 4, 5, 6, 7] rfl rfl rfl dX14_release_12 (fun H_6 locs_6 hh_6 => ?_)
  clear hh_4
  clear hz_5'
  refine lv_aload_n hx hb dX14_release_15 rfl (lv_at hl 0 rfl) ?_
  refine lv_aload_n hx hb dX14_release_16 rfl (lv_at hl 0 rfl) ?_
  refine j7_read hx hb hown hK (C := RX14) (T := TX14) (N := 74) rfl hly_16_53 hlk_103 (hh_6.at 4 rfl) dX14_release_17 ?_
  refine lv_iload_n hx hb dX14_release_20 rfl (lv_at hl 1 rfl) ?_
  refine j7_ialdM hx hb hK hh_6 hB116 1 rfl (by decide) hgwi_1 (x := a1.toInt) (rfl) (by omega) (j := 2) rfl dX14_release_21 (fun z_7 ez_7 (hz_7 : True) => ?_)
  have hqz_7 : z_7.toInt = jSo wi_1 (a1.toInt) := by unfold jSo; rw [ez_7]
  refine j7_put hx hb hown hK hh_6 hB hAp hB16 (C := RX14) (T := TX14) (N := 74) rfl (by decide) hg_r0 (i := 37) (by decide) hly_16_37 rfl hlk_380 rfl (ty := .int) (v := .int z_7) (by decide +kernel) rfl rfl (⟨_, rfl⟩) rfl (L1 := [(r0, 16, 36, .int z_5), (r0, 16, 40, .int 0), (r0, 16, 51, .ref ywd_1), (r0, 16, 52, .ref yws_1), (r0, 16, 53, .ref ywi_1), (r0, 16, 54, .ref ywu_1), (r0, 16, 55, .ref ywe_1), (r0, 16, 49, .ref ywo_1), (r0, 16, 48, .int wn_1)]) [0, 1, 2, 3, 4, 5, 6, 7, 8] rfl rfl rfl dX14_release_22 (fun H_8 locs_8 hh_8 => ?_)
  clear hh_6
  refine lv_aload_n hx hb dX14_release_25 rfl (lv_at hl 0 rfl) ?_
  refine lv_aload_n hx hb dX14_release_26 rfl (lv_at hl 0 rfl) ?_
  refine j7_read hx hb hown hK (C := RX14) (T := TX14) (N := 74) rfl hly_16_55 hlk_109 (hh_8.at 7 rfl) dX14_release_27 ?_
  refine lv_iload_n hx hb dX14_release_30 rfl (lv_at hl 1 rfl) ?_
  refine j7_ialdM hx hb hK hh_8 hB203 1 rfl (by decide) hgwe_1 (x := a1.toInt) (rfl) (by omega) (j := 4) rfl dX14_release_31 (fun z_9 ez_9 (hz_9 : -3300 ≤ z_9.toInt ∧ z_9.toInt ≤ 20) => ?_)
  have hqz_9 : z_9.toInt = jSo we_1 (a1.toInt) := by unfold jSo; rw [ez_9]
  refine j7_put hx hb hown hK hh_8 hB hAp hB16 (C := RX14) (T := TX14) (N := 74) rfl (by decide) hg_r0 (i := 39) (by decide) hly_16_39 rfl hlk_383 rfl (ty := .int) (v := .int z_9) (by decide +kernel) rfl rfl (⟨_, rfl, by omega, by omega⟩) rfl (L1 := [(r0, 16, 37, .int z_7), (r0, 16, 36, .int z_5), (r0, 16, 40, .int 0), (r0, 16, 51, .ref ywd_1), (r0, 16, 52, .ref yws_1), (r0, 16, 53, .ref ywi_1), (r0, 16, 54, .ref ywu_1), (r0, 16, 55, .ref ywe_1), (r0, 16, 49, .ref ywo_1), (r0, 16, 48, .int wn_1)]) [0, 1, 2, 3, 4, 5, 6, 7, 8, 9] rfl rfl rfl dX14_release_32 (fun H_10 locs_10 hh_10 => ?_)
  clear hh_8
  refine lv_iconst (v := 0) hx hb dX14_release_35 (by decide) ?_
  refine lv_istore_n (lv' := [(2, .int 0), (0, .ref r0), (1, .int a1)]) hx hb dX14_release_36 rfl hl (by decide) rfl (fun ls hl => ?_)
  have L37 : ∀ (N : Nat) (v2_11 : Int32) (H_11 : Heap) (locs_11 : List Loc), jSt (dC, dI) B base G0 G0 EX14_releaseT s.heap 0 0 [(r0, 16, 39, .int z_9), (r0, 16, 37, .int z_7), (r0, 16, 36, .int z_5), (r0, 16, 40, .int 0), (r0, 16, 51, .ref ywd_1), (r0, 16, 52, .ref yws_1), (r0, 16, 53, .ref ywi_1), (r0, 16, 54, .ref ywu_1), (r0, 16, 55, .ref ywe_1), (r0, 16, 49, .ref ywo_1), (r0, 16, 48, .int wn_1)] [(ywd_1, 206, 12, ca 1, wd_1), (yws_1, 104, 12, ca 3, ws_1), (ywi_1, 116, 12, ca 1, wi_1), (ywu_1, 126, 240, ca 1, wu_1), (ywe_1, 203, 12, ca 1, we_1)] [([(202, 0)], jQc dC dI (ca 4) ywo_1 12 wo_1)] H_11 locs_11 → (0 ≤ v2_11.toInt ∧ v2_11.toInt ≤ 20) → (20 - v2_11.toInt : Int) < N → ∀ ls : Array Slot, lv_has ls 4 [(0, .ref r0), (1, .int a1), (2, .int v2_11)] → W p l e R s m ([.ref r0, .int a1] : List Value).toArray below meth c H_11 locs_11 0 0 Q (F0 m 37 ls []) := by
    intro N
    induction N with
    | zero => intro v2_11 H_11 locs_11 hh_11  hi_11 hm; exact absurd hm (by omega)
    | succ N L37 =>
      intro v2_11 H_11 locs_11 hh_11  hi_11 hm_11 ls hl
      obtain ⟨hi_11_0, hi_11_1⟩ := hi_11
      refine lv_iload_n hx hb dX14_release_37 rfl (lv_at hl 2 rfl) ?_
      refine lv_aload_n hx hb dX14_release_38 rfl (lv_at hl 0 rfl) ?_
      refine j7_read hx hb hown hK (C := RX14) (T := TX14) (N := 74) rfl hly_16_39 hlk_383 (hh_11.at 0 rfl) dX14_release_39 ?_
      refine lv_icmp_ge (tgt := 68) hx hb dX14_release_42 (by decide) (fun c_12 => ?_) (fun c_12 => ?_)
      · skip
        have c_12' : v2_11.toInt ≥ z_9.toInt := jb_ge (rfl) (rfl) c_12
        refine lv_iload_n hx hb dX14_release_68 rfl (lv_at hl 1 rfl) ?_
        refine lv_istore_n (lv' := [(2, .int a1), (0, .ref r0), (1, .int a1)]) hx hb dX14_release_69 rfl hl (by decide) rfl (fun ls hl => ?_)
        have L70 : ∀ (N : Nat) (v2_13 : Int32) (wdx_13 : Nat → Int32) (wsx_13 : Nat → Int32) (wix_13 : Nat → Int32) (wux_13 : Nat → Int32) (wex_13 : Nat → Int32) (wox_13 : Nat → Option Nat) (H_13 : Heap) (locs_13 : List Loc), jSt (dC, dI) B base G0 G0 EX14_releaseT s.heap 0 0 [(r0, 16, 39, .int z_9), (r0, 16, 37, .int z_7), (r0, 16, 36, .int z_5), (r0, 16, 40, .int 0), (r0, 16, 51, .ref ywd_1), (r0, 16, 52, .ref yws_1), (r0, 16, 53, .ref ywi_1), (r0, 16, 54, .ref ywu_1), (r0, 16, 55, .ref ywe_1), (r0, 16, 49, .ref ywo_1), (r0, 16, 48, .int wn_1)] [(ywe_1, 203, 12, ca 1, wex_13), (ywu_1, 126, 240, ca 1, wux_13), (ywi_1, 116, 12, ca 1, wix_13), (yws_1, 104, 12, ca 3, wsx_13), (ywd_1, 206, 12, ca 1, wdx_13)] [([(202, 0)], jQc dC dI (ca 4) ywo_1 12 wox_13)] H_13 locs_13 → (a1.toInt ≤ v2_13.toInt ∧ v2_13.toInt < wn_1.toInt ∧ jwSq 12 wo_1 wox_13 a1.toInt v2_13.toInt ∧ jwSi 12 wd_1 wdx_13 1 a1.toInt v2_13.toInt ∧ jwSi 12 ws_1 wsx_13 1 a1.toInt v2_13.toInt ∧ jwSi 12 wi_1 wix_13 1 a1.toInt v2_13.toInt ∧ jwSi 12 we_1 wex_13 1 a1.toInt v2_13.toInt ∧ jwSi 240 wu_1 wux_13 20 (20 * a1.toInt) (20 * v2_13.toInt)) → (wn_1.toInt - v2_13.toInt : Int) < N → ∀ ls : Array Slot, lv_has ls 4 [(0, .ref r0), (1, .int a1), (2, .int v2_13)] → W p l e R s m ([.ref r0, .int a1] : List Value).toArray below meth c H_13 locs_13 0 0 Q (F0 m 70 ls []) := by
          intro N
          induction N with
          | zero => intro v2_13 wdx_13 wsx_13 wix_13 wux_13 wex_13 wox_13 H_13 locs_13 hh_13  hi_13 hm; exact absurd hm (by omega)
          | succ N L70 =>
            intro v2_13 wdx_13 wsx_13 wix_13 wux_13 wex_13 wox_13 H_13 locs_13 hh_13  hi_13 hm_13 ls hl
            obtain ⟨hi_13_0, hi_13_1, hi_13_2, hi_13_3, hi_13_4, hi_13_5, hi_13_6, hi_13_7⟩ := hi_13
            refine lv_iload_n hx hb dX14_release_70 rfl (lv_at hl 2 rfl) ?_
            refine lv_iconst (v := 1) hx hb dX14_release_71 (by decide) ?_
            refine lv_iadd hx hb dX14_release_72 ?_
            refine lv_topi (fun z_14 ez_14 => ?_)
            have hz_14 : z_14.toInt = v2_13.toInt + 1 := by rw [ez_14]; exact jb_iadd2 (rfl) ((by decide)) (by omega)
            refine lv_aload_n hx hb dX14_release_73 rfl (lv_at hl 0 rfl) ?_
            refine j7_read hx hb hown hK (C := RX14) (T := TX14) (N := 74) rfl hly_16_48 hlk_711 (hh_13.at 10 rfl) dX14_release_74 ?_
            refine lv_icmp_ge (tgt := 269) hx hb dX14_release_77 (by decide) (fun c_15 => ?_) (fun c_15 => ?_)
            · skip
              have c_15' : z_14.toInt ≥ wn_1.toInt := jb_ge (rfl) (rfl) c_15
              refine lv_aload_n hx hb dX14_release_269 rfl (lv_at hl 0 rfl) ?_
              refine lv_dup hx hb dX14_release_270 rfl ?_
              refine j7_read hx hb hown hK (C := RX14) (T := TX14) (N := 74) rfl hly_16_48 hlk_711 (hh_13.at 10 rfl) dX14_release_271 ?_
              refine lv_iconst (v := 1) hx hb dX14_release_274 (by decide) ?_
              refine lv_isub hx hb dX14_release_275 ?_
              refine lv_topi (fun z_16 ez_16 => ?_)
              have hz_16 : z_16.toInt = wn_1.toInt - 1 := by rw [ez_16]; exact jb_isub2 (rfl) ((by decide)) (by omega)
              refine j7_put hx hb hown hK hh_13 hB hAp hB16 (C := RX14) (T := TX14) (N := 74) rfl (by decide) hg_r0 (i := 48) (by decide) hly_16_48 rfl hlk_711 rfl (ty := .int) (v := .int z_16) (by decide +kernel) rfl rfl (⟨_, rfl, by omega, by omega⟩) rfl (L1 := [(r0, 16, 39, .int z_9), (r0, 16, 37, .int z_7), (r0, 16, 36, .int z_5), (r0, 16, 40, .int 0), (r0, 16, 51, .ref ywd_1), (r0, 16, 52, .ref yws_1), (r0, 16, 53, .ref ywi_1), (r0, 16, 54, .ref ywu_1), (r0, 16, 55, .ref ywe_1), (r0, 16, 49, .ref ywo_1)]) [0, 1, 2, 3, 4, 5, 6, 7, 8, 9] rfl rfl rfl dX14_release_276 (fun H_17 locs_17 hh_17 => ?_)
              clear hh_13
              have hHf_18 : jHw dC dI ca G0 r0 (WW.eraseIdx (a1.toInt).toNat) H_17 := ⟨ywd_1, yws_1, ywi_1, ywu_1, ywe_1, ywo_1, z_16, wdx_13, wsx_13, wix_13, wux_13, wex_13, wox_13, ⟨_, hg_r0⟩, ⟨hgwd_1, hgws_1, hgwi_1, hgwu_1, hgwe_1, hgwo_1⟩, hh_17.2.2.1.sub (L1 := [(r0, 16, 51, .ref ywd_1), (r0, 16, 52, .ref yws_1), (r0, 16, 53, .ref ywi_1), (r0, 16, 54, .ref ywu_1), (r0, 16, 55, .ref ywe_1), (r0, 16, 49, .ref ywo_1), (r0, 16, 48, .int z_16)]) [5, 6, 7, 8, 9, 10, 0] rfl, hh_17.2.2.2.2.2.2.2.1.sub (L1 := [(ywd_1, 206, 12, ca 1, wdx_13), (yws_1, 104, 12, ca 3, wsx_13), (ywi_1, 116, 12, ca 1, wix_13), (ywu_1, 126, 240, ca 1, wux_13), (ywe_1, 203, 12, ca 1, wex_13)]) [4, 3, 2, 1, 0] rfl, hh_17.iv 0 rfl, hwl9.era (by omega) (by omega) (by omega) hi_13_2 hi_13_3 hi_13_4 hi_13_5 hi_13_6 hi_13_7 (by omega)⟩
              have hh_19 := hh_17.sub (L1 := [(r0, 16, 48, .int z_16), (r0, 16, 39, .int z_9), (r0, 16, 37, .int z_7), (r0, 16, 36, .int z_5), (r0, 16, 40, .int 0), (r0, 16, 51, .ref ywd_1), (r0, 16, 52, .ref yws_1), (r0, 16, 53, .ref ywi_1), (r0, 16, 54, .ref ywu_1), (r0, 16, 55, .ref ywe_1), (r0, 16, 49, .ref ywo_1)]) [0, 1, 2, 3, 4, 5, 6, 7, 8, 9, 10] rfl (M1 := [(ywe_1, 203, 12, ca 1, wex_13), (ywu_1, 126, 240, ca 1, wux_13), (ywi_1, 116, 12, ca 1, wix_13), (yws_1, 104, 12, ca 3, wsx_13), (ywd_1, 206, 12, ca 1, wdx_13)]) [0, 1, 2, 3, 4] rfl (I1 := []) [] rfl
              clear hh_17
              have hh_20 := hh_19.addI (jHw.ie hHf_18)
              clear hh_19
              rw [hQ]
              exact W.vret hx hb hr (fun t ht hW => ⟨⟨(), rfl, trivial, ⟨hh_20.rt (M1 := []) [] rfl ht, by rw [ht]; exact hh_20.2.2.2.2.2.2.2.2.sub (L1 := [(jFHw, jHw dC dI ca G0 r0 (WW.eraseIdx (a1.toInt).toNat))]) [0] rfl⟩⟩, by rw [ht]; try exact hh_20.1.1, fun q h9 hq => by rw [ht]; try exact hh_20.1.2.1 q h9 hq⟩) hh_20.1.2.2 dX14_release_279
            · skip
              have c_15' : z_14.toInt < wn_1.toInt := jb_ge_n (rfl) (rfl) c_15
              obtain ⟨b9, hb9, hb1, -, -, -⟩ := hwl9.el (i := v2_13.toInt + 1) (by omega) (by omega)
              refine lv_aload_n hx hb dX14_release_80 rfl (lv_at hl 0 rfl) ?_
              refine j7_read hx hb hown hK (C := RX14) (T := TX14) (N := 74) rfl hly_16_49 hlk_91 (hh_13.at 9 rfl) dX14_release_81 ?_
              refine lv_iload_n hx hb dX14_release_84 rfl (lv_at hl 2 rfl) ?_
              refine lv_aload_n hx hb dX14_release_85 rfl (lv_at hl 0 rfl) ?_
              refine j7_read hx hb hown hK (C := RX14) (T := TX14) (N := 74) rfl hly_16_49 hlk_91 (hh_13.at 9 rfl) dX14_release_86 ?_
              refine lv_iload_n hx hb dX14_release_89 rfl (lv_at hl 2 rfl) ?_
              refine lv_iconst (v := 1) hx hb dX14_release_90 (by decide) ?_
              refine lv_iadd hx hb dX14_release_91 ?_
              refine lv_topi (fun z_21 ez_21 => ?_)
              have hz_21 : z_21.toInt = v2_13.toInt + 1 := by rw [ez_21]; exact jb_iadd2 (rfl) ((by decide)) (by omega)
              refine j7_qaldI hx hb hK2 hh_13 hB202 0 rfl (by decide) hgwo_1 (x := z_21.toInt) (rfl) (by omega) (hh_13.iv 0 rfl) dX14_release_92 (fun o_22 ho_22 heo_22 => ?_)
              rw [show z_21.toInt = (v2_13.toInt + 1) by omega] at heo_22
              rcases ho_22 with rfl | ⟨el_23, rfl, hg_el_23⟩
              · simp only [va_rf]
                have h9 : (none : Option Nat) = some b9.1 := heo_22.trans ((hi_13_2 _ (by omega)).trans (by rw [if_neg (by omega)]; exact hb1)); cases h9
              · simp only [va_rf]
                have hd_25 := hh_13.iv 0 rfl
                have hh_27 := hh_13.sub (L1 := [(r0, 16, 39, .int z_9), (r0, 16, 37, .int z_7), (r0, 16, 36, .int z_5), (r0, 16, 40, .int 0), (r0, 16, 51, .ref ywd_1), (r0, 16, 52, .ref yws_1), (r0, 16, 53, .ref ywi_1), (r0, 16, 54, .ref ywu_1), (r0, 16, 55, .ref ywe_1), (r0, 16, 49, .ref ywo_1), (r0, 16, 48, .int wn_1)]) [0, 1, 2, 3, 4, 5, 6, 7, 8, 9, 10] rfl (M1 := [(ywe_1, 203, 12, ca 1, wex_13), (ywu_1, 126, 240, ca 1, wux_13), (ywi_1, 116, 12, ca 1, wix_13), (yws_1, 104, 12, ca 3, wsx_13), (ywd_1, 206, 12, ca 1, wdx_13)]) [0, 1, 2, 3, 4] rfl (I1 := []) [] rfl
                clear hh_13
                refine j7_qastI hx hb hK2 hh_27 hB hB202 0 rfl (by decide) (by decide) rfl rfl rfl hgwo_1 (x := v2_13.toInt) (rfl) (by omega) hB14 (T := TX12) (N := 11) rfl (by decide) hg_el_23 (Or.inr ⟨_, rfl, hg_el_23⟩) hd_25 dX14_release_93 (fun H_24 locs_24 fq_26 hv_24 ho_24 hq_24 hh_24 => ?_)
                clear hh_27
                have hh_28 := hh_24.addI (hq_24.ie hgwo_1 (by decide) (by decide))
                clear hh_24
                clear hd_25
                refine lv_aload_n hx hb dX14_release_94 rfl (lv_at hl 0 rfl) ?_
                obtain ⟨v_29, hv_29, hh_30⟩ := hh_28.pin (C := RX14) (T := TX14) (N := 74) hB16 rfl (by decide) hg_r0 (i := 50) (by decide) rfl
                clear hh_28
                obtain ⟨waitGoals_31, rfl, hg_waitGoals_31⟩ := hv_29
                refine j7_read hx hb hown hK (C := RX14) (T := TX14) (N := 74) rfl hly_16_50 hlk_94 (hh_30.at 0 rfl) dX14_release_95 ?_
                refine lv_iload_n hx hb dX14_release_98 rfl (lv_at hl 2 rfl) ?_
                refine lv_aload_n hx hb dX14_release_99 rfl (lv_at hl 0 rfl) ?_
                refine j7_read hx hb hown hK (C := RX14) (T := TX14) (N := 74) rfl hly_16_50 hlk_94 (hh_30.at 0 rfl) dX14_release_100 ?_
                refine lv_iload_n hx hb dX14_release_103 rfl (lv_at hl 2 rfl) ?_
                refine lv_iconst (v := 1) hx hb dX14_release_104 (by decide) ?_
                refine lv_iadd hx hb dX14_release_105 ?_
                refine lv_topi (fun z_32 ez_32 => ?_)
                have hz_32 : z_32.toInt = v2_13.toInt + 1 := by rw [ez_32]; exact jb_iadd2 (rfl) ((by decide)) (by omega)
                refine j7_zald hx hb hK hh_30 hB103 3 rfl (by decide) hg_waitGoals_31 (x := z_32.toInt) (rfl) (by omega) dX14_release_106 (fun z_33 (hz_33 : (z_33 = 0 ∨ z_33 = 1)) => ?_)
                have hz_33' := jb_01 hz_33
                refine j7_zast hx hb hK hh_30 hB hB103 3 rfl (by decide) (by decide) rfl rfl rfl hg_waitGoals_31 (x := v2_13.toInt) (rfl) (by omega) (hz_33) (hz_33) dX14_release_107 (fun H_34 locs_34 hh_34 => ?_)
                clear hh_30
                clear hz_33'
                refine lv_aload_n hx hb dX14_release_108 rfl (lv_at hl 0 rfl) ?_
                refine j7_read hx hb hown hK (C := RX14) (T := TX14) (N := 74) rfl hly_16_51 hlk_97 (hh_34.at 5 rfl) dX14_release_109 ?_
                refine lv_iload_n hx hb dX14_release_112 rfl (lv_at hl 2 rfl) ?_
                refine lv_aload_n hx hb dX14_release_113 rfl (lv_at hl 0 rfl) ?_
                refine j7_read hx hb hown hK (C := RX14) (T := TX14) (N := 74) rfl hly_16_51 hlk_97 (hh_34.at 5 rfl) dX14_release_114 ?_
                refine lv_iload_n hx hb dX14_release_117 rfl (lv_at hl 2 rfl) ?_
                refine lv_iconst (v := 1) hx hb dX14_release_118 (by decide) ?_
                refine lv_iadd hx hb dX14_release_119 ?_
                refine lv_topi (fun z_35 ez_35 => ?_)
                have hz_35 : z_35.toInt = v2_13.toInt + 1 := by rw [ez_35]; exact jb_iadd2 (rfl) ((by decide)) (by omega)
                refine j7_ialdM hx hb hK hh_34 hB206 1 rfl (by decide) hgwd_1 (x := z_35.toInt) (rfl) (by omega) (j := 4) rfl dX14_release_120 (fun z_36 ez_36 (hz_36 : 0 ≤ z_36.toInt ∧ z_36.toInt ≤ 40) => ?_)
                have hqz_36 : z_36.toInt = jSo wdx_13 ((v2_13.toInt + 1)) := by unfold jSo; rw [ez_36, show z_35.toInt = (v2_13.toInt + 1) by omega]
                refine j7_iastU hx hb hK hh_34 hB hB206 1 rfl (by decide) (by decide) rfl 4 rfl (M1 := [(ywe_1, 203, 12, ca 1, wex_13), (ywu_1, 126, 240, ca 1, wux_13), (ywi_1, 116, 12, ca 1, wix_13), (yws_1, 104, 12, ca 3, wsx_13)]) [0, 1, 2, 3] rfl rfl rfl hgwd_1 (x := v2_13.toInt) (rfl) (by omega) (by first | omega | (refine ⟨?_, ?_⟩ <;> (first | omega | rfl | assumption | decide | exact Or.inl rfl | exact Or.inr rfl | (simp only; omega)))) dX14_release_121 (fun H_37 locs_37 fs_38 hv_37 ho_37 hh_37 => ?_)
                have hv_37 : jSo fs_38 (v2_13.toInt) = z_36.toInt := by unfold jSo; rw [hv_37]; try exact rfl
                clear hh_34
                refine lv_aload_n hx hb dX14_release_122 rfl (lv_at hl 0 rfl) ?_
                refine j7_read hx hb hown hK (C := RX14) (T := TX14) (N := 74) rfl hly_16_52 hlk_100 (hh_37.at 6 rfl) dX14_release_123 ?_
                refine lv_iload_n hx hb dX14_release_126 rfl (lv_at hl 2 rfl) ?_
                refine lv_aload_n hx hb dX14_release_127 rfl (lv_at hl 0 rfl) ?_
                refine j7_read hx hb hown hK (C := RX14) (T := TX14) (N := 74) rfl hly_16_52 hlk_100 (hh_37.at 6 rfl) dX14_release_128 ?_
                refine lv_iload_n hx hb dX14_release_131 rfl (lv_at hl 2 rfl) ?_
                refine lv_iconst (v := 1) hx hb dX14_release_132 (by decide) ?_
                refine lv_iadd hx hb dX14_release_133 ?_
                refine lv_topi (fun z_39 ez_39 => ?_)
                have hz_39 : z_39.toInt = v2_13.toInt + 1 := by rw [ez_39]; exact jb_iadd2 (rfl) ((by decide)) (by omega)
                refine j7_zaldM hx hb hK hh_37 hB104 3 rfl (by decide) hgws_1 (x := z_39.toInt) (rfl) (by omega) (j := 4) rfl dX14_release_134 (fun z_40 ez_40 (hz_40 : (z_40 = 0 ∨ z_40 = 1)) => ?_)
                have hqz_40 : z_40.toInt = jSo wsx_13 ((v2_13.toInt + 1)) := by unfold jSo; rw [ez_40, show z_39.toInt = (v2_13.toInt + 1) by omega]
                have hz_40' := jb_01 hz_40
                refine j7_zastU hx hb hK hh_37 hB hB104 3 rfl (by decide) (by decide) rfl 4 rfl (M1 := [(ywd_1, 206, 12, ca 1, fs_38), (ywe_1, 203, 12, ca 1, wex_13), (ywu_1, 126, 240, ca 1, wux_13), (ywi_1, 116, 12, ca 1, wix_13)]) [0, 1, 2, 3] rfl rfl rfl hgws_1 (x := v2_13.toInt) (rfl) (by omega) (hz_40) (hz_40) dX14_release_135 (fun H_41 locs_41 fs_42 hv_41 ho_41 hh_41 => ?_)
                have hv_41 : jSo fs_42 (v2_13.toInt) = (z_40 : Int32).toInt := by unfold jSo; rw [hv_41]
                clear hh_37
                clear hz_40'
                refine lv_aload_n hx hb dX14_release_136 rfl (lv_at hl 0 rfl) ?_
                refine j7_read hx hb hown hK (C := RX14) (T := TX14) (N := 74) rfl hly_16_53 hlk_103 (hh_41.at 7 rfl) dX14_release_137 ?_
                refine lv_iload_n hx hb dX14_release_140 rfl (lv_at hl 2 rfl) ?_
                refine lv_aload_n hx hb dX14_release_141 rfl (lv_at hl 0 rfl) ?_
                refine j7_read hx hb hown hK (C := RX14) (T := TX14) (N := 74) rfl hly_16_53 hlk_103 (hh_41.at 7 rfl) dX14_release_142 ?_
                refine lv_iload_n hx hb dX14_release_145 rfl (lv_at hl 2 rfl) ?_
                refine lv_iconst (v := 1) hx hb dX14_release_146 (by decide) ?_
                refine lv_iadd hx hb dX14_release_147 ?_
                refine lv_topi (fun z_43 ez_43 => ?_)
                have hz_43 : z_43.toInt = v2_13.toInt + 1 := by rw [ez_43]; exact jb_iadd2 (rfl) ((by decide)) (by omega)
                refine j7_ialdM hx hb hK hh_41 hB116 1 rfl (by decide) hgwi_1 (x := z_43.toInt) (rfl) (by omega) (j := 4) rfl dX14_release_148 (fun z_44 ez_44 (hz_44 : True) => ?_)
                have hqz_44 : z_44.toInt = jSo wix_13 ((v2_13.toInt + 1)) := by unfold jSo; rw [ez_44, show z_43.toInt = (v2_13.toInt + 1) by omega]
                refine j7_iastU hx hb hK hh_41 hB hB116 1 rfl (by decide) (by decide) rfl 4 rfl (M1 := [(yws_1, 104, 12, ca 3, fs_42), (ywd_1, 206, 12, ca 1, fs_38), (ywe_1, 203, 12, ca 1, wex_13), (ywu_1, 126, 240, ca 1, wux_13)]) [0, 1, 2, 3] rfl rfl rfl hgwi_1 (x := v2_13.toInt) (rfl) (by omega) (trivial) dX14_release_149 (fun H_45 locs_45 fs_46 hv_45 ho_45 hh_45 => ?_)
                have hv_45 : jSo fs_46 (v2_13.toInt) = z_44.toInt := by unfold jSo; rw [hv_45]; try exact rfl
                clear hh_41
                refine lv_aload_n hx hb dX14_release_150 rfl (lv_at hl 0 rfl) ?_
                refine j7_read hx hb hown hK (C := RX14) (T := TX14) (N := 74) rfl hly_16_55 hlk_109 (hh_45.at 9 rfl) dX14_release_151 ?_
                refine lv_iload_n hx hb dX14_release_154 rfl (lv_at hl 2 rfl) ?_
                refine lv_aload_n hx hb dX14_release_155 rfl (lv_at hl 0 rfl) ?_
                refine j7_read hx hb hown hK (C := RX14) (T := TX14) (N := 74) rfl hly_16_55 hlk_109 (hh_45.at 9 rfl) dX14_release_156 ?_
                refine lv_iload_n hx hb dX14_release_159 rfl (lv_at hl 2 rfl) ?_
                refine lv_iconst (v := 1) hx hb dX14_release_160 (by decide) ?_
                refine lv_iadd hx hb dX14_release_161 ?_
                refine lv_topi (fun z_47 ez_47 => ?_)
                have hz_47 : z_47.toInt = v2_13.toInt + 1 := by rw [ez_47]; exact jb_iadd2 (rfl) ((by decide)) (by omega)
                refine j7_ialdM hx hb hK hh_45 hB203 1 rfl (by decide) hgwe_1 (x := z_47.toInt) (rfl) (by omega) (j := 3) rfl dX14_release_162 (fun z_48 ez_48 (hz_48 : -3300 ≤ z_48.toInt ∧ z_48.toInt ≤ 20) => ?_)
                have hqz_48 : z_48.toInt = jSo wex_13 ((v2_13.toInt + 1)) := by unfold jSo; rw [ez_48, show z_47.toInt = (v2_13.toInt + 1) by omega]
                refine j7_iastU hx hb hK hh_45 hB hB203 1 rfl (by decide) (by decide) rfl 3 rfl (M1 := [(ywi_1, 116, 12, ca 1, fs_46), (yws_1, 104, 12, ca 3, fs_42), (ywd_1, 206, 12, ca 1, fs_38), (ywu_1, 126, 240, ca 1, wux_13)]) [0, 1, 2, 4] rfl rfl rfl hgwe_1 (x := v2_13.toInt) (rfl) (by omega) (by first | omega | (refine ⟨?_, ?_⟩ <;> (first | omega | rfl | assumption | decide | exact Or.inl rfl | exact Or.inr rfl | (simp only; omega)))) dX14_release_163 (fun H_49 locs_49 fs_50 hv_49 ho_49 hh_49 => ?_)
                have hv_49 : jSo fs_50 (v2_13.toInt) = z_48.toInt := by unfold jSo; rw [hv_49]; try exact rfl
                clear hh_45
                refine lv_aload_n hx hb dX14_release_164 rfl (lv_at hl 0 rfl) ?_
                obtain ⟨v_51, hv_51, hh_52⟩ := hh_49.pin (C := RX14) (T := TX14) (N := 74) hB16 rfl (by decide) hg_r0 (i := 57) (by decide) rfl
                clear hh_49
                obtain ⟨waitNameLength_53, rfl, hg_waitNameLength_53⟩ := hv_51
                refine j7_read hx hb hown hK (C := RX14) (T := TX14) (N := 74) rfl hly_16_57 hlk_116 (hh_52.at 0 rfl) dX14_release_165 ?_
                refine lv_iload_n hx hb dX14_release_168 rfl (lv_at hl 2 rfl) ?_
                refine lv_aload_n hx hb dX14_release_169 rfl (lv_at hl 0 rfl) ?_
                refine j7_read hx hb hown hK (C := RX14) (T := TX14) (N := 74) rfl hly_16_57 hlk_116 (hh_52.at 0 rfl) dX14_release_170 ?_
                refine lv_iload_n hx hb dX14_release_173 rfl (lv_at hl 2 rfl) ?_
                refine lv_iconst (v := 1) hx hb dX14_release_174 (by decide) ?_
                refine lv_iadd hx hb dX14_release_175 ?_
                refine lv_topi (fun z_54 ez_54 => ?_)
                have hz_54 : z_54.toInt = v2_13.toInt + 1 := by rw [ez_54]; exact jb_iadd2 (rfl) ((by decide)) (by omega)
                refine j7_iald hx hb hK hh_52 hB204 1 rfl (by decide) hg_waitNameLength_53 (x := z_54.toInt) (rfl) (by omega) dX14_release_176 (fun z_55 (hz_55 : -3100 ≤ z_55.toInt ∧ z_55.toInt ≤ 3100) => ?_)
                refine j7_iast hx hb hK hh_52 hB hB204 1 rfl (by decide) (by decide) rfl rfl rfl hg_waitNameLength_53 (x := v2_13.toInt) (rfl) (by omega) (by first | omega | (refine ⟨?_, ?_⟩ <;> (first | omega | rfl | assumption | decide | exact Or.inl rfl | exact Or.inr rfl | (simp only; omega)))) dX14_release_177 (fun H_56 locs_56 hh_56 => ?_)
                clear hh_52
                refine lv_iconst (v := 0) hx hb dX14_release_178 (by decide) ?_
                refine lv_istore_n (lv' := [(3, .int 0), (0, .ref r0), (1, .int a1), (2, .int v2_13)]) hx hb dX14_release_179 rfl hl (by decide) rfl (fun ls hl => ?_)
                have L180 : ∀ (N : Nat) (v3_57 : Int32) (wux_57 : Nat → Int32) (H_57 : Heap) (locs_57 : List Loc), jSt (dC, dI) B base G0 G0 EX14_releaseT s.heap 0 0 [(r0, 16, 57, .ref waitNameLength_53), (r0, 16, 50, .ref waitGoals_31), (r0, 16, 39, .int z_9), (r0, 16, 37, .int z_7), (r0, 16, 36, .int z_5), (r0, 16, 40, .int 0), (r0, 16, 51, .ref ywd_1), (r0, 16, 52, .ref yws_1), (r0, 16, 53, .ref ywi_1), (r0, 16, 54, .ref ywu_1), (r0, 16, 55, .ref ywe_1), (r0, 16, 49, .ref ywo_1), (r0, 16, 48, .int wn_1)] [(ywu_1, 126, 240, ca 1, wux_57), (ywe_1, 203, 12, ca 1, fs_50), (ywi_1, 116, 12, ca 1, fs_46), (yws_1, 104, 12, ca 3, fs_42), (ywd_1, 206, 12, ca 1, fs_38)] [([(202, 0)], jQc dC dI (ca 4) ywo_1 12 fq_26)] H_57 locs_57 → (0 ≤ v3_57.toInt ∧ v3_57.toInt ≤ 20 ∧ jwSi 240 wu_1 wux_57 20 (20 * a1.toInt) (20 * v2_13.toInt + v3_57.toInt)) → (20 - v3_57.toInt : Int) < N → ∀ ls : Array Slot, lv_has ls 4 [(0, .ref r0), (1, .int a1), (2, .int v2_13), (3, .int v3_57)] → W p l e R s m ([.ref r0, .int a1] : List Value).toArray below meth c H_57 locs_57 0 0 Q (F0 m 180 ls []) := by
                  intro N
                  induction N with
                  | zero => intro v3_57 wux_57 H_57 locs_57 hh_57  hi_57 hm; exact absurd hm (by omega)
                  | succ N L180 =>
                    intro v3_57 wux_57 H_57 locs_57 hh_57  hi_57 hm_57 ls hl
                    obtain ⟨hi_57_0, hi_57_1, hi_57_2⟩ := hi_57
                    refine lv_iload_n hx hb dX14_release_180 rfl (lv_at hl 3 rfl) ?_
                    refine lv_bipush (v := 20) hx hb dX14_release_181 (by decide) ?_
                    refine lv_icmp_ge (tgt := 217) hx hb dX14_release_183 (by decide) (fun c_58 => ?_) (fun c_58 => ?_)
                    · skip
                      have c_58' : v3_57.toInt ≥ 20 := jb_ge (rfl) ((by decide)) c_58
                      refine lv_iconst (v := 0) hx hb dX14_release_217 (by decide) ?_
                      refine lv_istore_n (lv' := [(3, .int 0), (0, .ref r0), (1, .int a1), (2, .int v2_13)]) hx hb dX14_release_218 rfl hl (by decide) rfl (fun ls hl => ?_)
                      have L219 : ∀ (N : Nat) (v3_59 : Int32) (H_59 : Heap) (locs_59 : List Loc), jSt (dC, dI) B base G0 G0 EX14_releaseT s.heap 0 0 [(r0, 16, 57, .ref waitNameLength_53), (r0, 16, 50, .ref waitGoals_31), (r0, 16, 39, .int z_9), (r0, 16, 37, .int z_7), (r0, 16, 36, .int z_5), (r0, 16, 40, .int 0), (r0, 16, 51, .ref ywd_1), (r0, 16, 52, .ref yws_1), (r0, 16, 53, .ref ywi_1), (r0, 16, 54, .ref ywu_1), (r0, 16, 55, .ref ywe_1), (r0, 16, 49, .ref ywo_1), (r0, 16, 48, .int wn_1)] [(ywu_1, 126, 240, ca 1, wux_57), (ywe_1, 203, 12, ca 1, fs_50), (ywi_1, 116, 12, ca 1, fs_46), (yws_1, 104, 12, ca 3, fs_42), (ywd_1, 206, 12, ca 1, fs_38)] [([(202, 0)], jQc dC dI (ca 4) ywo_1 12 fq_26)] H_59 locs_59 → (0 ≤ v3_59.toInt ∧ v3_59.toInt ≤ 3100) → (3100 - v3_59.toInt : Int) < N → ∀ ls : Array Slot, lv_has ls 4 [(0, .ref r0), (1, .int a1), (2, .int v2_13), (3, .int v3_59)] → W p l e R s m ([.ref r0, .int a1] : List Value).toArray below meth c H_59 locs_59 0 0 Q (F0 m 219 ls []) := by
                        intro N
                        induction N with
                        | zero => intro v3_59 H_59 locs_59 hh_59  hi_59 hm; exact absurd hm (by omega)
                        | succ N L219 =>
                          intro v3_59 H_59 locs_59 hh_59  hi_59 hm_59 ls hl
                          obtain ⟨hi_59_0, hi_59_1⟩ := hi_59
                          refine lv_iload_n hx hb dX14_release_219 rfl (lv_at hl 3 rfl) ?_
                          refine lv_aload_n hx hb dX14_release_220 rfl (lv_at hl 0 rfl) ?_
                          refine j7_read hx hb hown hK (C := RX14) (T := TX14) (N := 74) rfl hly_16_57 hlk_116 (hh_59.at 0 rfl) dX14_release_221 ?_
                          refine lv_iload_n hx hb dX14_release_224 rfl (lv_at hl 2 rfl) ?_
                          refine j7_iald hx hb hK hh_59 hB204 1 rfl (by decide) hg_waitNameLength_53 (x := v2_13.toInt) (rfl) (by omega) dX14_release_225 (fun z_60 (hz_60 : -3100 ≤ z_60.toInt ∧ z_60.toInt ≤ 3100) => ?_)
                          refine lv_icmp_ge (tgt := 263) hx hb dX14_release_226 (by decide) (fun c_61 => ?_) (fun c_61 => ?_)
                          · skip
                            have c_61' : v3_59.toInt ≥ z_60.toInt := jb_ge (rfl) (rfl) c_61
                            obtain ⟨z_62, ez_62⟩ : ∃ y : Int32, y = v2_13 + 1 := ⟨_, rfl⟩
                            refine lv_iinc (v := z_62) (lv' := [(2, .int z_62), (0, .ref r0), (1, .int a1), (3, .int v3_59)]) hx hb dX14_release_263 hl (k := 2) rfl (by rw [ez_62]; rfl) (by decide) rfl (fun ls hl => ?_)
                            have hz_62 : z_62.toInt = v2_13.toInt + 1 := by rw [ez_62]; exact jb_iadd2 (rfl) (by decide) (by omega)
                            refine lv_goto (tgt := 70) hx hb dX14_release_266 (by decide) ?_
                            exact L70 z_62 fs_38 fs_42 fs_46 wux_57 fs_50 fq_26 _ _ (hh_59.sub (L1 := [(r0, 16, 39, .int z_9), (r0, 16, 37, .int z_7), (r0, 16, 36, .int z_5), (r0, 16, 40, .int 0), (r0, 16, 51, .ref ywd_1), (r0, 16, 52, .ref yws_1), (r0, 16, 53, .ref ywi_1), (r0, 16, 54, .ref ywu_1), (r0, 16, 55, .ref ywe_1), (r0, 16, 49, .ref ywo_1), (r0, 16, 48, .int wn_1)]) [2, 3, 4, 5, 6, 7, 8, 9, 10, 11, 12] rfl (M1 := [(ywe_1, 203, 12, ca 1, fs_50), (ywu_1, 126, 240, ca 1, wux_57), (ywi_1, 116, 12, ca 1, fs_46), (yws_1, 104, 12, ca 3, fs_42), (ywd_1, 206, 12, ca 1, fs_38)]) [1, 0, 2, 3, 4] rfl (I1 := [([(202, 0)], jQc dC dI (ca 4) ywo_1 12 fq_26)]) [0] rfl) (⟨by omega, by omega, hi_13_2.s hv_24 ho_24 heo_22 (by omega) (by omega) (by omega) (by omega) (by omega), hi_13_3.s (jUpd.mk (n := 12) hv_37 ho_37 rfl (by omega)) rfl (by rw [hqz_36]) (by omega) (by omega) (by omega) (by omega) (by omega), hi_13_4.s (jUpd.mk (n := 12) hv_41 ho_41 rfl (by omega)) rfl (by rw [hqz_40]) (by omega) (by omega) (by omega) (by omega) (by omega), hi_13_5.s (jUpd.mk (n := 12) hv_45 ho_45 rfl (by omega)) rfl (by rw [hqz_44]) (by omega) (by omega) (by omega) (by omega) (by omega), hi_13_6.s (jUpd.mk (n := 12) hv_49 ho_49 rfl (by omega)) rfl (by rw [hqz_48]) (by omega) (by omega) (by omega) (by omega) (by omega), hi_57_2.h (by omega)⟩) (by omega) _ (lv_sub hl [1, 2, 0] rfl)
                          · skip
                            have c_61' : v3_59.toInt < z_60.toInt := jb_ge_n (rfl) (rfl) c_61
                            refine lv_aload_n hx hb dX14_release_229 rfl (lv_at hl 0 rfl) ?_
                            obtain ⟨v_63, hv_63, hh_64⟩ := hh_59.pin (C := RX14) (T := TX14) (N := 74) hB16 rfl (by decide) hg_r0 (i := 56) (by decide) rfl
                            clear hh_59
                            obtain ⟨waitName_65, rfl, hg_waitName_65⟩ := hv_63
                            refine j7_read hx hb hown hK (C := RX14) (T := TX14) (N := 74) rfl hly_16_56 hlk_113 (hh_64.at 0 rfl) dX14_release_230 ?_
                            refine lv_sipush (v := 3100) hx hb dX14_release_233 (by decide) ?_
                            refine lv_iload_n hx hb dX14_release_236 rfl (lv_at hl 2 rfl) ?_
                            refine lv_imul hx hb dX14_release_237 ?_
                            refine lv_topi (fun z_66 ez_66 => ?_)
                            have hz_66 : z_66.toInt = 3100 * v2_13.toInt := by rw [ez_66]; exact jb_imul2 ((by decide)) (rfl) (by omega)
                            refine lv_iload_n hx hb dX14_release_238 rfl (lv_at hl 3 rfl) ?_
                            refine lv_iadd hx hb dX14_release_239 ?_
                            refine lv_topi (fun z_67 ez_67 => ?_)
                            have hz_67 : z_67.toInt = z_66.toInt + v3_59.toInt := by rw [ez_67]; exact jb_iadd2 (rfl) (rfl) (by omega)
                            refine lv_aload_n hx hb dX14_release_240 rfl (lv_at hl 0 rfl) ?_
                            refine j7_read hx hb hown hK (C := RX14) (T := TX14) (N := 74) rfl hly_16_56 hlk_113 (hh_64.at 0 rfl) dX14_release_241 ?_
                            refine lv_sipush (v := 3100) hx hb dX14_release_244 (by decide) ?_
                            refine lv_iload_n hx hb dX14_release_247 rfl (lv_at hl 2 rfl) ?_
                            refine lv_imul hx hb dX14_release_248 ?_
                            refine lv_topi (fun z_68 ez_68 => ?_)
                            have hz_68 : z_68.toInt = 3100 * v2_13.toInt := by rw [ez_68]; exact jb_imul2 ((by decide)) (rfl) (by omega)
                            refine lv_sipush (v := 3100) hx hb dX14_release_249 (by decide) ?_
                            refine lv_iadd hx hb dX14_release_252 ?_
                            refine lv_topi (fun z_69 ez_69 => ?_)
                            have hz_69 : z_69.toInt = z_68.toInt + 3100 := by rw [ez_69]; exact jb_iadd2 (rfl) ((by decide)) (by omega)
                            refine lv_iload_n hx hb dX14_release_253 rfl (lv_at hl 3 rfl) ?_
                            refine lv_iadd hx hb dX14_release_254 ?_
                            refine lv_topi (fun z_70 ez_70 => ?_)
                            have hz_70 : z_70.toInt = z_69.toInt + v3_59.toInt := by rw [ez_70]; exact jb_iadd2 (rfl) (rfl) (by omega)
                            refine j7_iald hx hb hK hh_64 hB101 1 rfl (by decide) hg_waitName_65 (x := z_70.toInt) (rfl) (by omega) dX14_release_255 (fun z_71 (hz_71 : True) => ?_)
                            refine j7_iast hx hb hK hh_64 hB hB101 1 rfl (by decide) (by decide) rfl rfl rfl hg_waitName_65 (x := z_67.toInt) (rfl) (by omega) (trivial) dX14_release_256 (fun H_72 locs_72 hh_72 => ?_)
                            clear hh_64
                            obtain ⟨z_73, ez_73⟩ : ∃ y : Int32, y = v3_59 + 1 := ⟨_, rfl⟩
                            refine lv_iinc (v := z_73) (lv' := [(3, .int z_73), (0, .ref r0), (1, .int a1), (2, .int v2_13)]) hx hb dX14_release_257 hl (k := 3) rfl (by rw [ez_73]; rfl) (by decide) rfl (fun ls hl => ?_)
                            have hz_73 : z_73.toInt = v3_59.toInt + 1 := by rw [ez_73]; exact jb_iadd2 (rfl) (by decide) (by omega)
                            refine lv_goto (tgt := 219) hx hb dX14_release_260 (by decide) ?_
                            exact L219 z_73 _ _ (hh_72.sub (L1 := [(r0, 16, 57, .ref waitNameLength_53), (r0, 16, 50, .ref waitGoals_31), (r0, 16, 39, .int z_9), (r0, 16, 37, .int z_7), (r0, 16, 36, .int z_5), (r0, 16, 40, .int 0), (r0, 16, 51, .ref ywd_1), (r0, 16, 52, .ref yws_1), (r0, 16, 53, .ref ywi_1), (r0, 16, 54, .ref ywu_1), (r0, 16, 55, .ref ywe_1), (r0, 16, 49, .ref ywo_1), (r0, 16, 48, .int wn_1)]) [1, 2, 3, 4, 5, 6, 7, 8, 9, 10, 11, 12, 13] rfl (M1 := [(ywu_1, 126, 240, ca 1, wux_57), (ywe_1, 203, 12, ca 1, fs_50), (ywi_1, 116, 12, ca 1, fs_46), (yws_1, 104, 12, ca 3, fs_42), (ywd_1, 206, 12, ca 1, fs_38)]) [0, 1, 2, 3, 4] rfl (I1 := [([(202, 0)], jQc dC dI (ca 4) ywo_1 12 fq_26)]) [0] rfl) (by first | omega | (refine ⟨?_, ?_⟩ <;> (first | omega | rfl | assumption | decide | exact Or.inl rfl | exact Or.inr rfl | (simp only; omega)))) (by omega) _ (lv_sub hl [1, 2, 3, 0] rfl)
                      exact L219 (3100 - (0 : Int32).toInt : Int).toNat.succ 0 _ _ hh_57 (by first | omega | (refine ⟨?_, ?_⟩ <;> (first | omega | rfl | assumption | decide | exact Or.inl rfl | exact Or.inr rfl | (simp only; omega)))) (by omega) _ (lv_sub hl [1, 2, 3, 0] rfl)
                    · skip
                      have c_58' : v3_57.toInt < 20 := jb_ge_n (rfl) ((by decide)) c_58
                      refine lv_aload_n hx hb dX14_release_186 rfl (lv_at hl 0 rfl) ?_
                      refine j7_read hx hb hown hK (C := RX14) (T := TX14) (N := 74) rfl hly_16_54 hlk_106 (hh_57.at 9 rfl) dX14_release_187 ?_
                      refine lv_bipush (v := 20) hx hb dX14_release_190 (by decide) ?_
                      refine lv_iload_n hx hb dX14_release_192 rfl (lv_at hl 2 rfl) ?_
                      refine lv_imul hx hb dX14_release_193 ?_
                      refine lv_topi (fun z_74 ez_74 => ?_)
                      have hz_74 : z_74.toInt = 20 * v2_13.toInt := by rw [ez_74]; exact jb_imul2 ((by decide)) (rfl) (by omega)
                      refine lv_iload_n hx hb dX14_release_194 rfl (lv_at hl 3 rfl) ?_
                      refine lv_iadd hx hb dX14_release_195 ?_
                      refine lv_topi (fun z_75 ez_75 => ?_)
                      have hz_75 : z_75.toInt = z_74.toInt + v3_57.toInt := by rw [ez_75]; exact jb_iadd2 (rfl) (rfl) (by omega)
                      refine lv_aload_n hx hb dX14_release_196 rfl (lv_at hl 0 rfl) ?_
                      refine j7_read hx hb hown hK (C := RX14) (T := TX14) (N := 74) rfl hly_16_54 hlk_106 (hh_57.at 9 rfl) dX14_release_197 ?_
                      refine lv_bipush (v := 20) hx hb dX14_release_200 (by decide) ?_
                      refine lv_iload_n hx hb dX14_release_202 rfl (lv_at hl 2 rfl) ?_
                      refine lv_imul hx hb dX14_release_203 ?_
                      refine lv_topi (fun z_76 ez_76 => ?_)
                      have hz_76 : z_76.toInt = 20 * v2_13.toInt := by rw [ez_76]; exact jb_imul2 ((by decide)) (rfl) (by omega)
                      refine lv_bipush (v := 20) hx hb dX14_release_204 (by decide) ?_
                      refine lv_iadd hx hb dX14_release_206 ?_
                      refine lv_topi (fun z_77 ez_77 => ?_)
                      have hz_77 : z_77.toInt = z_76.toInt + 20 := by rw [ez_77]; exact jb_iadd2 (rfl) ((by decide)) (by omega)
                      refine lv_iload_n hx hb dX14_release_207 rfl (lv_at hl 3 rfl) ?_
                      refine lv_iadd hx hb dX14_release_208 ?_
                      refine lv_topi (fun z_78 ez_78 => ?_)
                      have hz_78 : z_78.toInt = z_77.toInt + v3_57.toInt := by rw [ez_78]; exact jb_iadd2 (rfl) (rfl) (by omega)
                      refine j7_ialdM hx hb hK hh_57 hB126 1 rfl (by decide) hgwu_1 (x := z_78.toInt) (rfl) (by omega) (j := 0) rfl dX14_release_209 (fun z_79 ez_79 (hz_79 : True) => ?_)
                      have hqz_79 : z_79.toInt = jSo wux_57 ((((20 * v2_13.toInt) + 20) + v3_57.toInt)) := by unfold jSo; rw [ez_79, show z_78.toInt = (((20 * v2_13.toInt) + 20) + v3_57.toInt) by omega]
                      refine j7_iastU hx hb hK hh_57 hB hB126 1 rfl (by decide) (by decide) rfl 0 rfl (M1 := [(ywe_1, 203, 12, ca 1, fs_50), (ywi_1, 116, 12, ca 1, fs_46), (yws_1, 104, 12, ca 3, fs_42), (ywd_1, 206, 12, ca 1, fs_38)]) [1, 2, 3, 4] rfl rfl rfl hgwu_1 (x := z_75.toInt) (rfl) (by omega) (trivial) dX14_release_210 (fun H_80 locs_80 fs_81 hv_80 ho_80 hh_80 => ?_)
                      have hv_80 : jSo fs_81 (z_75.toInt) = z_79.toInt := by unfold jSo; rw [hv_80]; try exact rfl
                      rw [show z_75.toInt = ((20 * v2_13.toInt) + v3_57.toInt) by omega] at hv_80 ho_80
                      clear hh_57
                      obtain ⟨z_82, ez_82⟩ : ∃ y : Int32, y = v3_57 + 1 := ⟨_, rfl⟩
                      refine lv_iinc (v := z_82) (lv' := [(3, .int z_82), (0, .ref r0), (1, .int a1), (2, .int v2_13)]) hx hb dX14_release_211 hl (k := 3) rfl (by rw [ez_82]; rfl) (by decide) rfl (fun ls hl => ?_)
                      have hz_82 : z_82.toInt = v3_57.toInt + 1 := by rw [ez_82]; exact jb_iadd2 (rfl) (by decide) (by omega)
                      refine lv_goto (tgt := 180) hx hb dX14_release_214 (by decide) ?_
                      exact L180 z_82 fs_81 _ _ hh_80 (⟨by omega, by omega, hi_57_2.s (jUpd.mk (n := 240) hv_80 ho_80 rfl (by omega)) (by omega) (by rw [hqz_79]; congr 1; omega) (by omega) (by omega) (by omega) (by omega) (by omega)⟩) (by omega) _ (lv_sub hl [1, 2, 3, 0] rfl)
                exact L180 (20 - (0 : Int32).toInt : Int).toNat.succ 0 wux_13 _ _ (hh_56.sub (L1 := [(r0, 16, 57, .ref waitNameLength_53), (r0, 16, 50, .ref waitGoals_31), (r0, 16, 39, .int z_9), (r0, 16, 37, .int z_7), (r0, 16, 36, .int z_5), (r0, 16, 40, .int 0), (r0, 16, 51, .ref ywd_1), (r0, 16, 52, .ref yws_1), (r0, 16, 53, .ref ywi_1), (r0, 16, 54, .ref ywu_1), (r0, 16, 55, .ref ywe_1), (r0, 16, 49, .ref ywo_1), (r0, 16, 48, .int wn_1)]) [0, 1, 2, 3, 4, 5, 6, 7, 8, 9, 10, 11, 12] rfl (M1 := [(ywu_1, 126, 240, ca 1, wux_13), (ywe_1, 203, 12, ca 1, fs_50), (ywi_1, 116, 12, ca 1, fs_46), (yws_1, 104, 12, ca 3, fs_42), (ywd_1, 206, 12, ca 1, fs_38)]) [4, 0, 1, 2, 3] rfl (I1 := [([(202, 0)], jQc dC dI (ca 4) ywo_1 12 fq_26)]) [0] rfl) (⟨by omega, by omega, hi_13_7.h (by omega)⟩) (by omega) _ (lv_sub hl [1, 2, 3, 0] rfl)
        exact L70 (wn_1.toInt - (a1 : Int32).toInt : Int).toNat.succ a1 wd_1 ws_1 wi_1 wu_1 we_1 wo_1 _ _ (hh_11.sub (L1 := [(r0, 16, 39, .int z_9), (r0, 16, 37, .int z_7), (r0, 16, 36, .int z_5), (r0, 16, 40, .int 0), (r0, 16, 51, .ref ywd_1), (r0, 16, 52, .ref yws_1), (r0, 16, 53, .ref ywi_1), (r0, 16, 54, .ref ywu_1), (r0, 16, 55, .ref ywe_1), (r0, 16, 49, .ref ywo_1), (r0, 16, 48, .int wn_1)]) [0, 1, 2, 3, 4, 5, 6, 7, 8, 9, 10] rfl (M1 := [(ywe_1, 203, 12, ca 1, we_1), (ywu_1, 126, 240, ca 1, wu_1), (ywi_1, 116, 12, ca 1, wi_1), (yws_1, 104, 12, ca 3, ws_1), (ywd_1, 206, 12, ca 1, wd_1)]) [4, 3, 2, 1, 0] rfl (I1 := [([(202, 0)], jQc dC dI (ca 4) ywo_1 12 wo_1)]) [0] rfl) (⟨by omega, by omega, jwSq.st (by omega), jwSi.st (by omega), jwSi.st (by omega), jwSi.st (by omega), jwSi.st (by omega), jwSi.st (by omega)⟩) (by omega) _ (lv_sub hl [1, 2, 0] rfl)
      · skip
        have c_12' : v2_11.toInt < z_9.toInt := jb_ge_n (rfl) (rfl) c_12
        refine lv_aload_n hx hb dX14_release_45 rfl (lv_at hl 0 rfl) ?_
        obtain ⟨v_83, hv_83, hh_84⟩ := hh_11.pin (C := RX14) (T := TX14) (N := 74) hB16 rfl (by decide) hg_r0 (i := 38) (by decide) rfl
        clear hh_11
        obtain ⟨idUnits_85, rfl, hg_idUnits_85⟩ := hv_83
        refine j7_read hx hb hown hK (C := RX14) (T := TX14) (N := 74) rfl hly_16_38 hlk_68 (hh_84.at 0 rfl) dX14_release_46 ?_
        refine lv_iload_n hx hb dX14_release_49 rfl (lv_at hl 2 rfl) ?_
        refine lv_aload_n hx hb dX14_release_50 rfl (lv_at hl 0 rfl) ?_
        refine j7_read hx hb hown hK (C := RX14) (T := TX14) (N := 74) rfl hly_16_54 hlk_106 (hh_84.at 8 rfl) dX14_release_51 ?_
        refine lv_bipush (v := 20) hx hb dX14_release_54 (by decide) ?_
        refine lv_iload_n hx hb dX14_release_56 rfl (lv_at hl 1 rfl) ?_
        refine lv_imul hx hb dX14_release_57 ?_
        refine lv_topi (fun z_86 ez_86 => ?_)
        have hz_86 : z_86.toInt = 20 * a1.toInt := by rw [ez_86]; exact jb_imul2 ((by decide)) (rfl) (by omega)
        refine lv_iload_n hx hb dX14_release_58 rfl (lv_at hl 2 rfl) ?_
        refine lv_iadd hx hb dX14_release_59 ?_
        refine lv_topi (fun z_87 ez_87 => ?_)
        have hz_87 : z_87.toInt = z_86.toInt + v2_11.toInt := by rw [ez_87]; exact jb_iadd2 (rfl) (rfl) (by omega)
        refine j7_ialdM hx hb hK hh_84 hB126 1 rfl (by decide) hgwu_1 (x := z_87.toInt) (rfl) (by omega) (j := 3) rfl dX14_release_60 (fun z_88 ez_88 (hz_88 : True) => ?_)
        have hqz_88 : z_88.toInt = jSo wu_1 (((20 * a1.toInt) + v2_11.toInt)) := by unfold jSo; rw [ez_88, show z_87.toInt = ((20 * a1.toInt) + v2_11.toInt) by omega]
        refine j7_iast hx hb hK hh_84 hB hB101 1 rfl (by decide) (by decide) rfl rfl rfl hg_idUnits_85 (x := v2_11.toInt) (rfl) (by omega) (trivial) dX14_release_61 (fun H_89 locs_89 hh_89 => ?_)
        clear hh_84
        obtain ⟨z_90, ez_90⟩ : ∃ y : Int32, y = v2_11 + 1 := ⟨_, rfl⟩
        refine lv_iinc (v := z_90) (lv' := [(2, .int z_90), (0, .ref r0), (1, .int a1)]) hx hb dX14_release_62 hl (k := 2) rfl (by rw [ez_90]; rfl) (by decide) rfl (fun ls hl => ?_)
        have hz_90 : z_90.toInt = v2_11.toInt + 1 := by rw [ez_90]; exact jb_iadd2 (rfl) (by decide) (by omega)
        refine lv_goto (tgt := 37) hx hb dX14_release_65 (by decide) ?_
        exact L37 z_90 _ _ (hh_89.sub (L1 := [(r0, 16, 39, .int z_9), (r0, 16, 37, .int z_7), (r0, 16, 36, .int z_5), (r0, 16, 40, .int 0), (r0, 16, 51, .ref ywd_1), (r0, 16, 52, .ref yws_1), (r0, 16, 53, .ref ywi_1), (r0, 16, 54, .ref ywu_1), (r0, 16, 55, .ref ywe_1), (r0, 16, 49, .ref ywo_1), (r0, 16, 48, .int wn_1)]) [1, 2, 3, 4, 5, 6, 7, 8, 9, 10, 11] rfl (M1 := [(ywd_1, 206, 12, ca 1, wd_1), (yws_1, 104, 12, ca 3, ws_1), (ywi_1, 116, 12, ca 1, wi_1), (ywu_1, 126, 240, ca 1, wu_1), (ywe_1, 203, 12, ca 1, we_1)]) [0, 1, 2, 3, 4] rfl (I1 := [([(202, 0)], jQc dC dI (ca 4) ywo_1 12 wo_1)]) [0] rfl) (by first | omega | (refine ⟨?_, ?_⟩ <;> (first | omega | rfl | assumption | decide | exact Or.inl rfl | exact Or.inr rfl | (simp only; omega)))) (by omega) _ (lv_sub hl [1, 2, 0] rfl)
  exact L37 (20 - (0 : Int32).toInt : Int).toNat.succ 0 _ _ hh_10 (by first | omega | (refine ⟨?_, ?_⟩ <;> (first | omega | rfl | assumption | decide | exact Or.inl rfl | exact Or.inr rfl | (simp only; omega)))) (by omega) _ (lv_sub hl [1, 2, 0] rfl)
end
section
-- p8: the reference's scheduler as the machine: what binds its rows to Z
def jrNo (fd : Nat → Option Nat) : Option Nat → Int
  | none => -1
  | some x => jrNu fd x
section J85
variable {t : jDtr} {q : jXg} {fd co : Nat → Option Nat} {dc : Int} {cs cl : Nat → Int32} {W : List jwA} {ol nw td : Nat} {S : Int × (Int → jdD)} {Z : jwSt}
theorem jrZ.rw {d a : Nat} (h : jrZ t q fd dc co cs cl W ol nw td S Z) (hd : (d : Int) < dc) (ha : fd d = some a) (k : Int) : jwR S d k = jcR (t.tx a) (t.ln a).toInt k.toNat := by
  unfold jwR
  rw [h.ln hd ha, jcR.cg (h.l0 a).1 (h.tx hd ha)]
end J85
section J87
variable {t : jDtr} {q : jXg} {fd co : Nat → Option Nat} {dc : Int} {cs cl : Nat → Int32} {W : List jwA} {ol nw td : Nat} {S : Int × (Int → jdD)} {Z : jwSt}
end J87
end
section
-- p8: the reference's scheduler as one entry: S, Z
theorem jAg.sub {D : va_G} {G : jT} {F F1 : List (Nat × Nat)} {H H1 : Heap} (h : jAg D G F H H1) (hs : F1.all (fun x => F.contains x) = true) : jAg D G F1 H H1 := by
  have key : ∀ x, F1.contains x = true → F.contains x = true := fun x hx => (List.all_eq_true.mp hs) x (List.elem_iff.mp hx)
  exact ⟨fun a k n i v ha hm hf => h.1 a k n i v ha (key _ hm) hf, fun a k n ha k1 k2 hm => h.2 a k n ha k1 k2 (key _ hm)⟩
abbrev jFBZ : List (Nat × Nat) := jFHd ++ jFrd ++ jFxd ++ jFHc ++ jFHw ++ jFHk ++ jFHo
def jBZ (dC : Nat → ClassId) (dI : Nat → Nat → Nat) (ca : Nat → ClassId) (G : jT) (r : Nat) (S : Int × (Int → jdD)) (Z : jwSt) (H : Heap) : Prop := ∃ (t : jDtr) (q : jXg) (fd : Nat → Option Nat) (dc : Int32) (co : Nat → Option Nat) (cs cl : Nat → Int32) (W : List jwA) (ol nw td : Nat), jHd dC dI ca G r fd dc H ∧ jRD dC dI ca G none t H ∧ jXD dC dI ca G none q H ∧ jHc dC dI ca G r co cs cl H ∧ jHw dC dI ca G r W H ∧ jHk dC dI ca G r Z.2.2.2 H ∧ jHo dC dI ca G r ol nw td H ∧ jrZ t q fd dc.toInt co cs cl W ol nw td S Z
section J86
variable {dC : Nat → ClassId} {dI : Nat → Nat → Nat} {ca : Nat → ClassId} {G G1 : jT} {H : Heap} {r : Nat} {S : Int × (Int → jdD)} {Z : jwSt}
theorem jBZ.ie {dC : Nat → ClassId} {dI : Nat → Nat → Nat} {ca : Nat → ClassId} {G : jT} {H : Heap} {r : Nat} {S : Int × (Int → jdD)} {Z : jwSt} (h : jBZ dC dI ca G r S Z H) : ((jFBZ, jBZ dC dI ca G r S Z) : jIv).2 H ∧ ∀ H1 H2 : Heap, jAg (dC, dI) G ((jFBZ, jBZ dC dI ca G r S Z) : jIv).1 H1 H2 → ((jFBZ, jBZ dC dI ca G r S Z) : jIv).2 H1 → ((jFBZ, jBZ dC dI ca G r S Z) : jIv).2 H2 := by
  refine ⟨h, fun H1 H2 hA hq => ?_⟩
  obtain ⟨t, q, fd, dc, co, cs, cl, W, ol, nw, td, h1, h2, h3, h4, h5, h6, h7, h8⟩ := hq
  exact ⟨t, q, fd, dc, co, cs, cl, W, ol, nw, td, (jHd.ie h1).2 H1 H2 (hA.sub rfl) h1, (jRD.ie h2).2 H1 H2 (hA.sub rfl) h2, (jXD.ie h3).2 H1 H2 (hA.sub rfl) h3, (jHc.ie h4).2 H1 H2 (hA.sub rfl) h4, (jHw.ie h5).2 H1 H2 (hA.sub rfl) h5, (jHk.ie h6).2 H1 H2 (hA.sub rfl) h6, (jHo.ie h7).2 H1 H2 (hA.sub rfl) h7, h8⟩
end J86
end
