section
def EX14_isIdOfR : List (Nat × Nat) := []
def EX14_modifiedT : List (Nat × Nat) := [(16, 3), (16, 4), (16, 6), (16, 36), (16, 37), (16, 39), (16, 40), (16, 48), (101, 0), (103, 0), (104, 0), (116, 0), (126, 0), (202, 0), (203, 0), (204, 0), (206, 0)]
set_option maxHeartbeats 4000000 in
set_option maxRecDepth 20000 in
theorem uX14_isIdOfR (l : Launch) (dC : Nat → ClassId) (dI : Nat → Nat → Nat) (ca : Nat → ClassId) (base : Nat) (B : jF) (hB : jBok B) (hAp : jAp (dC, dI)) (hB16 : ∀ n G a H, B 16 n G a H ↔ jOb (dC, dI) 16 74 (F16 n G) a H) (hB104 : ∀ n G a H, B 104 n G a H ↔ jAr (dC, dI) (ca 3) (fun j z => (z = 0 ∨ z = 1)) n a H) (hB116 : ∀ n G a H, B 116 n G a H ↔ jAr (dC, dI) (ca 1) (fun j z => True) n a H) (hB117 : ∀ n G a H, B 117 n G a H ↔ jAr (dC, dI) (ca 1) (fun j z => True) n a H) (hB122 : ∀ n G a H, B 122 n G a H ↔ jAr (dC, dI) (ca 1) (fun j z => 0 ≤ z.toInt ∧ z.toInt ≤ 3100) n a H) (hB123 : ∀ n G a H, B 123 n G a H ↔ jAr (dC, dI) (ca 1) (fun j z => 0 ≤ z.toInt ∧ z.toInt ≤ 3100) n a H) (hB125 : ∀ n G a H, B 125 n G a H ↔ jAr (dC, dI) (ca 1) (fun j z => True) n a H) (hB126 : ∀ n G a H, B 126 n G a H ↔ jAr (dC, dI) (ca 1) (fun j z => True) n a H) (hB127 : ∀ n G a H, B 127 n G a H ↔ jAr (dC, dI) (ca 1) (fun j z => True) n a H) (hB203 : ∀ n G a H, B 203 n G a H ↔ jAr (dC, dI) (ca 1) (fun j z => -3300 ≤ z.toInt ∧ z.toInt ≤ 20) n a H) (G0 : jT) (H0 : Heap) (r0 : Nat) (a1 : Int32) (a2 : Int32) (zm : Nat) (xh : Nat) (xn : Nat) (xf : Nat) (xt : Nat) (xb : Nat) (xe : Nat) (xi : Nat) (xg : Nat) (xp : Nat) (T9 : Nat → Int → Int) (nd9 po9 : Int) (WW : List jwA) (ms : Nat → Int32) (mh : Nat → Int32) (mx : Nat → Int32) (mf : Nat → Int32) (mt : Nat → Int32) (mb : Nat → Int32) (me : Nat → Int32) (mi : Nat → Int32) (mn : Nat → Int32) (fu : Nat → Int32) : Met l yX14_isIdOf (jw yX14_isIdOf cX14_isIdOf 5 (some .boolean)) ({ frames := 0, cells := 0, slots := 0, locals := 0 }) (va_Pc [.ref r0, .int a1, .int a2] (fun U => U.heap = H0 ∧ jX B base G0 [] H0 ∧ jG dC dI ca base U ∧ G0 r0 = some (16, 0) ∧ G0 zm = some (117, 3100) ∧ G0 xh = some (118, 3100) ∧ G0 xn = some (119, 3100) ∧ G0 xf = some (120, 3100) ∧ G0 xt = some (121, 3100) ∧ G0 xb = some (122, 3100) ∧ G0 xe = some (123, 3100) ∧ G0 xi = some (124, 3100) ∧ G0 xg = some (125, 3100) ∧ G0 xp = some (127, 3300) ∧ jP (dC, dI) G0 H0 [(r0, 16, 17, .ref zm), (r0, 16, 18, .ref xh), (r0, 16, 19, .ref xn), (r0, 16, 20, .ref xf), (r0, 16, 21, .ref xt), (r0, 16, 22, .ref xb), (r0, 16, 23, .ref xe), (r0, 16, 24, .ref xi), (r0, 16, 25, .ref xg), (r0, 16, 27, .ref xp)] ∧ jMc (dC, dI) G0 H0 [(zm, 117, 3100, ca 1, ms), (xh, 118, 3100, ca 1, mh), (xn, 119, 3100, ca 1, mx), (xf, 120, 3100, ca 1, mf), (xt, 121, 3100, ca 1, mt), (xb, 122, 3100, ca 1, mb), (xe, 123, 3100, ca 1, me), (xi, 124, 3100, ca 3, mi), (xg, 125, 3100, ca 1, mn), (xp, 127, 3300, ca 1, fu)] ∧ jIs (dC, dI) G0 H0 [(jFHw, jHw dC dI ca G0 r0 WW)] ∧ 0 ≤ nd9 ∧ nd9 ≤ 3100 ∧ jjRB T9 nd9 po9 ms mh mx mf mt mb me mi mn fu ∧ 0 ≤ a1.toInt ∧ a1.toInt < (WW.length : Int) ∧ 0 ≤ a2.toInt ∧ a2.toInt < nd9 ∧ (jqK T9 nd9 a2.toInt = 4 ∨ (jqK T9 nd9 a2.toInt = 3 ∧ T9 3 a2.toInt ≤ 20)))) (va_Qi (S := Unit) (fun r u => (r = 0 ∨ r = 1) ∧ (((r.toInt = 1 ∧ jwIq WW a1.toInt T9 nd9 a2.toInt) ∨ (r.toInt = 0 ∧ ¬ jwIq WW a1.toInt T9 nd9 a2.toInt)))) (fun u t => (jRt (dC, dI) B base G0 EX14_isIdOfR H0 [] t.heap) ∧ jIs (dC, dI) G0 t.heap [(jFHw, jHw dC dI ca G0 r0 WW)]) (jA base)) 0 0 (jA base) := by
  refine Met.ofW (cc := cX14_isIdOf) (maxL := 5) (ret := (some .boolean)) (by decide) rfl ?_
  intro p e s m args below meth c s₁ Bd hml hv
  obtain ⟨rfl, hH0, hX, hG, hg_r0, hg_zm, hg_xh, hg_xn, hg_xf, hg_xt, hg_xb, hg_xe, hg_xi, hg_xg, hg_xp, hP0, hM0, hI0, hp0, hp1, hp2, hp3, hp4, hp5, hp6, hp7⟩ := hv
  have hK := hG.1
  have hx := Bd.exec
  have hb := Bd.bytes
  have hr := Bd.returns
  have hts := atoms_spec (ws := (jw yX14_isIdOf cX14_isIdOf 5 (some .boolean))) Bd.pre
  have htw : ∀ w ∈ jWl, w.before _ s = true := fun w h => hts w (List.mem_cons_of_mem _ h)
  have hown : s.vm.findClass RX14 = some m.cls := findClass_of_methodNamed Bd.named
  have hlocks := Bd.notSynchronized
  obtain ⟨Q, hQ⟩ : ∃ Q, Q = MQ below (va_Qi (S := Unit) (fun r u => (r = 0 ∨ r = 1) ∧ (((r.toInt = 1 ∧ jwIq WW a1.toInt T9 nd9 a2.toInt) ∨ (r.toInt = 0 ∧ ¬ jwIq WW a1.toInt T9 nd9 a2.toInt)))) (fun u t => (jRt (dC, dI) B base G0 EX14_isIdOfR H0 [] t.heap) ∧ jIs (dC, dI) G0 t.heap [(jFHw, jHw dC dI ca G0 r0 WW)]) (jA base)) ([.ref r0, .int a1, .int a2] : List Value).toArray s 0 0 (jA base) := ⟨_, rfl⟩
  rw [← hQ]
  have hl := lv_entry ([.ref r0, .int a1, .int a2]) (n := 5) (Nat.le_of_ble_eq_true rfl)
  rw [lg_entry_eq]
  generalize (lg_sl ([.ref r0, .int a1, .int a2]) ++ List.replicate (5 - (lg_sl ([.ref r0, .int a1, .int a2])).length) Slot.unset).toArray = ls at hl ⊢
  have hl : lv_has ls 5 [(0, .ref r0), (1, .int a1), (2, .int a2)] := hl
  generalize hR : (headSpec (jw yX14_isIdOf cX14_isIdOf 5 (some .boolean)) ({ frames := 0, cells := 0, slots := 0, locals := 0 })).room = R
  subst hH0
  have hh : jSt (dC, dI) B base G0 G0 EX14_isIdOfR s.heap 0 0 [(r0, 16, 17, .ref zm), (r0, 16, 18, .ref xh), (r0, 16, 19, .ref xn), (r0, 16, 20, .ref xf), (r0, 16, 21, .ref xt), (r0, 16, 22, .ref xb), (r0, 16, 23, .ref xe), (r0, 16, 24, .ref xi), (r0, 16, 25, .ref xg), (r0, 16, 27, .ref xp)] [(zm, 117, 3100, ca 1, ms), (xh, 118, 3100, ca 1, mh), (xn, 119, 3100, ca 1, mx), (xf, 120, 3100, ca 1, mf), (xt, 121, 3100, ca 1, mt), (xb, 122, 3100, ca 1, mb), (xe, 123, 3100, ca 1, me), (xi, 124, 3100, ca 3, mi), (xg, 125, 3100, ca 1, mn), (xp, 127, 3300, ca 1, fu)] [(jFHw, jHw dC dI ca G0 r0 WW)] s.heap [] := jSt.start hX hP0 hM0 hI0
  clear hX hP0
  have hk0 : (0 : Int32).toInt = 0 := by decide
  have hk1 : (1 : Int32).toInt = 1 := by decide
  have hk4 : (4 : Int32).toInt = 4 := by decide
  have hk20 : (20 : Int32).toInt = 20 := by decide
  have hly_16_17 := htw (u_lay RX14 TX14 17) (jWc_wsX140 _ (u_in_lay (by decide)))
  have hly_16_22 := htw (u_lay RX14 TX14 22) (jWc_wsX140 _ (u_in_lay (by decide)))
  have hly_16_23 := htw (u_lay RX14 TX14 23) (jWc_wsX140 _ (u_in_lay (by decide)))
  have hly_16_25 := htw (u_lay RX14 TX14 25) (jWc_wsX140 _ (u_in_lay (by decide)))
  have hly_16_27 := htw (u_lay RX14 TX14 27) (jWc_wsX140 _ (u_in_lay (by decide)))
  have hly_16_52 := htw (u_lay RX14 TX14 52) (jWc_wsX140 _ (u_in_lay (by decide)))
  have hly_16_53 := htw (u_lay RX14 TX14 53) (jWc_wsX140 _ (u_in_lay (by decide)))
  have hly_16_54 := htw (u_lay RX14 TX14 54) (jWc_wsX140 _ (u_in_lay (by decide)))
  have hly_16_55 := htw (u_lay RX14 TX14 55) (jWc_wsX140 _ (u_in_lay (by decide)))
  have hlk_100 := (htw (.fieldLink RX14 100 "ProofServerModel" "waitString" "[Z") (jWr_12 _ (List.mem_of_getElem? (i := 3) rfl)))
  have hlk_37 := (htw (.fieldLink RX14 37 "ProofServerModel" "sort" "[I") (jWr_11 _ (List.mem_of_getElem? (i := 4) rfl)))
  have hlk_103 := (htw (.fieldLink RX14 103 "ProofServerModel" "waitInt" "[I") (jWr_12 _ (List.mem_of_getElem? (i := 4) rfl)))
  have hlk_62 := (htw (.fieldLink RX14 62 "ProofServerModel" "ints" "[I") (jWr_11 _ (List.mem_of_getElem? (i := 13) rfl)))
  have hlk_109 := (htw (.fieldLink RX14 109 "ProofServerModel" "waitLength" "[I") (jWr_12 _ (List.mem_of_getElem? (i := 6) rfl)))
  have hlk_55 := (htw (.fieldLink RX14 55 "ProofServerModel" "to" "[I") (jWr_11 _ (List.mem_of_getElem? (i := 10) rfl)))
  have hlk_52 := (htw (.fieldLink RX14 52 "ProofServerModel" "from" "[I") (jWr_11 _ (List.mem_of_getElem? (i := 9) rfl)))
  have hlk_106 := (htw (.fieldLink RX14 106 "ProofServerModel" "waitUnits" "[I") (jWr_12 _ (List.mem_of_getElem? (i := 5) rfl)))
  have hlk_65 := (htw (.fieldLink RX14 65 "ProofServerModel" "pool" "[I") (jWr_11 _ (List.mem_of_getElem? (i := 14) rfl)))
  have hrg_a1 := jb_rng a1
  have hrg_a2 := jb_rng a2
  obtain ⟨ywd_1, yws_1, ywi_1, ywu_1, ywe_1, ywo_1, wn_1, wd_1, ws_1, wi_1, wu_1, we_1, wo_1, -, ⟨hgwd_1, hgws_1, hgwi_1, hgwu_1, hgwe_1, hgwo_1⟩, hoP_1, hoM_1, hqwo_1, hoR_1⟩ := hh.iv 0 rfl
  have hh_2 := ((hh.sub (L1 := [(r0, 16, 17, .ref zm), (r0, 16, 18, .ref xh), (r0, 16, 19, .ref xn), (r0, 16, 20, .ref xf), (r0, 16, 21, .ref xt), (r0, 16, 22, .ref xb), (r0, 16, 23, .ref xe), (r0, 16, 24, .ref xi), (r0, 16, 25, .ref xg), (r0, 16, 27, .ref xp)]) [0, 1, 2, 3, 4, 5, 6, 7, 8, 9] rfl (M1 := [(zm, 117, 3100, ca 1, ms), (xh, 118, 3100, ca 1, mh), (xn, 119, 3100, ca 1, mx), (xf, 120, 3100, ca 1, mf), (xt, 121, 3100, ca 1, mt), (xb, 122, 3100, ca 1, mb), (xe, 123, 3100, ca 1, me), (xi, 124, 3100, ca 3, mi), (xg, 125, 3100, ca 1, mn), (xp, 127, 3300, ca 1, fu)]) [0, 1, 2, 3, 4, 5, 6, 7, 8, 9] rfl (I1 := []) [] rfl).more hoP_1).moreM hoM_1
  clear hh
  have hh_3 := hh_2.addI (jQc.ie hqwo_1 hgwo_1 (by decide) (by decide))
  clear hh_2
  have hwl9 := hoR_1
  have hwb9 := And.intro hoR_1.1 hoR_1.2.1
  obtain ⟨a9, ha9, ha1, ha2, ha3, ha4⟩ := hwl9.el (i := a1.toInt) (by omega) (by omega)
  have hst9 := hp2.str (a := a2.toInt) (by omega) (by omega)
  refine lv_aload_n hx hb dX14_isIdOf_0 rfl (lv_at hl 0 rfl) ?_
  refine j7_read hx hb hown hK (C := RX14) (T := TX14) (N := 74) rfl hly_16_52 hlk_100 (hh_3.at 1 rfl) dX14_isIdOf_1 ?_
  refine lv_iload_n hx hb dX14_isIdOf_4 rfl (lv_at hl 1 rfl) ?_
  refine j7_zaldM hx hb hK hh_3 hB104 3 rfl (by decide) hgws_1 (x := a1.toInt) (rfl) (by omega) (j := 1) rfl dX14_isIdOf_5 (fun z_4 ez_4 (hz_4 : (z_4 = 0 ∨ z_4 = 1)) => ?_)
  have hqz_4 : z_4.toInt = jSo ws_1 (a1.toInt) := by unfold jSo; rw [ez_4]
  have hz_4' := jb_01 hz_4
  refine lv_aload_n hx hb dX14_isIdOf_6 rfl (lv_at hl 0 rfl) ?_
  refine j7_read hx hb hown hK (C := RX14) (T := TX14) (N := 74) rfl hly_16_17 hlk_37 (hh_3.at 7 rfl) dX14_isIdOf_7 ?_
  refine lv_iload_n hx hb dX14_isIdOf_10 rfl (lv_at hl 2 rfl) ?_
  refine j7_ialdM hx hb hK hh_3 hB117 1 rfl (by decide) hg_zm (x := a2.toInt) (rfl) (by omega) (j := 5) rfl dX14_isIdOf_11 (fun z_5 ez_5 (hz_5 : True) => ?_)
  have hqz_5 : z_5.toInt = jSo ms (a2.toInt) := by unfold jSo; rw [ez_5]
  refine lv_iconst (v := 4) hx hb dX14_isIdOf_12 (by decide) ?_
  have C21 : ∀ (w0_6 : Int32) (H_6 : Heap) (locs_6 : List Loc), jSt (dC, dI) B base G0 G0 EX14_isIdOfR s.heap 0 0 [(r0, 16, 51, .ref ywd_1), (r0, 16, 52, .ref yws_1), (r0, 16, 53, .ref ywi_1), (r0, 16, 54, .ref ywu_1), (r0, 16, 55, .ref ywe_1), (r0, 16, 49, .ref ywo_1), (r0, 16, 48, .int wn_1), (r0, 16, 17, .ref zm), (r0, 16, 18, .ref xh), (r0, 16, 19, .ref xn), (r0, 16, 20, .ref xf), (r0, 16, 21, .ref xt), (r0, 16, 22, .ref xb), (r0, 16, 23, .ref xe), (r0, 16, 24, .ref xi), (r0, 16, 25, .ref xg), (r0, 16, 27, .ref xp)] [(ywd_1, 206, 12, ca 1, wd_1), (yws_1, 104, 12, ca 3, ws_1), (ywi_1, 116, 12, ca 1, wi_1), (ywu_1, 126, 240, ca 1, wu_1), (ywe_1, 203, 12, ca 1, we_1), (zm, 117, 3100, ca 1, ms), (xh, 118, 3100, ca 1, mh), (xn, 119, 3100, ca 1, mx), (xf, 120, 3100, ca 1, mf), (xt, 121, 3100, ca 1, mt), (xb, 122, 3100, ca 1, mb), (xe, 123, 3100, ca 1, me), (xi, 124, 3100, ca 3, mi), (xg, 125, 3100, ca 1, mn), (xp, 127, 3300, ca 1, fu)] [([(202, 0)], jQc dC dI (ca 4) ywo_1 12 wo_1)] H_6 locs_6 → (w0_6 = 0 ∨ w0_6 = 1) → ((w0_6.toInt = 1 ∧ jqK T9 nd9 a2.toInt = 3) ∨ (w0_6.toInt = 0 ∧ jqK T9 nd9 a2.toInt ≠ 3)) → ∀ ls : Array Slot, lv_has ls 5 [(0, .ref r0), (1, .int a1), (2, .int a2)] → W p l e R s m ([.ref r0, .int a1, .int a2] : List Value).toArray below meth c H_6 locs_6 0 0 Q (F0 m 21 ls [.int w0_6, .int z_4]) := by
    intro w0_6 H_6 locs_6 hh_6 hb_w0_6 hi_6 ls hl
    have hb_w0_6' := jb_01 hb_w0_6
    refine lv_icmp_eq (tgt := 26) hx hb dX14_isIdOf_21 (by decide) (fun c_7 => ?_) (fun c_7 => ?_)
    · skip
      have c_7' : z_4.toInt = w0_6.toInt := jb_eq (rfl) (rfl) c_7
      refine lv_aload_n hx hb dX14_isIdOf_26 rfl (lv_at hl 0 rfl) ?_
      refine j7_read hx hb hown hK (C := RX14) (T := TX14) (N := 74) rfl hly_16_52 hlk_100 (hh_6.at 1 rfl) dX14_isIdOf_27 ?_
      refine lv_iload_n hx hb dX14_isIdOf_30 rfl (lv_at hl 1 rfl) ?_
      refine j7_zaldM hx hb hK hh_6 hB104 3 rfl (by decide) hgws_1 (x := a1.toInt) (rfl) (by omega) (j := 1) rfl dX14_isIdOf_31 (fun z_8 ez_8 (hz_8 : (z_8 = 0 ∨ z_8 = 1)) => ?_)
      have hqz_8 : z_8.toInt = jSo ws_1 (a1.toInt) := by unfold jSo; rw [ez_8]
      have hz_8' := jb_01 hz_8
      refine lv_if_ne (tgt := 56) hx hb dX14_isIdOf_32 (by decide) (fun c_9 => ?_) (fun c_9 => ?_)
      · skip
        have c_9' : z_8.toInt ≠ 0 := jb_ne (rfl) ((by decide)) c_9
        have hw1 : jSo ws_1 a1.toInt = 1 := by have h8 := hqz_8; omega
        have hk3 : jqK T9 nd9 a2.toInt = 3 := by rcases hi_6 with h | h; exact h.2; (have h1 := h.1; have h9 := hqz_4; omega)
        have hs3 := hst9.resolve_right (fun q => q.2 hk3)
        have hwe9 := ha4 hw1
        have h209 := (hp7.resolve_left (fun w => by omega)).2
        have hbr9 := hp2.2.2.2.2.2.1 a2.toInt (by omega) (by omega) (by rw [← (jqK.p (T := T9) (v := nd9) (i := a2.toInt) (by omega)).2.2]; exact hk3)
        refine lv_aload_n hx hb dX14_isIdOf_56 rfl (lv_at hl 0 rfl) ?_
        refine j7_read hx hb hown hK (C := RX14) (T := TX14) (N := 74) rfl hly_16_55 hlk_109 (hh_6.at 4 rfl) dX14_isIdOf_57 ?_
        refine lv_iload_n hx hb dX14_isIdOf_60 rfl (lv_at hl 1 rfl) ?_
        refine j7_ialdM hx hb hK hh_6 hB203 1 rfl (by decide) hgwe_1 (x := a1.toInt) (rfl) (by omega) (j := 4) rfl dX14_isIdOf_61 (fun z_10 ez_10 (hz_10 : -3300 ≤ z_10.toInt ∧ z_10.toInt ≤ 20) => ?_)
        have hqz_10 : z_10.toInt = jSo we_1 (a1.toInt) := by unfold jSo; rw [ez_10]
        refine lv_aload_n hx hb dX14_isIdOf_62 rfl (lv_at hl 0 rfl) ?_
        refine j7_read hx hb hown hK (C := RX14) (T := TX14) (N := 74) rfl hly_16_23 hlk_55 (hh_6.at 13 rfl) dX14_isIdOf_63 ?_
        refine lv_iload_n hx hb dX14_isIdOf_66 rfl (lv_at hl 2 rfl) ?_
        refine j7_ialdM hx hb hK hh_6 hB123 1 rfl (by decide) hg_xe (x := a2.toInt) (rfl) (by omega) (j := 11) rfl dX14_isIdOf_67 (fun z_11 ez_11 (hz_11 : 0 ≤ z_11.toInt ∧ z_11.toInt ≤ 3100) => ?_)
        have hqz_11 : z_11.toInt = jSo me (a2.toInt) := by unfold jSo; rw [ez_11]
        refine lv_aload_n hx hb dX14_isIdOf_68 rfl (lv_at hl 0 rfl) ?_
        refine j7_read hx hb hown hK (C := RX14) (T := TX14) (N := 74) rfl hly_16_22 hlk_52 (hh_6.at 12 rfl) dX14_isIdOf_69 ?_
        refine lv_iload_n hx hb dX14_isIdOf_72 rfl (lv_at hl 2 rfl) ?_
        refine j7_ialdM hx hb hK hh_6 hB122 1 rfl (by decide) hg_xb (x := a2.toInt) (rfl) (by omega) (j := 10) rfl dX14_isIdOf_73 (fun z_12 ez_12 (hz_12 : 0 ≤ z_12.toInt ∧ z_12.toInt ≤ 3100) => ?_)
        have hqz_12 : z_12.toInt = jSo mb (a2.toInt) := by unfold jSo; rw [ez_12]
        refine lv_isub hx hb dX14_isIdOf_74 ?_
        refine lv_topi (fun z_13 ez_13 => ?_)
        have hz_13 : z_13.toInt = z_11.toInt - z_12.toInt := by rw [ez_13]; exact jb_isub2 (rfl) (rfl) (by omega)
        have C83 : ∀ (w0_14 : Int32) (H_14 : Heap) (locs_14 : List Loc), jSt (dC, dI) B base G0 G0 EX14_isIdOfR s.heap 0 0 [(r0, 16, 51, .ref ywd_1), (r0, 16, 52, .ref yws_1), (r0, 16, 53, .ref ywi_1), (r0, 16, 54, .ref ywu_1), (r0, 16, 55, .ref ywe_1), (r0, 16, 49, .ref ywo_1), (r0, 16, 48, .int wn_1), (r0, 16, 17, .ref zm), (r0, 16, 18, .ref xh), (r0, 16, 19, .ref xn), (r0, 16, 20, .ref xf), (r0, 16, 21, .ref xt), (r0, 16, 22, .ref xb), (r0, 16, 23, .ref xe), (r0, 16, 24, .ref xi), (r0, 16, 25, .ref xg), (r0, 16, 27, .ref xp)] [(ywd_1, 206, 12, ca 1, wd_1), (yws_1, 104, 12, ca 3, ws_1), (ywi_1, 116, 12, ca 1, wi_1), (ywu_1, 126, 240, ca 1, wu_1), (ywe_1, 203, 12, ca 1, we_1), (zm, 117, 3100, ca 1, ms), (xh, 118, 3100, ca 1, mh), (xn, 119, 3100, ca 1, mx), (xf, 120, 3100, ca 1, mf), (xt, 121, 3100, ca 1, mt), (xb, 122, 3100, ca 1, mb), (xe, 123, 3100, ca 1, me), (xi, 124, 3100, ca 3, mi), (xg, 125, 3100, ca 1, mn), (xp, 127, 3300, ca 1, fu)] [([(202, 0)], jQc dC dI (ca 4) ywo_1 12 wo_1)] H_14 locs_14 → (w0_14 = 0 ∨ w0_14 = 1) → ((w0_14.toInt = 1 ∧ jSo we_1 a1.toInt = T9 3 a2.toInt) ∨ (w0_14.toInt = 0 ∧ jSo we_1 a1.toInt ≠ T9 3 a2.toInt)) → ∀ ls : Array Slot, lv_has ls 5 [(0, .ref r0), (1, .int a1), (2, .int a2)] → W p l e R s m ([.ref r0, .int a1, .int a2] : List Value).toArray below meth c H_14 locs_14 0 0 Q (F0 m 83 ls [.int w0_14]) := by
          intro w0_14 H_14 locs_14 hh_14 hb_w0_14 hi_14 ls hl
          have hb_w0_14' := jb_01 hb_w0_14
          refine lv_istore_n (lv' := [(3, .int w0_14), (0, .ref r0), (1, .int a1), (2, .int a2)]) hx hb dX14_isIdOf_83 rfl hl (by decide) rfl (fun ls hl => ?_)
          refine lv_iconst (v := 0) hx hb dX14_isIdOf_84 (by decide) ?_
          refine lv_istore (lv' := [(4, .int 0), (3, .int w0_14), (0, .ref r0), (1, .int a1), (2, .int a2)]) hx hb dX14_isIdOf_85 hl (by decide) rfl (fun ls hl => ?_)
          have L87 : ∀ (N : Nat) (v3_15 : Int32) (v4_15 : Int32) (H_15 : Heap) (locs_15 : List Loc), jSt (dC, dI) B base G0 G0 EX14_isIdOfR s.heap 0 0 [(r0, 16, 51, .ref ywd_1), (r0, 16, 52, .ref yws_1), (r0, 16, 53, .ref ywi_1), (r0, 16, 54, .ref ywu_1), (r0, 16, 55, .ref ywe_1), (r0, 16, 49, .ref ywo_1), (r0, 16, 48, .int wn_1), (r0, 16, 17, .ref zm), (r0, 16, 18, .ref xh), (r0, 16, 19, .ref xn), (r0, 16, 20, .ref xf), (r0, 16, 21, .ref xt), (r0, 16, 22, .ref xb), (r0, 16, 23, .ref xe), (r0, 16, 24, .ref xi), (r0, 16, 25, .ref xg), (r0, 16, 27, .ref xp)] [(ywd_1, 206, 12, ca 1, wd_1), (yws_1, 104, 12, ca 3, ws_1), (ywi_1, 116, 12, ca 1, wi_1), (ywu_1, 126, 240, ca 1, wu_1), (ywe_1, 203, 12, ca 1, we_1), (zm, 117, 3100, ca 1, ms), (xh, 118, 3100, ca 1, mh), (xn, 119, 3100, ca 1, mx), (xf, 120, 3100, ca 1, mf), (xt, 121, 3100, ca 1, mt), (xb, 122, 3100, ca 1, mb), (xe, 123, 3100, ca 1, me), (xi, 124, 3100, ca 3, mi), (xg, 125, 3100, ca 1, mn), (xp, 127, 3300, ca 1, fu)] [([(202, 0)], jQc dC dI (ca 4) ywo_1 12 wo_1)] H_15 locs_15 → (v3_15 = 0 ∨ v3_15 = 1) → (0 ≤ v4_15.toInt ∧ v4_15.toInt ≤ 20 ∧ 0 ≤ v3_15.toInt ∧ v3_15.toInt ≤ 1 ∧ jwSb wu_1 T9 nd9 a2.toInt (20 * a1.toInt) (jSo we_1 a1.toInt) v3_15.toInt v4_15.toInt) → (20 - v4_15.toInt : Int) < N → ∀ ls : Array Slot, lv_has ls 5 [(0, .ref r0), (1, .int a1), (2, .int a2), (3, .int v3_15), (4, .int v4_15)] → W p l e R s m ([.ref r0, .int a1, .int a2] : List Value).toArray below meth c H_15 locs_15 0 0 Q (F0 m 87 ls []) := by
            intro N
            induction N with
            | zero => intro v3_15 v4_15 H_15 locs_15 hh_15 hb_v3_15 hi_15 hm; exact absurd hm (by omega)
            | succ N L87 =>
              intro v3_15 v4_15 H_15 locs_15 hh_15 hb_v3_15 hi_15 hm_15 ls hl
              obtain ⟨hi_15_0, hi_15_1, hi_15_2, hi_15_3, hi_15_4⟩ := hi_15
              have hb_v3_15' := jb_01 hb_v3_15
              refine lv_iload hx hb dX14_isIdOf_87 (lv_at hl 4 rfl) ?_
              refine lv_aload_n hx hb dX14_isIdOf_89 rfl (lv_at hl 0 rfl) ?_
              refine j7_read hx hb hown hK (C := RX14) (T := TX14) (N := 74) rfl hly_16_55 hlk_109 (hh_15.at 4 rfl) dX14_isIdOf_90 ?_
              refine lv_iload_n hx hb dX14_isIdOf_93 rfl (lv_at hl 1 rfl) ?_
              refine j7_ialdM hx hb hK hh_15 hB203 1 rfl (by decide) hgwe_1 (x := a1.toInt) (rfl) (by omega) (j := 4) rfl dX14_isIdOf_94 (fun z_16 ez_16 (hz_16 : -3300 ≤ z_16.toInt ∧ z_16.toInt ≤ 20) => ?_)
              have hqz_16 : z_16.toInt = jSo we_1 (a1.toInt) := by unfold jSo; rw [ez_16]
              refine lv_icmp_ge (tgt := 143) hx hb dX14_isIdOf_95 (by decide) (fun c_17 => ?_) (fun c_17 => ?_)
              · skip
                have c_17' : v4_15.toInt ≥ z_16.toInt := jb_ge (rfl) (rfl) c_17
                refine lv_iload_n hx hb dX14_isIdOf_143 rfl (lv_at hl 3 rfl) ?_
                have hHf_18 : jHw dC dI ca G0 r0 WW H_15 := ⟨ywd_1, yws_1, ywi_1, ywu_1, ywe_1, ywo_1, wn_1, wd_1, ws_1, wi_1, wu_1, we_1, wo_1, ⟨_, hg_r0⟩, ⟨hgwd_1, hgws_1, hgwi_1, hgwu_1, hgwe_1, hgwo_1⟩, hh_15.2.2.1.sub (L1 := [(r0, 16, 51, .ref ywd_1), (r0, 16, 52, .ref yws_1), (r0, 16, 53, .ref ywi_1), (r0, 16, 54, .ref ywu_1), (r0, 16, 55, .ref ywe_1), (r0, 16, 49, .ref ywo_1), (r0, 16, 48, .int wn_1)]) [0, 1, 2, 3, 4, 5, 6] rfl, hh_15.2.2.2.2.2.2.2.1.sub (L1 := [(ywd_1, 206, 12, ca 1, wd_1), (yws_1, 104, 12, ca 3, ws_1), (ywi_1, 116, 12, ca 1, wi_1), (ywu_1, 126, 240, ca 1, wu_1), (ywe_1, 203, 12, ca 1, we_1)]) [0, 1, 2, 3, 4] rfl, hh_15.iv 0 rfl, hoR_1⟩
                have hh_19 := hh_15.sub (L1 := [(r0, 16, 51, .ref ywd_1), (r0, 16, 52, .ref yws_1), (r0, 16, 53, .ref ywi_1), (r0, 16, 54, .ref ywu_1), (r0, 16, 55, .ref ywe_1), (r0, 16, 49, .ref ywo_1), (r0, 16, 48, .int wn_1), (r0, 16, 17, .ref zm), (r0, 16, 18, .ref xh), (r0, 16, 19, .ref xn), (r0, 16, 20, .ref xf), (r0, 16, 21, .ref xt), (r0, 16, 22, .ref xb), (r0, 16, 23, .ref xe), (r0, 16, 24, .ref xi), (r0, 16, 25, .ref xg), (r0, 16, 27, .ref xp)]) [0, 1, 2, 3, 4, 5, 6, 7, 8, 9, 10, 11, 12, 13, 14, 15, 16] rfl (M1 := [(ywd_1, 206, 12, ca 1, wd_1), (yws_1, 104, 12, ca 3, ws_1), (ywi_1, 116, 12, ca 1, wi_1), (ywu_1, 126, 240, ca 1, wu_1), (ywe_1, 203, 12, ca 1, we_1), (zm, 117, 3100, ca 1, ms), (xh, 118, 3100, ca 1, mh), (xn, 119, 3100, ca 1, mx), (xf, 120, 3100, ca 1, mf), (xt, 121, 3100, ca 1, mt), (xb, 122, 3100, ca 1, mb), (xe, 123, 3100, ca 1, me), (xi, 124, 3100, ca 3, mi), (xg, 125, 3100, ca 1, mn), (xp, 127, 3300, ca 1, fu)]) [0, 1, 2, 3, 4, 5, 6, 7, 8, 9, 10, 11, 12, 13, 14] rfl (I1 := []) [] rfl
                clear hh_15
                have hh_20 := hh_19.addI (jHw.ie hHf_18)
                clear hh_19
                rw [hQ]
                exact W.zret (v := v3_15) hx hb hr (jb_nz (hb_v3_15)) (fun t ht hW => ⟨⟨v3_15, (), rfl, ⟨(hb_v3_15), by by_cases q9 : v3_15.toInt = 0; exact Or.inr ⟨q9, jwIq.n ha9 ha3 (hi_15_4.en q9 rfl (by omega) (by omega) hw1 hk3)⟩; exact Or.inl ⟨by omega, jwIq.y ha9 ha3 (hi_15_4.ey q9 (by have h9 := hqz_16; omega) rfl hw1 hk3)⟩⟩, ⟨hh_20.rt (M1 := []) [] rfl ht, by rw [ht]; exact hh_20.2.2.2.2.2.2.2.2.sub (L1 := [(jFHw, jHw dC dI ca G0 r0 WW)]) [0] rfl⟩⟩, by rw [ht]; try exact hh_20.1.1, fun q h9 hq => by rw [ht]; try exact hh_20.1.2.1 q h9 hq⟩) hh_20.1.2.2 dX14_isIdOf_144
              · skip
                have c_17' : v4_15.toInt < z_16.toInt := jb_ge_n (rfl) (rfl) c_17
                refine lv_iload_n hx hb dX14_isIdOf_98 rfl (lv_at hl 3 rfl) ?_
                refine lv_if_eq (tgt := 143) hx hb dX14_isIdOf_99 (by decide) (fun c_21 => ?_) (fun c_21 => ?_)
                · skip
                  have c_21' : v3_15.toInt = 0 := jb_eq (rfl) ((by decide)) c_21
                  refine lv_iload_n hx hb dX14_isIdOf_143 rfl (lv_at hl 3 rfl) ?_
                  have hHf_22 : jHw dC dI ca G0 r0 WW H_15 := ⟨ywd_1, yws_1, ywi_1, ywu_1, ywe_1, ywo_1, wn_1, wd_1, ws_1, wi_1, wu_1, we_1, wo_1, ⟨_, hg_r0⟩, ⟨hgwd_1, hgws_1, hgwi_1, hgwu_1, hgwe_1, hgwo_1⟩, hh_15.2.2.1.sub (L1 := [(r0, 16, 51, .ref ywd_1), (r0, 16, 52, .ref yws_1), (r0, 16, 53, .ref ywi_1), (r0, 16, 54, .ref ywu_1), (r0, 16, 55, .ref ywe_1), (r0, 16, 49, .ref ywo_1), (r0, 16, 48, .int wn_1)]) [0, 1, 2, 3, 4, 5, 6] rfl, hh_15.2.2.2.2.2.2.2.1.sub (L1 := [(ywd_1, 206, 12, ca 1, wd_1), (yws_1, 104, 12, ca 3, ws_1), (ywi_1, 116, 12, ca 1, wi_1), (ywu_1, 126, 240, ca 1, wu_1), (ywe_1, 203, 12, ca 1, we_1)]) [0, 1, 2, 3, 4] rfl, hh_15.iv 0 rfl, hoR_1⟩
                  have hh_23 := hh_15.sub (L1 := [(r0, 16, 51, .ref ywd_1), (r0, 16, 52, .ref yws_1), (r0, 16, 53, .ref ywi_1), (r0, 16, 54, .ref ywu_1), (r0, 16, 55, .ref ywe_1), (r0, 16, 49, .ref ywo_1), (r0, 16, 48, .int wn_1), (r0, 16, 17, .ref zm), (r0, 16, 18, .ref xh), (r0, 16, 19, .ref xn), (r0, 16, 20, .ref xf), (r0, 16, 21, .ref xt), (r0, 16, 22, .ref xb), (r0, 16, 23, .ref xe), (r0, 16, 24, .ref xi), (r0, 16, 25, .ref xg), (r0, 16, 27, .ref xp)]) [0, 1, 2, 3, 4, 5, 6, 7, 8, 9, 10, 11, 12, 13, 14, 15, 16] rfl (M1 := [(ywd_1, 206, 12, ca 1, wd_1), (yws_1, 104, 12, ca 3, ws_1), (ywi_1, 116, 12, ca 1, wi_1), (ywu_1, 126, 240, ca 1, wu_1), (ywe_1, 203, 12, ca 1, we_1), (zm, 117, 3100, ca 1, ms), (xh, 118, 3100, ca 1, mh), (xn, 119, 3100, ca 1, mx), (xf, 120, 3100, ca 1, mf), (xt, 121, 3100, ca 1, mt), (xb, 122, 3100, ca 1, mb), (xe, 123, 3100, ca 1, me), (xi, 124, 3100, ca 3, mi), (xg, 125, 3100, ca 1, mn), (xp, 127, 3300, ca 1, fu)]) [0, 1, 2, 3, 4, 5, 6, 7, 8, 9, 10, 11, 12, 13, 14] rfl (I1 := []) [] rfl
                  clear hh_15
                  have hh_24 := hh_23.addI (jHw.ie hHf_22)
                  clear hh_23
                  rw [hQ]
                  exact W.zret (v := v3_15) hx hb hr (jb_nz (hb_v3_15)) (fun t ht hW => ⟨⟨v3_15, (), rfl, ⟨(hb_v3_15), by by_cases q9 : v3_15.toInt = 0; exact Or.inr ⟨q9, jwIq.n ha9 ha3 (hi_15_4.en q9 rfl (by omega) (by omega) hw1 hk3)⟩; exact Or.inl ⟨by omega, jwIq.y ha9 ha3 (hi_15_4.ey q9 (by have h9 := hqz_16; omega) rfl hw1 hk3)⟩⟩, ⟨hh_24.rt (M1 := []) [] rfl ht, by rw [ht]; exact hh_24.2.2.2.2.2.2.2.2.sub (L1 := [(jFHw, jHw dC dI ca G0 r0 WW)]) [0] rfl⟩⟩, by rw [ht]; try exact hh_24.1.1, fun q h9 hq => by rw [ht]; try exact hh_24.1.2.1 q h9 hq⟩) hh_24.1.2.2 dX14_isIdOf_144
                · skip
                  have c_21' : v3_15.toInt ≠ 0 := jb_eq_n (rfl) ((by decide)) c_21
                  have hz9 : jSo we_1 a1.toInt = T9 3 a2.toInt := by have h9 := hi_15_4; rcases h9 with h | h; exact h.2.1; (have h1 := h.1; clear h; omega)
                  refine lv_aload_n hx hb dX14_isIdOf_102 rfl (lv_at hl 0 rfl) ?_
                  refine j7_read hx hb hown hK (C := RX14) (T := TX14) (N := 74) rfl hly_16_54 hlk_106 (hh_15.at 3 rfl) dX14_isIdOf_103 ?_
                  refine lv_bipush (v := 20) hx hb dX14_isIdOf_106 (by decide) ?_
                  refine lv_iload_n hx hb dX14_isIdOf_108 rfl (lv_at hl 1 rfl) ?_
                  refine lv_imul hx hb dX14_isIdOf_109 ?_
                  refine lv_topi (fun z_25 ez_25 => ?_)
                  have hz_25 : z_25.toInt = 20 * a1.toInt := by rw [ez_25]; exact jb_imul2 ((by decide)) (rfl) (by omega)
                  refine lv_iload hx hb dX14_isIdOf_110 (lv_at hl 4 rfl) ?_
                  refine lv_iadd hx hb dX14_isIdOf_112 ?_
                  refine lv_topi (fun z_26 ez_26 => ?_)
                  have hz_26 : z_26.toInt = z_25.toInt + v4_15.toInt := by rw [ez_26]; exact jb_iadd2 (rfl) (rfl) (by omega)
                  refine j7_ialdM hx hb hK hh_15 hB126 1 rfl (by decide) hgwu_1 (x := z_26.toInt) (rfl) (by omega) (j := 3) rfl dX14_isIdOf_113 (fun z_27 ez_27 (hz_27 : True) => ?_)
                  have hqz_27 : z_27.toInt = jSo wu_1 (((20 * a1.toInt) + v4_15.toInt)) := by unfold jSo; rw [ez_27, show z_26.toInt = ((20 * a1.toInt) + v4_15.toInt) by omega]
                  refine lv_aload_n hx hb dX14_isIdOf_114 rfl (lv_at hl 0 rfl) ?_
                  refine j7_read hx hb hown hK (C := RX14) (T := TX14) (N := 74) rfl hly_16_27 hlk_65 (hh_15.at 16 rfl) dX14_isIdOf_115 ?_
                  refine lv_aload_n hx hb dX14_isIdOf_118 rfl (lv_at hl 0 rfl) ?_
                  refine j7_read hx hb hown hK (C := RX14) (T := TX14) (N := 74) rfl hly_16_22 hlk_52 (hh_15.at 12 rfl) dX14_isIdOf_119 ?_
                  refine lv_iload_n hx hb dX14_isIdOf_122 rfl (lv_at hl 2 rfl) ?_
                  refine j7_ialdM hx hb hK hh_15 hB122 1 rfl (by decide) hg_xb (x := a2.toInt) (rfl) (by omega) (j := 10) rfl dX14_isIdOf_123 (fun z_28 ez_28 (hz_28 : 0 ≤ z_28.toInt ∧ z_28.toInt ≤ 3100) => ?_)
                  have hqz_28 : z_28.toInt = jSo mb (a2.toInt) := by unfold jSo; rw [ez_28]
                  refine lv_iload hx hb dX14_isIdOf_124 (lv_at hl 4 rfl) ?_
                  refine lv_iadd hx hb dX14_isIdOf_126 ?_
                  refine lv_topi (fun z_29 ez_29 => ?_)
                  have hz_29 : z_29.toInt = z_28.toInt + v4_15.toInt := by rw [ez_29]; exact jb_iadd2 (rfl) (rfl) (by omega)
                  refine j7_ialdM hx hb hK hh_15 hB127 1 rfl (by decide) hg_xp (x := z_29.toInt) (rfl) (by omega) (j := 14) rfl dX14_isIdOf_127 (fun z_30 ez_30 (hz_30 : True) => ?_)
                  have hqz_30 : z_30.toInt = jSo fu ((z_28.toInt + v4_15.toInt)) := by unfold jSo; rw [ez_30, show z_29.toInt = (z_28.toInt + v4_15.toInt) by omega]
                  have hun9 : z_30.toInt = jqA T9 nd9 a2.toInt v4_15.toInt := by rw [← hp2.un hk3 (by omega) (by have h9 := hqz_16; omega), hqz_30]; congr 1; have h9 := hqz_28; have h8 := hs3.2.2.1; omega
                  refine lv_icmp_ne (tgt := 135) hx hb dX14_isIdOf_128 (by decide) (fun c_31 => ?_) (fun c_31 => ?_)
                  · skip
                    have c_31' : z_27.toInt ≠ z_30.toInt := jb_ne (rfl) (rfl) c_31
                    refine lv_iconst (v := 0) hx hb dX14_isIdOf_135 (by decide) ?_
                    refine lv_istore_n (lv' := [(3, .int 0), (0, .ref r0), (1, .int a1), (2, .int a2), (4, .int v4_15)]) hx hb dX14_isIdOf_136 rfl hl (by decide) rfl (fun ls hl => ?_)
                    obtain ⟨z_32, ez_32⟩ : ∃ y : Int32, y = v4_15 + 1 := ⟨_, rfl⟩
                    refine lv_iinc (v := z_32) (lv' := [(4, .int z_32), (3, .int 0), (0, .ref r0), (1, .int a1), (2, .int a2)]) hx hb dX14_isIdOf_137 hl (k := 4) rfl (by rw [ez_32]; rfl) (by decide) rfl (fun ls hl => ?_)
                    have hz_32 : z_32.toInt = v4_15.toInt + 1 := by rw [ez_32]; exact jb_iadd2 (rfl) (by decide) (by omega)
                    refine lv_goto (tgt := 87) hx hb dX14_isIdOf_140 (by decide) ?_
                    exact L87 0 z_32 _ _ hh_15 (Or.inl rfl) (⟨by omega, by have h9 := hqz_16; omega, by omega, by omega, jwSb.n hqz_27 hun9 (by omega) (by omega) (by have h9 := hqz_16; omega) (by omega)⟩) (by omega) _ (lv_sub hl [2, 3, 4, 1, 0] rfl)
                  · skip
                    have c_31' : z_27.toInt = z_30.toInt := jb_ne_n (rfl) (rfl) c_31
                    refine lv_iconst (v := 1) hx hb dX14_isIdOf_131 (by decide) ?_
                    refine lv_goto (tgt := 136) hx hb dX14_isIdOf_132 (by decide) ?_
                    refine lv_istore_n (lv' := [(3, .int 1), (0, .ref r0), (1, .int a1), (2, .int a2), (4, .int v4_15)]) hx hb dX14_isIdOf_136 rfl hl (by decide) rfl (fun ls hl => ?_)
                    obtain ⟨z_33, ez_33⟩ : ∃ y : Int32, y = v4_15 + 1 := ⟨_, rfl⟩
                    refine lv_iinc (v := z_33) (lv' := [(4, .int z_33), (3, .int 1), (0, .ref r0), (1, .int a1), (2, .int a2)]) hx hb dX14_isIdOf_137 hl (k := 4) rfl (by rw [ez_33]; rfl) (by decide) rfl (fun ls hl => ?_)
                    have hz_33 : z_33.toInt = v4_15.toInt + 1 := by rw [ez_33]; exact jb_iadd2 (rfl) (by decide) (by omega)
                    refine lv_goto (tgt := 87) hx hb dX14_isIdOf_140 (by decide) ?_
                    exact L87 1 z_33 _ _ hh_15 (Or.inr rfl) (⟨by omega, by have h9 := hqz_16; omega, by omega, by omega, hi_15_4.y (by omega) hqz_27 hun9 (by omega) (by omega) (by omega)⟩) (by omega) _ (lv_sub hl [2, 3, 4, 1, 0] rfl)
          exact L87 (20 - (0 : Int32).toInt : Int).toNat.succ w0_14 0 _ _ hh_14 (hb_w0_14) (⟨by omega, by omega, by have h9 := hi_14; omega, by have h9 := hi_14; omega, jwSb.st hi_14 (by omega)⟩) (by omega) _ (lv_sub hl [2, 3, 4, 1, 0] rfl)
        refine lv_icmp_ne (tgt := 82) hx hb dX14_isIdOf_75 (by decide) (fun c_34 => ?_) (fun c_34 => ?_)
        · skip
          have c_34' : z_10.toInt ≠ z_13.toInt := jb_ne (rfl) (rfl) c_34
          refine lv_iconst (v := 0) hx hb dX14_isIdOf_82 (by decide) ?_
          exact C83 0 _ _ hh_6 (Or.inl rfl) (Or.inr ⟨hk0, by have h1 := hqz_10; have h2 := hqz_11; have h3 := hqz_12; have h4 := hs3.2.2.2; omega⟩) _ (lv_sub hl [0, 1, 2] rfl)
        · skip
          have c_34' : z_10.toInt = z_13.toInt := jb_ne_n (rfl) (rfl) c_34
          refine lv_iconst (v := 1) hx hb dX14_isIdOf_78 (by decide) ?_
          refine lv_goto (tgt := 83) hx hb dX14_isIdOf_79 (by decide) ?_
          exact C83 1 _ _ hh_6 (Or.inr rfl) (Or.inl ⟨hk1, by have h1 := hqz_10; have h2 := hqz_11; have h3 := hqz_12; have h4 := hs3.2.2.2; omega⟩) _ (lv_sub hl [0, 1, 2] rfl)
      · skip
        have c_9' : z_8.toInt = 0 := jb_ne_n (rfl) ((by decide)) c_9
        have hn3 : jqK T9 nd9 a2.toInt ≠ 3 := by rcases hi_6 with h | h; (have h1 := h.1; have h9 := hqz_4; have h8 := hqz_8; omega); exact h.2
        have hwh9 := (hp2.whl (a := a2.toInt) (by omega) (by omega)).resolve_right (fun q => q.2 (hp7.resolve_right (fun w => hn3 w.1)))
        refine lv_aload_n hx hb dX14_isIdOf_35 rfl (lv_at hl 0 rfl) ?_
        refine j7_read hx hb hown hK (C := RX14) (T := TX14) (N := 74) rfl hly_16_53 hlk_103 (hh_6.at 2 rfl) dX14_isIdOf_36 ?_
        refine lv_iload_n hx hb dX14_isIdOf_39 rfl (lv_at hl 1 rfl) ?_
        refine j7_ialdM hx hb hK hh_6 hB116 1 rfl (by decide) hgwi_1 (x := a1.toInt) (rfl) (by omega) (j := 2) rfl dX14_isIdOf_40 (fun z_35 ez_35 (hz_35 : True) => ?_)
        have hqz_35 : z_35.toInt = jSo wi_1 (a1.toInt) := by unfold jSo; rw [ez_35]
        refine lv_aload_n hx hb dX14_isIdOf_41 rfl (lv_at hl 0 rfl) ?_
        refine j7_read hx hb hown hK (C := RX14) (T := TX14) (N := 74) rfl hly_16_25 hlk_62 (hh_6.at 15 rfl) dX14_isIdOf_42 ?_
        refine lv_iload_n hx hb dX14_isIdOf_45 rfl (lv_at hl 2 rfl) ?_
        refine j7_ialdM hx hb hK hh_6 hB125 1 rfl (by decide) hg_xg (x := a2.toInt) (rfl) (by omega) (j := 13) rfl dX14_isIdOf_46 (fun z_36 ez_36 (hz_36 : True) => ?_)
        have hqz_36 : z_36.toInt = jSo mn (a2.toInt) := by unfold jSo; rw [ez_36]
        refine lv_icmp_ne (tgt := 54) hx hb dX14_isIdOf_47 (by decide) (fun c_37 => ?_) (fun c_37 => ?_)
        · skip
          have c_37' : z_35.toInt ≠ z_36.toInt := jb_ne (rfl) (rfl) c_37
          refine lv_iconst (v := 0) hx hb dX14_isIdOf_54 (by decide) ?_
          have hHf_38 : jHw dC dI ca G0 r0 WW H_6 := ⟨ywd_1, yws_1, ywi_1, ywu_1, ywe_1, ywo_1, wn_1, wd_1, ws_1, wi_1, wu_1, we_1, wo_1, ⟨_, hg_r0⟩, ⟨hgwd_1, hgws_1, hgwi_1, hgwu_1, hgwe_1, hgwo_1⟩, hh_6.2.2.1.sub (L1 := [(r0, 16, 51, .ref ywd_1), (r0, 16, 52, .ref yws_1), (r0, 16, 53, .ref ywi_1), (r0, 16, 54, .ref ywu_1), (r0, 16, 55, .ref ywe_1), (r0, 16, 49, .ref ywo_1), (r0, 16, 48, .int wn_1)]) [0, 1, 2, 3, 4, 5, 6] rfl, hh_6.2.2.2.2.2.2.2.1.sub (L1 := [(ywd_1, 206, 12, ca 1, wd_1), (yws_1, 104, 12, ca 3, ws_1), (ywi_1, 116, 12, ca 1, wi_1), (ywu_1, 126, 240, ca 1, wu_1), (ywe_1, 203, 12, ca 1, we_1)]) [0, 1, 2, 3, 4] rfl, hh_6.iv 0 rfl, hoR_1⟩
          have hh_39 := hh_6.sub (L1 := [(r0, 16, 51, .ref ywd_1), (r0, 16, 52, .ref yws_1), (r0, 16, 53, .ref ywi_1), (r0, 16, 54, .ref ywu_1), (r0, 16, 55, .ref ywe_1), (r0, 16, 49, .ref ywo_1), (r0, 16, 48, .int wn_1), (r0, 16, 17, .ref zm), (r0, 16, 18, .ref xh), (r0, 16, 19, .ref xn), (r0, 16, 20, .ref xf), (r0, 16, 21, .ref xt), (r0, 16, 22, .ref xb), (r0, 16, 23, .ref xe), (r0, 16, 24, .ref xi), (r0, 16, 25, .ref xg), (r0, 16, 27, .ref xp)]) [0, 1, 2, 3, 4, 5, 6, 7, 8, 9, 10, 11, 12, 13, 14, 15, 16] rfl (M1 := [(ywd_1, 206, 12, ca 1, wd_1), (yws_1, 104, 12, ca 3, ws_1), (ywi_1, 116, 12, ca 1, wi_1), (ywu_1, 126, 240, ca 1, wu_1), (ywe_1, 203, 12, ca 1, we_1), (zm, 117, 3100, ca 1, ms), (xh, 118, 3100, ca 1, mh), (xn, 119, 3100, ca 1, mx), (xf, 120, 3100, ca 1, mf), (xt, 121, 3100, ca 1, mt), (xb, 122, 3100, ca 1, mb), (xe, 123, 3100, ca 1, me), (xi, 124, 3100, ca 3, mi), (xg, 125, 3100, ca 1, mn), (xp, 127, 3300, ca 1, fu)]) [0, 1, 2, 3, 4, 5, 6, 7, 8, 9, 10, 11, 12, 13, 14] rfl (I1 := []) [] rfl
          clear hh_6
          have hh_40 := hh_39.addI (jHw.ie hHf_38)
          clear hh_39
          rw [hQ]
          exact W.zret (v := 0) hx hb hr (jb_nz (Or.inl rfl)) (fun t ht hW => ⟨⟨0, (), rfl, ⟨(Or.inl rfl), Or.inr ⟨hk0, jwIq.n ha9 ha3 (jwId.in (by have h9 := hqz_8; omega) hn3 (by have h9 := hqz_35; have h8 := hqz_36; have h7 := hwh9.2.2.2; omega))⟩⟩, ⟨hh_40.rt (M1 := []) [] rfl ht, by rw [ht]; exact hh_40.2.2.2.2.2.2.2.2.sub (L1 := [(jFHw, jHw dC dI ca G0 r0 WW)]) [0] rfl⟩⟩, by rw [ht]; try exact hh_40.1.1, fun q h9 hq => by rw [ht]; try exact hh_40.1.2.1 q h9 hq⟩) hh_40.1.2.2 dX14_isIdOf_55
        · skip
          have c_37' : z_35.toInt = z_36.toInt := jb_ne_n (rfl) (rfl) c_37
          refine lv_iconst (v := 1) hx hb dX14_isIdOf_50 (by decide) ?_
          refine lv_goto (tgt := 55) hx hb dX14_isIdOf_51 (by decide) ?_
          have hHf_41 : jHw dC dI ca G0 r0 WW H_6 := ⟨ywd_1, yws_1, ywi_1, ywu_1, ywe_1, ywo_1, wn_1, wd_1, ws_1, wi_1, wu_1, we_1, wo_1, ⟨_, hg_r0⟩, ⟨hgwd_1, hgws_1, hgwi_1, hgwu_1, hgwe_1, hgwo_1⟩, hh_6.2.2.1.sub (L1 := [(r0, 16, 51, .ref ywd_1), (r0, 16, 52, .ref yws_1), (r0, 16, 53, .ref ywi_1), (r0, 16, 54, .ref ywu_1), (r0, 16, 55, .ref ywe_1), (r0, 16, 49, .ref ywo_1), (r0, 16, 48, .int wn_1)]) [0, 1, 2, 3, 4, 5, 6] rfl, hh_6.2.2.2.2.2.2.2.1.sub (L1 := [(ywd_1, 206, 12, ca 1, wd_1), (yws_1, 104, 12, ca 3, ws_1), (ywi_1, 116, 12, ca 1, wi_1), (ywu_1, 126, 240, ca 1, wu_1), (ywe_1, 203, 12, ca 1, we_1)]) [0, 1, 2, 3, 4] rfl, hh_6.iv 0 rfl, hoR_1⟩
          have hh_42 := hh_6.sub (L1 := [(r0, 16, 51, .ref ywd_1), (r0, 16, 52, .ref yws_1), (r0, 16, 53, .ref ywi_1), (r0, 16, 54, .ref ywu_1), (r0, 16, 55, .ref ywe_1), (r0, 16, 49, .ref ywo_1), (r0, 16, 48, .int wn_1), (r0, 16, 17, .ref zm), (r0, 16, 18, .ref xh), (r0, 16, 19, .ref xn), (r0, 16, 20, .ref xf), (r0, 16, 21, .ref xt), (r0, 16, 22, .ref xb), (r0, 16, 23, .ref xe), (r0, 16, 24, .ref xi), (r0, 16, 25, .ref xg), (r0, 16, 27, .ref xp)]) [0, 1, 2, 3, 4, 5, 6, 7, 8, 9, 10, 11, 12, 13, 14, 15, 16] rfl (M1 := [(ywd_1, 206, 12, ca 1, wd_1), (yws_1, 104, 12, ca 3, ws_1), (ywi_1, 116, 12, ca 1, wi_1), (ywu_1, 126, 240, ca 1, wu_1), (ywe_1, 203, 12, ca 1, we_1), (zm, 117, 3100, ca 1, ms), (xh, 118, 3100, ca 1, mh), (xn, 119, 3100, ca 1, mx), (xf, 120, 3100, ca 1, mf), (xt, 121, 3100, ca 1, mt), (xb, 122, 3100, ca 1, mb), (xe, 123, 3100, ca 1, me), (xi, 124, 3100, ca 3, mi), (xg, 125, 3100, ca 1, mn), (xp, 127, 3300, ca 1, fu)]) [0, 1, 2, 3, 4, 5, 6, 7, 8, 9, 10, 11, 12, 13, 14] rfl (I1 := []) [] rfl
          clear hh_6
          have hh_43 := hh_42.addI (jHw.ie hHf_41)
          clear hh_42
          rw [hQ]
          exact W.zret (v := 1) hx hb hr (jb_nz (Or.inr rfl)) (fun t ht hW => ⟨⟨1, (), rfl, ⟨(Or.inr rfl), Or.inl ⟨hk1, jwIq.y ha9 ha3 (jwId.iy (by have h9 := hqz_8; omega) hn3 (by have h9 := hqz_35; have h8 := hqz_36; have h7 := hwh9.2.2.2; omega))⟩⟩, ⟨hh_43.rt (M1 := []) [] rfl ht, by rw [ht]; exact hh_43.2.2.2.2.2.2.2.2.sub (L1 := [(jFHw, jHw dC dI ca G0 r0 WW)]) [0] rfl⟩⟩, by rw [ht]; try exact hh_43.1.1, fun q h9 hq => by rw [ht]; try exact hh_43.1.2.1 q h9 hq⟩) hh_43.1.2.2 dX14_isIdOf_55
    · skip
      have c_7' : z_4.toInt ≠ w0_6.toInt := jb_eq_n (rfl) (rfl) c_7
      refine lv_iconst (v := 0) hx hb dX14_isIdOf_24 (by decide) ?_
      have hHf_44 : jHw dC dI ca G0 r0 WW H_6 := ⟨ywd_1, yws_1, ywi_1, ywu_1, ywe_1, ywo_1, wn_1, wd_1, ws_1, wi_1, wu_1, we_1, wo_1, ⟨_, hg_r0⟩, ⟨hgwd_1, hgws_1, hgwi_1, hgwu_1, hgwe_1, hgwo_1⟩, hh_6.2.2.1.sub (L1 := [(r0, 16, 51, .ref ywd_1), (r0, 16, 52, .ref yws_1), (r0, 16, 53, .ref ywi_1), (r0, 16, 54, .ref ywu_1), (r0, 16, 55, .ref ywe_1), (r0, 16, 49, .ref ywo_1), (r0, 16, 48, .int wn_1)]) [0, 1, 2, 3, 4, 5, 6] rfl, hh_6.2.2.2.2.2.2.2.1.sub (L1 := [(ywd_1, 206, 12, ca 1, wd_1), (yws_1, 104, 12, ca 3, ws_1), (ywi_1, 116, 12, ca 1, wi_1), (ywu_1, 126, 240, ca 1, wu_1), (ywe_1, 203, 12, ca 1, we_1)]) [0, 1, 2, 3, 4] rfl, hh_6.iv 0 rfl, hoR_1⟩
      have hh_45 := hh_6.sub (L1 := [(r0, 16, 51, .ref ywd_1), (r0, 16, 52, .ref yws_1), (r0, 16, 53, .ref ywi_1), (r0, 16, 54, .ref ywu_1), (r0, 16, 55, .ref ywe_1), (r0, 16, 49, .ref ywo_1), (r0, 16, 48, .int wn_1), (r0, 16, 17, .ref zm), (r0, 16, 18, .ref xh), (r0, 16, 19, .ref xn), (r0, 16, 20, .ref xf), (r0, 16, 21, .ref xt), (r0, 16, 22, .ref xb), (r0, 16, 23, .ref xe), (r0, 16, 24, .ref xi), (r0, 16, 25, .ref xg), (r0, 16, 27, .ref xp)]) [0, 1, 2, 3, 4, 5, 6, 7, 8, 9, 10, 11, 12, 13, 14, 15, 16] rfl (M1 := [(ywd_1, 206, 12, ca 1, wd_1), (yws_1, 104, 12, ca 3, ws_1), (ywi_1, 116, 12, ca 1, wi_1), (ywu_1, 126, 240, ca 1, wu_1), (ywe_1, 203, 12, ca 1, we_1), (zm, 117, 3100, ca 1, ms), (xh, 118, 3100, ca 1, mh), (xn, 119, 3100, ca 1, mx), (xf, 120, 3100, ca 1, mf), (xt, 121, 3100, ca 1, mt), (xb, 122, 3100, ca 1, mb), (xe, 123, 3100, ca 1, me), (xi, 124, 3100, ca 3, mi), (xg, 125, 3100, ca 1, mn), (xp, 127, 3300, ca 1, fu)]) [0, 1, 2, 3, 4, 5, 6, 7, 8, 9, 10, 11, 12, 13, 14] rfl (I1 := []) [] rfl
      clear hh_6
      have hh_46 := hh_45.addI (jHw.ie hHf_44)
      clear hh_45
      rw [hQ]
      exact W.zret (v := 0) hx hb hr (jb_nz (Or.inl rfl)) (fun t ht hW => ⟨⟨0, (), rfl, ⟨(Or.inl rfl), Or.inr ⟨hk0, jwIq.n ha9 ha3 (jwId.nk (by rcases hi_6 with h | h; exact Or.inr ⟨by have h9 := hqz_4; have h8 := h.1; omega, h.2⟩; exact Or.inl ⟨by have h9 := hqz_4; have h8 := h.1; omega, h.2⟩))⟩⟩, ⟨hh_46.rt (M1 := []) [] rfl ht, by rw [ht]; exact hh_46.2.2.2.2.2.2.2.2.sub (L1 := [(jFHw, jHw dC dI ca G0 r0 WW)]) [0] rfl⟩⟩, by rw [ht]; try exact hh_46.1.1, fun q h9 hq => by rw [ht]; try exact hh_46.1.2.1 q h9 hq⟩) hh_46.1.2.2 dX14_isIdOf_25
  refine lv_icmp_ne (tgt := 20) hx hb dX14_isIdOf_13 (by decide) (fun c_47 => ?_) (fun c_47 => ?_)
  · skip
    have c_47' : z_5.toInt ≠ 4 := jb_ne (rfl) ((by decide)) c_47
    refine lv_iconst (v := 0) hx hb dX14_isIdOf_20 (by decide) ?_
    exact C21 0 _ _ hh_3 (Or.inl rfl) (Or.inr ⟨hk0, (hst9.resolve_left (fun q => by have h9 := hqz_5; have q1 := q.1; omega)).2⟩) _ (lv_sub hl [0, 1, 2] rfl)
  · skip
    have c_47' : z_5.toInt = 4 := jb_ne_n (rfl) ((by decide)) c_47
    refine lv_iconst (v := 1) hx hb dX14_isIdOf_16 (by decide) ?_
    refine lv_goto (tgt := 21) hx hb dX14_isIdOf_17 (by decide) ?_
    exact C21 1 _ _ hh_3 (Or.inr rfl) (Or.inl ⟨hk1, (hst9.resolve_right (fun q => q.1 (by have h9 := hqz_5; omega))).2.1⟩) _ (lv_sub hl [0, 1, 2] rfl)
set_option maxHeartbeats 4000000 in
set_option maxRecDepth 20000 in
theorem uX14_modifiedT (l : Launch) (dC : Nat → ClassId) (dI : Nat → Nat → Nat) (ca : Nat → ClassId) (base : Nat) (B : jF) (hB : jBok B) (hAp : jAp (dC, dI)) (hB14 : ∀ n G a H, B 14 n G a H ↔ jOb (dC, dI) 14 11 (F14 n G) a H) (hB16 : ∀ n G a H, B 16 n G a H ↔ jOb (dC, dI) 16 74 (F16 n G) a H) (hB101 : ∀ n G a H, B 101 n G a H ↔ jAr (dC, dI) (ca 1) (fun j z => True) n a H) (hB103 : ∀ n G a H, B 103 n G a H ↔ jAr (dC, dI) (ca 3) (fun j z => (z = 0 ∨ z = 1)) n a H) (hB104 : ∀ n G a H, B 104 n G a H ↔ jAr (dC, dI) (ca 3) (fun j z => (z = 0 ∨ z = 1)) n a H) (hB116 : ∀ n G a H, B 116 n G a H ↔ jAr (dC, dI) (ca 1) (fun j z => True) n a H) (hB126 : ∀ n G a H, B 126 n G a H ↔ jAr (dC, dI) (ca 1) (fun j z => True) n a H) (hB202 : ∀ n G a H, B 202 n G a H ↔ jAq (dC, dI) (ca 4) (jQn 14 0) n G a H) (hB203 : ∀ n G a H, B 203 n G a H ↔ jAr (dC, dI) (ca 1) (fun j z => -3300 ≤ z.toInt ∧ z.toInt ≤ 20) n a H) (hB204 : ∀ n G a H, B 204 n G a H ↔ jAr (dC, dI) (ca 1) (fun j z => -3100 ≤ z.toInt ∧ z.toInt ≤ 3100) n a H) (hB206 : ∀ n G a H, B 206 n G a H ↔ jAr (dC, dI) (ca 1) (fun j z => 0 ≤ z.toInt ∧ z.toInt ≤ 40) n a H) (G0 : jT) (H0 : Heap) (r0 : Nat) (r1 : Nat) (WW : List jwA) : Met l yX14_modified (jw yX14_modified cX14_modified 3 none) ({ frames := 15, cells := 0, slots := 0, locals := 526 }) (va_Pc [.ref r0, .ref r1] (fun U => U.heap = H0 ∧ jX B base G0 [] H0 ∧ jG dC dI ca base U ∧ jK2 dC dI ca U ∧ G0 r1 = some (14, 0) ∧ G0 r0 = some (16, 0) ∧ jP (dC, dI) G0 H0 [] ∧ jIs (dC, dI) G0 H0 [(jFHw, jHw dC dI ca G0 r0 WW)] ∧ True)) (va_Qv (S := Unit) (fun u => True) (fun u t => (jRt (dC, dI) B base G0 EX14_modifiedT H0 [] t.heap) ∧ jIs (dC, dI) G0 t.heap [(jFHw, jHw dC dI ca G0 r0 (WW.filter (fun a : jwA => !decide (a.1 = r1))))]) (jA base)) 0 0 (jA base) := by
  refine Met.ofW (cc := cX14_modified) (maxL := 3) (ret := none) (by decide) rfl ?_
  intro p e s m args below meth c s₁ Bd hml hv
  obtain ⟨rfl, hH0, hX, hG, hK2, hg_r1, hg_r0, hP0, hI0, hp0⟩ := hv
  have hK := hG.1
  have hx := Bd.exec
  have hb := Bd.bytes
  have hr := Bd.returns
  have hts := atoms_spec (ws := (jw yX14_modified cX14_modified 3 none)) Bd.pre
  have htw : ∀ w ∈ jWl, w.before _ s = true := fun w h => hts w (List.mem_cons_of_mem _ h)
  have hown : s.vm.findClass RX14 = some m.cls := findClass_of_methodNamed Bd.named
  have hlocks := Bd.notSynchronized
  obtain ⟨Q, hQ⟩ : ∃ Q, Q = MQ below (va_Qv (S := Unit) (fun u => True) (fun u t => (jRt (dC, dI) B base G0 EX14_modifiedT H0 [] t.heap) ∧ jIs (dC, dI) G0 t.heap [(jFHw, jHw dC dI ca G0 r0 (WW.filter (fun a : jwA => !decide (a.1 = r1))))]) (jA base)) ([.ref r0, .ref r1] : List Value).toArray s 0 0 (jA base) := ⟨_, rfl⟩
  rw [← hQ]
  have hl := lv_entry ([.ref r0, .ref r1]) (n := 3) (Nat.le_of_ble_eq_true rfl)
  rw [lg_entry_eq]
  generalize (lg_sl ([.ref r0, .ref r1]) ++ List.replicate (3 - (lg_sl ([.ref r0, .ref r1])).length) Slot.unset).toArray = ls at hl ⊢
  have hl : lv_has ls 3 [(0, .ref r0), (1, .ref r1)] := hl
  generalize hR : (headSpec (jw yX14_modified cX14_modified 3 none) ({ frames := 15, cells := 0, slots := 0, locals := 526 })).room = R
  subst hH0
  have hh : jSt (dC, dI) B base G0 G0 EX14_modifiedT s.heap 0 0 [] [] [(jFHw, jHw dC dI ca G0 r0 WW)] s.heap [] := jSt.start hX hP0 jMc.nil hI0
  clear hX hP0
  have hkm32801 : ((-32801) : Int32).toInt = (-32801) := by decide
  have hk0 : (0 : Int32).toInt = 0 := by decide
  have hk1 : (1 : Int32).toInt = 1 := by decide
  have hly_16_48 := htw (u_lay RX14 TX14 48) (jWc_wsX140 _ (u_in_lay (by decide)))
  have hly_16_49 := htw (u_lay RX14 TX14 49) (jWc_wsX140 _ (u_in_lay (by decide)))
  have hlk_711 := (htw (.fieldLink RX14 711 "ProofServerModel" "waits" "I") (jWr_58 _ (List.mem_of_getElem? (i := 11) rfl)))
  have hlk_91 := (htw (.fieldLink RX14 91 "ProofServerModel" "waitOf" "[LProofServerModel$Document;") (jWr_12 _ (List.mem_of_getElem? (i := 0) rfl)))
  have hcs_721 := htw (.constant RX14 721 (-32801)) (jWr_74 _ (List.mem_of_getElem? (i := 2) rfl))
  refine lv_iconst (v := 0) hx hb dX14_modified_0 (by decide) ?_
  refine lv_istore_n (lv' := [(2, .int 0), (0, .ref r0), (1, .ref r1)]) hx hb dX14_modified_1 rfl hl (by decide) rfl (fun ls hl => ?_)
  have L2 : ∀ (N : Nat) (v2_1 : Int32) (WWx_1 : List jwA) (H_1 : Heap) (locs_1 : List Loc), jSt (dC, dI) B base G0 G0 EX14_modifiedT s.heap 0 0 [] [] [(jFHw, jHw dC dI ca G0 r0 WWx_1)] H_1 locs_1 → (0 ≤ v2_1.toInt ∧ v2_1.toInt ≤ (WWx_1.length : Int) ∧ jwPs (fun a : jwA => !decide (a.1 = r1)) WW WWx_1 v2_1.toInt) → (((WWx_1.length : Int) - v2_1.toInt) : Int) < N → ∀ ls : Array Slot, lv_has ls 3 [(0, .ref r0), (1, .ref r1), (2, .int v2_1)] → W p l e R s m ([.ref r0, .ref r1] : List Value).toArray below meth c H_1 locs_1 0 0 Q (F0 m 2 ls []) := by
    intro N
    induction N with
    | zero => intro v2_1 WWx_1 H_1 locs_1 hh_1  hi_1 hm; exact absurd hm (by omega)
    | succ N L2 =>
      intro v2_1 WWx_1 H_1 locs_1 hh_1  hi_1 hm_1 ls hl
      obtain ⟨hi_1_0, hi_1_1, hi_1_2⟩ := hi_1
      refine lv_iload_n hx hb dX14_modified_2 rfl (lv_at hl 2 rfl) ?_
      obtain ⟨ywd_2, yws_2, ywi_2, ywu_2, ywe_2, ywo_2, wn_2, wd_2, ws_2, wi_2, wu_2, we_2, wo_2, -, ⟨hgwd_2, hgws_2, hgwi_2, hgwu_2, hgwe_2, hgwo_2⟩, hoP_2, hoM_2, hqwo_2, hoR_2⟩ := hh_1.iv 0 rfl
      have hh_3 := ((hh_1.sub (L1 := []) [] rfl (M1 := []) [] rfl (I1 := []) [] rfl).more hoP_2).moreM hoM_2
      clear hh_1
      have hh_4 := hh_3.addI (jQc.ie hqwo_2 hgwo_2 (by decide) (by decide))
      clear hh_3
      have hwl9 := hoR_2
      have hwb9 := And.intro hoR_2.1 hoR_2.2.1
      have hps9 := hi_1_2
      refine lv_aload_n hx hb dX14_modified_3 rfl (lv_at hl 0 rfl) ?_
      refine j7_read hx hb hown hK (C := RX14) (T := TX14) (N := 74) rfl hly_16_48 hlk_711 (hh_4.at 6 rfl) dX14_modified_4 ?_
      refine lv_icmp_ge (tgt := 41) hx hb dX14_modified_7 (by decide) (fun c_5 => ?_) (fun c_5 => ?_)
      · skip
        have c_5' : v2_1.toInt ≥ wn_2.toInt := jb_ge (rfl) (rfl) c_5
        have hHf_6 : jHw dC dI ca G0 r0 WWx_1 H_1 := ⟨ywd_2, yws_2, ywi_2, ywu_2, ywe_2, ywo_2, wn_2, wd_2, ws_2, wi_2, wu_2, we_2, wo_2, ⟨_, hg_r0⟩, ⟨hgwd_2, hgws_2, hgwi_2, hgwu_2, hgwe_2, hgwo_2⟩, hh_4.2.2.1.sub (L1 := [(r0, 16, 51, .ref ywd_2), (r0, 16, 52, .ref yws_2), (r0, 16, 53, .ref ywi_2), (r0, 16, 54, .ref ywu_2), (r0, 16, 55, .ref ywe_2), (r0, 16, 49, .ref ywo_2), (r0, 16, 48, .int wn_2)]) [0, 1, 2, 3, 4, 5, 6] rfl, hh_4.2.2.2.2.2.2.2.1.sub (L1 := [(ywd_2, 206, 12, ca 1, wd_2), (yws_2, 104, 12, ca 3, ws_2), (ywi_2, 116, 12, ca 1, wi_2), (ywu_2, 126, 240, ca 1, wu_2), (ywe_2, 203, 12, ca 1, we_2)]) [0, 1, 2, 3, 4] rfl, hh_4.iv 0 rfl, hoR_2⟩
        have hh_7 := hh_4.sub (L1 := [(r0, 16, 51, .ref ywd_2), (r0, 16, 52, .ref yws_2), (r0, 16, 53, .ref ywi_2), (r0, 16, 54, .ref ywu_2), (r0, 16, 55, .ref ywe_2), (r0, 16, 49, .ref ywo_2), (r0, 16, 48, .int wn_2)]) [0, 1, 2, 3, 4, 5, 6] rfl (M1 := [(ywd_2, 206, 12, ca 1, wd_2), (yws_2, 104, 12, ca 3, ws_2), (ywi_2, 116, 12, ca 1, wi_2), (ywu_2, 126, 240, ca 1, wu_2), (ywe_2, 203, 12, ca 1, we_2)]) [0, 1, 2, 3, 4] rfl (I1 := []) [] rfl
        clear hh_4
        have hh_8 := hh_7.addI (jHw.ie hHf_6)
        clear hh_7
        have hfe9 := hps9.e (by omega)
        have hA_9 : WWx_1 = (WW.filter (fun a : jwA => !decide (a.1 = r1))) := hfe9
        have hAe_9 : jHw dC dI ca G0 r0 (WW.filter (fun a : jwA => !decide (a.1 = r1))) H_1 := by rw [← hA_9]; exact hh_8.iv 0 rfl
        have hh_10 := hh_8.sub (L1 := [(r0, 16, 51, .ref ywd_2), (r0, 16, 52, .ref yws_2), (r0, 16, 53, .ref ywi_2), (r0, 16, 54, .ref ywu_2), (r0, 16, 55, .ref ywe_2), (r0, 16, 49, .ref ywo_2), (r0, 16, 48, .int wn_2)]) [0, 1, 2, 3, 4, 5, 6] rfl (M1 := [(ywd_2, 206, 12, ca 1, wd_2), (yws_2, 104, 12, ca 3, ws_2), (ywi_2, 116, 12, ca 1, wi_2), (ywu_2, 126, 240, ca 1, wu_2), (ywe_2, 203, 12, ca 1, we_2)]) [0, 1, 2, 3, 4] rfl (I1 := []) [] rfl
        clear hh_8
        have hh_11 := hh_10.addI (jHw.ie hAe_9)
        clear hh_10
        rw [hQ]
        exact W.vret hx hb hr (fun t ht hW => ⟨⟨(), rfl, trivial, ⟨hh_11.rt (M1 := []) [] rfl ht, by rw [ht]; exact hh_11.2.2.2.2.2.2.2.2.sub (L1 := [(jFHw, jHw dC dI ca G0 r0 (WW.filter (fun a : jwA => !decide (a.1 = r1))))]) [0] rfl⟩⟩, by rw [ht]; try exact hh_11.1.1, fun q h9 hq => by rw [ht]; try exact hh_11.1.2.1 q h9 hq⟩) hh_11.1.2.2 dX14_modified_41
      · skip
        have c_5' : v2_1.toInt < wn_2.toInt := jb_ge_n (rfl) (rfl) c_5
        obtain ⟨a9, ha9, ha1, ha2, ha3, ha4⟩ := hwl9.el (i := v2_1.toInt) (by omega) (by omega)
        refine lv_aload_n hx hb dX14_modified_10 rfl (lv_at hl 0 rfl) ?_
        refine j7_read hx hb hown hK (C := RX14) (T := TX14) (N := 74) rfl hly_16_49 hlk_91 (hh_4.at 5 rfl) dX14_modified_11 ?_
        refine lv_iload_n hx hb dX14_modified_14 rfl (lv_at hl 2 rfl) ?_
        refine j7_qaldI hx hb hK2 hh_4 hB202 0 rfl (by decide) hgwo_2 (x := v2_1.toInt) (rfl) (by omega) (hh_4.iv 0 rfl) dX14_modified_15 (fun o_12 ho_12 heo_12 => ?_)
        rcases ho_12 with rfl | ⟨el_13, rfl, hg_el_13⟩
        · simp only [va_rf]
          exact absurd (heo_12.trans ha1) (by simp)
        · simp only [va_rf]
          refine lv_aload_n hx hb dX14_modified_16 rfl (lv_at hl 1 rfl) ?_
          refine lv_acmp_ne (rx := (some el_13)) (ry := (some r1)) (tgt := 35) hx hb dX14_modified_17 (by decide) (fun c_14 => ?_) (fun c_14 => ?_)
          · skip
            have hHf_15 : jHw dC dI ca G0 r0 WWx_1 H_1 := ⟨ywd_2, yws_2, ywi_2, ywu_2, ywe_2, ywo_2, wn_2, wd_2, ws_2, wi_2, wu_2, we_2, wo_2, ⟨_, hg_r0⟩, ⟨hgwd_2, hgws_2, hgwi_2, hgwu_2, hgwe_2, hgwo_2⟩, hh_4.2.2.1.sub (L1 := [(r0, 16, 51, .ref ywd_2), (r0, 16, 52, .ref yws_2), (r0, 16, 53, .ref ywi_2), (r0, 16, 54, .ref ywu_2), (r0, 16, 55, .ref ywe_2), (r0, 16, 49, .ref ywo_2), (r0, 16, 48, .int wn_2)]) [0, 1, 2, 3, 4, 5, 6] rfl, hh_4.2.2.2.2.2.2.2.1.sub (L1 := [(ywd_2, 206, 12, ca 1, wd_2), (yws_2, 104, 12, ca 3, ws_2), (ywi_2, 116, 12, ca 1, wi_2), (ywu_2, 126, 240, ca 1, wu_2), (ywe_2, 203, 12, ca 1, we_2)]) [0, 1, 2, 3, 4] rfl, hh_4.iv 0 rfl, hoR_2⟩
            have hh_16 := hh_4.sub (L1 := [(r0, 16, 51, .ref ywd_2), (r0, 16, 52, .ref yws_2), (r0, 16, 53, .ref ywi_2), (r0, 16, 54, .ref ywu_2), (r0, 16, 55, .ref ywe_2), (r0, 16, 49, .ref ywo_2), (r0, 16, 48, .int wn_2)]) [0, 1, 2, 3, 4, 5, 6] rfl (M1 := [(ywd_2, 206, 12, ca 1, wd_2), (yws_2, 104, 12, ca 3, ws_2), (ywi_2, 116, 12, ca 1, wi_2), (ywu_2, 126, 240, ca 1, wu_2), (ywe_2, 203, 12, ca 1, we_2)]) [0, 1, 2, 3, 4] rfl (I1 := []) [] rfl
            clear hh_4
            have hh_17 := hh_16.addI (jHw.ie hHf_15)
            clear hh_16
            have hen9 : (fun a : jwA => !decide (a.1 = r1)) a9 = true := by have h9 := Option.some.inj (heo_12.trans ha1); have h8 : a9.1 ≠ r1 := (fun e => c_14 (by rw [h9, e])); show (!decide (a9.1 = r1)) = true; simp [h8]
            obtain ⟨z_18, ez_18⟩ : ∃ y : Int32, y = v2_1 + 1 := ⟨_, rfl⟩
            refine lv_iinc (v := z_18) (lv' := [(2, .int z_18), (0, .ref r0), (1, .ref r1)]) hx hb dX14_modified_35 hl (k := 2) rfl (by rw [ez_18]; rfl) (by decide) rfl (fun ls hl => ?_)
            have hz_18 : z_18.toInt = v2_1.toInt + 1 := by rw [ez_18]; exact jb_iadd2 (rfl) (by decide) (by omega)
            refine lv_goto (tgt := 2) hx hb dX14_modified_38 (by decide) ?_
            exact L2 z_18 WWx_1 _ _ (hh_17.sub (L1 := []) [] rfl (M1 := []) [] rfl (I1 := [(jFHw, jHw dC dI ca G0 r0 WWx_1)]) [0] rfl) (by have h9 := hps9.k ha9 hen9 (show (z_18).toInt = v2_1.toInt + 1 by omega); exact ⟨h9.1, h9.2.1, h9⟩) (by omega) _ (lv_sub hl [1, 2, 0] rfl)
          · skip
            have hHf_19 : jHw dC dI ca G0 r0 WWx_1 H_1 := ⟨ywd_2, yws_2, ywi_2, ywu_2, ywe_2, ywo_2, wn_2, wd_2, ws_2, wi_2, wu_2, we_2, wo_2, ⟨_, hg_r0⟩, ⟨hgwd_2, hgws_2, hgwi_2, hgwu_2, hgwe_2, hgwo_2⟩, hh_4.2.2.1.sub (L1 := [(r0, 16, 51, .ref ywd_2), (r0, 16, 52, .ref yws_2), (r0, 16, 53, .ref ywi_2), (r0, 16, 54, .ref ywu_2), (r0, 16, 55, .ref ywe_2), (r0, 16, 49, .ref ywo_2), (r0, 16, 48, .int wn_2)]) [0, 1, 2, 3, 4, 5, 6] rfl, hh_4.2.2.2.2.2.2.2.1.sub (L1 := [(ywd_2, 206, 12, ca 1, wd_2), (yws_2, 104, 12, ca 3, ws_2), (ywi_2, 116, 12, ca 1, wi_2), (ywu_2, 126, 240, ca 1, wu_2), (ywe_2, 203, 12, ca 1, we_2)]) [0, 1, 2, 3, 4] rfl, hh_4.iv 0 rfl, hoR_2⟩
            have hh_20 := hh_4.sub (L1 := [(r0, 16, 51, .ref ywd_2), (r0, 16, 52, .ref yws_2), (r0, 16, 53, .ref ywi_2), (r0, 16, 54, .ref ywu_2), (r0, 16, 55, .ref ywe_2), (r0, 16, 49, .ref ywo_2), (r0, 16, 48, .int wn_2)]) [0, 1, 2, 3, 4, 5, 6] rfl (M1 := [(ywd_2, 206, 12, ca 1, wd_2), (yws_2, 104, 12, ca 3, ws_2), (ywi_2, 116, 12, ca 1, wi_2), (ywu_2, 126, 240, ca 1, wu_2), (ywe_2, 203, 12, ca 1, we_2)]) [0, 1, 2, 3, 4] rfl (I1 := []) [] rfl
            clear hh_4
            have hh_21 := hh_20.addI (jHw.ie hHf_19)
            clear hh_20
            have hey9 : ¬ (fun a : jwA => !decide (a.1 = r1)) a9 = true := by have h9 := Option.some.inj (heo_12.trans ha1); have h8 := Option.some.inj c_14; show ¬ (!decide (a9.1 = r1)) = true; rw [← h9, h8]; simp
            have hle9 : (WWx_1.eraseIdx v2_1.toInt.toNat).length = WWx_1.length - 1 := by rw [List.length_eraseIdx, if_pos (by omega)]
            refine lv_aload_n hx hb dX14_modified_20 rfl (lv_at hl 0 rfl) ?_
            refine lv_iload_n hx hb dX14_modified_21 rfl (lv_at hl 2 rfl) ?_
            refine va_callv (A0 := jA base) (H0 := s.heap) (va_runV (As := [.int v2_1]) (rest := []) ⟨hx, hb, hml, hown, hts⟩ (uX14_releaseT l dC dI ca base B hB hAp hB14 hB16 hB101 hB103 hB104 hB116 hB126 hB202 hB203 hB204 hB206 G0 H_1 r0 v2_1 WWx_1) (cwV 1 hts (jgV (jWr_69 _ (List.mem_of_getElem? (i := 15) rfl)) (jWr_69 _ (List.mem_of_getElem? (i := 16) rfl)) (jWr_69 _ (List.mem_of_getElem? (i := 17) rfl)) (jWr_1 _ (List.mem_of_getElem? (i := 5) rfl)) (jWr_69 _ (List.mem_of_getElem? (i := 18) rfl))) rfl rfl rfl (by decide +kernel) ⟨by rw [← hR]; exact Nat.le_of_ble_eq_true rfl, by rw [← hR]; exact Nat.le_of_ble_eq_true rfl⟩) ⟨fun a U g mk q => by obtain ⟨q0, q1, q2, qK, q10, q11, q12, q13, q14⟩ := q; exact ⟨q0, q1, q2, jG.calling g mk a qK, (va_K.moved (Vm.Alike.refl U.vm) q10), q11, q12, q13, q14⟩, hh_21.recv (C := RX14) (T := TX14) (N := 74) hB16 rfl (by decide) hg_r0 hK, fun U hU hW => ⟨rfl, hU, hh_21.2.1, hG.step hW hU hh_21.1, va_K.moved hW.alike hK2, hg_r0, jP.nil, (hh_21.2.2.2.2.2.2.2.2.sub (L1 := [(jFHw, jHw dC dI ca G0 r0 WWx_1)]) [0] rfl), ⟨(by first | omega | rfl | assumption | omega), (by first | omega | rfl | assumption | omega)⟩⟩⟩ rfl rfl hl.1 rfl (lv_room (Nat.le_of_ble_eq_true rfl)) dX14_modified_22 ⟨Nat.zero_le _, Nat.zero_le _⟩) hh_21.1 (fun q _ h => h) (fun q h => h) (fun u_22 t_22 H_22 locs_22 ht_22 hvm_22 hr_23 hb_22 hz_22 hk_22 hS_22 => ?_)
            rw [ht_22] at hb_22
            obtain ⟨hb_22, hbE_22⟩ := hb_22
            obtain ⟨hb_221, hb_222, hb_223, hb_224, hb_225⟩ := hb_22
            have hh_22 : jSt (dC, dI) B base G0 G0 EX14_modifiedT s.heap 0 0 [(r0, 16, 51, .ref ywd_2), (r0, 16, 52, .ref yws_2), (r0, 16, 53, .ref ywi_2), (r0, 16, 54, .ref ywu_2), (r0, 16, 55, .ref ywe_2), (r0, 16, 49, .ref ywo_2)] [] [(jFHw, jHw dC dI ca G0 r0 (WWx_1.eraseIdx (v2_1.toInt).toNat))] H_22 locs_22 := (((hh_21.call hb_221 hb_222 hb_223 hb_224 hS_22 rfl (L1 := [(r0, 16, 51, .ref ywd_2), (r0, 16, 52, .ref yws_2), (r0, 16, 53, .ref ywi_2), (r0, 16, 54, .ref ywu_2), (r0, 16, 55, .ref ywe_2), (r0, 16, 49, .ref ywo_2)]) [0, 1, 2, 3, 4, 5] rfl rfl (M1 := []) [] rfl rfl (I1 := []) [] rfl rfl).more hb_225)).addIs hbE_22
            clear hh_21 ht_22 hvm_22 hz_22 hk_22 hS_22 hb_221 hb_222 hb_223 hb_224 hb_225
            clear  hbE_22
            refine lv_aload_n hx hb dX14_modified_25 rfl (lv_at hl 0 rfl) ?_
            refine lv_ldcw hx hb hown hcs_721 dX14_modified_26 ?_
            refine va_callv (A0 := jA base) (H0 := s.heap) (va_runV (As := [.int (-32801)]) (rest := []) ⟨hx, hb, hml, hown, hts⟩ (uX14_error l dC dI ca base B hB hAp hB16 hB101 G0 H_22 r0 (-32801)) (cwV 1 hts (jgV (jWr_53 _ (List.mem_of_getElem? (i := 9) rfl)) (jWr_53 _ (List.mem_of_getElem? (i := 10) rfl)) (jWr_53 _ (List.mem_of_getElem? (i := 11) rfl)) (jWr_1 _ (List.mem_of_getElem? (i := 5) rfl)) (jWr_53 _ (List.mem_of_getElem? (i := 12) rfl))) rfl rfl rfl (by decide +kernel) ⟨by rw [← hR]; exact Nat.le_of_ble_eq_true rfl, by rw [← hR]; exact Nat.le_of_ble_eq_true rfl⟩) ⟨fun a U g mk q => by obtain ⟨q0, q1, q2, qK, q10, q11, q12⟩ := q; exact ⟨q0, q1, q2, jG.calling g mk a qK, q10, q11, q12⟩, hh_22.recv (C := RX14) (T := TX14) (N := 74) hB16 rfl (by decide) hg_r0 hK, fun U hU hW => ⟨rfl, hU, hh_22.2.1, hG.step hW hU hh_22.1, hg_r0, jP.nil, trivial⟩⟩ rfl rfl hl.1 rfl (lv_room (Nat.le_of_ble_eq_true rfl)) dX14_modified_29 ⟨Nat.zero_le _, Nat.zero_le _⟩) hh_22.1 (fun q _ h => h) (fun q h => h) (fun u_24 t_24 H_24 locs_24 ht_24 hvm_24 hr_25 hb_24 hz_24 hk_24 hS_24 => ?_)
            rw [ht_24] at hb_24
            obtain ⟨hb_241, hb_242, hb_243, hb_244, hb_245⟩ := hb_24
            have hh_24 : jSt (dC, dI) B base G0 G0 EX14_modifiedT s.heap 0 0 [(r0, 16, 51, .ref ywd_2), (r0, 16, 52, .ref yws_2), (r0, 16, 53, .ref ywi_2), (r0, 16, 54, .ref ywu_2), (r0, 16, 55, .ref ywe_2), (r0, 16, 49, .ref ywo_2)] [] [(jFHw, jHw dC dI ca G0 r0 (WWx_1.eraseIdx (v2_1.toInt).toNat))] H_24 locs_24 := ((hh_22.call hb_241 hb_242 hb_243 hb_244 hS_24 rfl (L1 := [(r0, 16, 51, .ref ywd_2), (r0, 16, 52, .ref yws_2), (r0, 16, 53, .ref ywi_2), (r0, 16, 54, .ref ywu_2), (r0, 16, 55, .ref ywe_2), (r0, 16, 49, .ref ywo_2)]) [0, 1, 2, 3, 4, 5] rfl rfl (M1 := []) [] rfl rfl (I1 := [(jFHw, jHw dC dI ca G0 r0 (WWx_1.eraseIdx (v2_1.toInt).toNat))]) [0] rfl rfl).more hb_245)
            clear hh_22 ht_24 hvm_24 hz_24 hk_24 hS_24 hb_241 hb_242 hb_243 hb_244 hb_245
            refine lv_goto (tgt := 2) hx hb dX14_modified_32 (by decide) ?_
            exact L2 v2_1 (WWx_1.eraseIdx (v2_1.toInt).toNat) _ _ (hh_24.sub (L1 := []) [] rfl (M1 := []) [] rfl (I1 := [(jFHw, jHw dC dI ca G0 r0 (WWx_1.eraseIdx (v2_1.toInt).toNat))]) [0] rfl) (by have h9 := hps9.d ha9 hey9; exact ⟨h9.1, h9.2.1, h9⟩) (by omega) _ (lv_sub hl [0, 1, 2] rfl)
  exact L2 (((WW.length : Int) - (0 : Int32).toInt) : Int).toNat.succ 0 WW _ _ hh (⟨by omega, by omega, jwPs.st (by omega)⟩) (by omega) _ (lv_sub hl [1, 2, 0] rfl)
end
section
-- p8: the reference's scheduler as one entry: S, Z
section J86
variable {dC : Nat → ClassId} {dI : Nat → Nat → Nat} {ca : Nat → ClassId} {G G1 : jT} {H : Heap} {r : Nat} {S : Int × (Int → jdD)} {Z : jwSt}
theorem jBZ.grow {ks : List Nat} (h : jBZ dC dI ca G r S Z H) (hle : jLe G G1) (hN : jNk ks G G1) (hk : ks.contains 14 = true) : jBZ dC dI ca G1 r S Z H := by
  obtain ⟨t, q, fd, dc, co, cs, cl, W, ol, nw, td, h1, h2, h3, h4, h5, h6, h7, h8⟩ := h
  exact ⟨t, q, fd, dc, co, cs, cl, W, ol, nw, td, h1.grow hle, jRD.grow h2 hle (fun a h => hN a 14 0 h hk), h3.grow hle hN hk, h4.grow hle, h5.grow hle, h6.grow hle, h7.grow hle, h8⟩
end J86
end
section
-- p8: what holds of the machine between two steps
section J89
variable {S : Int × (Int → jdD)} {Z : jwSt} {w d : Int}
theorem jwAk.z : jwAk S Z 0 = Z := rfl
end J89
end
