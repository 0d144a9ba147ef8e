def EX14_settleChecksK : List (Nat × Nat) := [(14, 5), (14, 9), (190, 0), (191, 0), (192, 0), (208, 0)]
set_option maxHeartbeats 4000000 in
set_option maxRecDepth 20000 in
theorem uX14_settleChecksK (l : Launch) (dC : Nat → ClassId) (dI : Nat → Nat → Nat) (ca : Nat → ClassId) (base : Nat) (B : jF) (hB : jBok B) (hAp : jAp (dC, dI)) (hB14 : ∀ n G a H, B 14 n G a H ↔ jOb (dC, dI) 14 11 (F14 n G) a H) (hB16 : ∀ n G a H, B 16 n G a H ↔ jOb (dC, dI) 16 74 (F16 n G) a H) (hB101 : ∀ n G a H, B 101 n G a H ↔ jAr (dC, dI) (ca 1) (fun j z => True) n a H) (hB190 : ∀ n G a H, B 190 n G a H ↔ jAr (dC, dI) (ca 1) (fun j z => 0 ≤ z.toInt ∧ z.toInt ≤ 1500) n a H) (hB191 : ∀ n G a H, B 191 n G a H ↔ jAr (dC, dI) (ca 1) (fun j z => 0 ≤ z.toInt ∧ z.toInt ≤ 1500) n a H) (hB192 : ∀ n G a H, B 192 n G a H ↔ jAr (dC, dI) (ca 1) (fun j z => 0 ≤ z.toInt ∧ z.toInt ≤ 2) n a H) (hB207 : ∀ n G a H, B 207 n G a H ↔ jAr (dC, dI) (ca 1) (fun j z => 0 ≤ z.toInt ∧ z.toInt ≤ 39) n a H) (hB208 : ∀ n G a H, B 208 n G a H ↔ jAq (dC, dI) (ca 4) (jQn 14 0) n G a H) (G0 : jT) (H0 : Heap) (r0 : Nat) (r1 : Nat) (a2 : Int32) (yt : Nat) (pz : Int32) (dd : Nat) (dc : Int32) (co : Nat) (cs : Nat) (ol : Nat) (nw : Nat) (td : Nat) (sn ck : Nat → Int32) (fd fo : Nat → Option Nat) (ft : Nat → Int32) (fs : Nat → Int32) : Met l yX14_settleChecks (jw yX14_settleChecks cX14_settleChecks 4 none) ({ frames := 4, cells := 0, slots := 0, locals := 94 }) (va_Pc [.ref r0, .ref r1, .int a2] (fun U => U.heap = H0 ∧ jX B base G0 [] H0 ∧ jG dC dI ca base U ∧ jK2 dC dI ca U ∧ G0 r1 = some (14, 0) ∧ G0 r0 = some (16, 0) ∧ G0 yt = some (101, 1500) ∧ G0 dd = some (201, 3) ∧ G0 co = some (208, 2) ∧ G0 cs = some (207, 2) ∧ G0 ol = some (14, 0) ∧ G0 nw = some (14, 0) ∧ G0 td = some (14, 0) ∧ jP (dC, dI) G0 H0 [(r1, 14, 3, .ref yt), (r1, 14, 4, .int pz), (r0, 16, 41, .ref dd), (r0, 16, 42, .int dc), (r0, 16, 60, .ref co), (r0, 16, 61, .ref cs), (r0, 16, 46, .ref ol), (r0, 16, 47, .ref nw), (r0, 16, 71, .ref td)] ∧ jMc (dC, dI) G0 H0 [(yt, 101, 1500, ca 1, ft), (cs, 207, 2, ca 1, fs)] ∧ jIs (dC, dI) G0 H0 [(jFs, jDY dC dI ca G0 none sn), (jF9, jVl dC dI G0 9 ck), ([(201, 0)], jQc dC dI (ca 4) dd 3 fd), ([(208, 0)], jQc dC dI (ca 4) co 2 fo)] ∧ jPu sn ck fd fo fs dc.toInt ol nw td ∧ 0 ≤ a2.toInt ∧ a2.toInt ≤ jPar ft pz.toInt ∧ 0 ≤ pz.toInt ∧ pz.toInt ≤ 1500)) (va_Qv (S := Int32 × Int32) (fun u => u.1.toInt ≤ u.2.toInt) (fun u t => (jRt (dC, dI) B base G0 EX14_settleChecksK H0 [(r1, 14, 9, .int u.1), (r1, 14, 5, .int u.2)] t.heap) ∧ jDV dC dI ca G0 r0 dd co cs ol nw td t.heap) (jA base)) 0 0 (jA base) := by
  refine Met.ofW (cc := cX14_settleChecks) (maxL := 4) (ret := none) (by decide) rfl ?_
  intro p e s m args below meth c s₁ Bd hml hv
  obtain ⟨rfl, hH0, hX, hG, hK2, hg_r1, hg_r0, hg_yt, hg_dd, hg_co, hg_cs, hg_ol, hg_nw, hg_td, hP0, hM0, hI0, hp0, hp1, hp2, hp3, hp4⟩ := hv
  have hK := hG.1
  have hx := Bd.exec
  have hb := Bd.bytes
  have hr := Bd.returns
  have hts := atoms_spec (ws := (jw yX14_settleChecks cX14_settleChecks 4 none)) Bd.pre
  have htw : ∀ w ∈ jWl, w.before _ s = true := fun w h => hts w (List.mem_cons_of_mem _ h)
  have hown : s.vm.findClass RX14 = some m.cls := findClass_of_methodNamed Bd.named
  have hlocks := Bd.notSynchronized
  obtain ⟨Q, hQ⟩ : ∃ Q, Q = MQ below (va_Qv (S := Int32 × Int32) (fun u => u.1.toInt ≤ u.2.toInt) (fun u t => (jRt (dC, dI) B base G0 EX14_settleChecksK H0 [(r1, 14, 9, .int u.1), (r1, 14, 5, .int u.2)] t.heap) ∧ jDV dC dI ca G0 r0 dd co cs ol nw td t.heap) (jA base)) ([.ref r0, .ref r1, .int a2] : List Value).toArray s 0 0 (jA base) := ⟨_, rfl⟩
  rw [← hQ]
  have hl := lv_entry ([.ref r0, .ref r1, .int a2]) (n := 4) (Nat.le_of_ble_eq_true rfl)
  rw [lg_entry_eq]
  generalize (lg_sl ([.ref r0, .ref r1, .int a2]) ++ List.replicate (4 - (lg_sl ([.ref r0, .ref r1, .int a2])).length) Slot.unset).toArray = ls at hl ⊢
  have hl : lv_has ls 4 [(0, .ref r0), (1, .ref r1), (2, .int a2)] := hl
  generalize hR : (headSpec (jw yX14_settleChecks cX14_settleChecks 4 none) ({ frames := 4, cells := 0, slots := 0, locals := 94 })).room = R
  subst hH0
  have hh : jSt (dC, dI) B base G0 G0 EX14_settleChecksK s.heap 0 0 [(r1, 14, 3, .ref yt), (r1, 14, 4, .int pz), (r0, 16, 41, .ref dd), (r0, 16, 42, .int dc), (r0, 16, 60, .ref co), (r0, 16, 61, .ref cs), (r0, 16, 46, .ref ol), (r0, 16, 47, .ref nw), (r0, 16, 71, .ref td)] [(yt, 101, 1500, ca 1, ft), (cs, 207, 2, ca 1, fs)] [(jFs, jDY dC dI ca G0 none sn), (jF9, jVl dC dI G0 9 ck), ([(201, 0)], jQc dC dI (ca 4) dd 3 fd), ([(208, 0)], jQc dC dI (ca 4) co 2 fo)] s.heap [] := jSt.start hX hP0 hM0 hI0
  clear hX hP0
  have hk0 : (0 : Int32).toInt = 0 := by decide
  have hk1 : (1 : Int32).toInt = 1 := by decide
  have hk2 : (2 : Int32).toInt = 2 := by decide
  have hly_14_9 := htw (u_lay RX12 TX12 9) (jWc_wsX120 _ (u_in_lay (by decide)))
  have hly_16_60 := htw (u_lay RX14 TX14 60) (jWc_wsX140 _ (u_in_lay (by decide)))
  have hly_16_61 := htw (u_lay RX14 TX14 61) (jWc_wsX140 _ (u_in_lay (by decide)))
  have hlk_531 := (va_Nw.use (A := ([.ref r0, .ref r1, .int a2] : List Value).toArray) rfl (hG.2.1 RX14 531 "ProofServerModel$Document" "checked" "I" "ProofServerModel" (List.mem_of_getElem? (i := 1744) (by decide +kernel))))
  have hlk_129 := (htw (.fieldLink RX14 129 "ProofServerModel" "checkOf" "[LProofServerModel$Document;") (jWr_12 _ (List.mem_of_getElem? (i := 15) rfl)))
  have hlk_132 := (htw (.fieldLink RX14 132 "ProofServerModel" "checkSentence" "[I") (jWr_12 _ (List.mem_of_getElem? (i := 16) rfl)))
  have hrg_a2 := jb_rng a2
  refine lv_aload_n hx hb dX14_settleChecks_0 rfl (lv_at hl 1 rfl) ?_
  have hd_1 := jDY.less (hh.iv 0 rfl) r1
  have hh_2 := hh.sub (L1 := [(r1, 14, 3, .ref yt), (r1, 14, 4, .int pz), (r0, 16, 41, .ref dd), (r0, 16, 42, .int dc), (r0, 16, 60, .ref co), (r0, 16, 61, .ref cs), (r0, 16, 46, .ref ol), (r0, 16, 47, .ref nw), (r0, 16, 71, .ref td)]) [0, 1, 2, 3, 4, 5, 6, 7, 8] rfl (M1 := [(yt, 101, 1500, ca 1, ft), (cs, 207, 2, ca 1, fs)]) [0, 1] rfl (I1 := [(jF9, jVl dC dI G0 9 ck), ([(201, 0)], jQc dC dI (ca 4) dd 3 fd), ([(208, 0)], jQc dC dI (ca 4) co 2 fo)]) [1, 2, 3] rfl
  clear hh
  have hh_3 := hh_2.addI (jDY.ie hd_1)
  clear hh_2
  obtain ⟨v_6, hv_6, hh_7⟩ := hh_3.pin (C := RX12) (T := TX12) (N := 11) hB14 rfl (by decide) hg_r1 (i := 6) (by decide) rfl
  obtain ⟨begin_8, rfl, hg_begin_8⟩ := hv_6
  obtain ⟨v_9, hv_9, hh_10⟩ := hh_7.pin (C := RX12) (T := TX12) (N := 11) hB14 rfl (by decide) hg_r1 (i := 7) (by decide) rfl
  obtain ⟨end_11, rfl, hg_end_11⟩ := hv_9
  obtain ⟨f_fb_12, hh_12⟩ := hh_10.cpin hB190 (by decide) (by decide) hg_begin_8
  clear hh_10
  obtain ⟨f_fe_13, hh_13⟩ := hh_12.cpin hB191 (by decide) (by decide) hg_end_11
  clear hh_12
  refine va_callv (A0 := jA base) (H0 := s.heap) (va_runS (As := [.ref r1]) (rest := []) ⟨hx, hb, hml, hown, hts⟩ (uX14_partD l dC dI ca base B hB hAp hB14 hB101 hB190 hB191 hB192 G0 s.heap r1 yt pz begin_8 end_11 sn ft f_fb_12 f_fe_13) (va_cwS 1 hts (jgS (jWr_57 _ (List.mem_of_getElem? (i := 10) rfl)) (jWr_57 _ (List.mem_of_getElem? (i := 11) rfl)) (jWr_1 _ (List.mem_of_getElem? (i := 5) rfl)) (jWr_57 _ (List.mem_of_getElem? (i := 12) rfl))) rfl rfl rfl (by decide +kernel) ⟨by rw [← hR]; exact Nat.le_of_ble_eq_true rfl, by rw [← hR]; exact Nat.le_of_ble_eq_true rfl⟩) ⟨fun a U g mk q => by obtain ⟨q0, q1, q2, qK, q10, q11, q12, q13, q14, q15, q16, q17⟩ := q; exact ⟨q0, q1, q2, jG.calling g mk a qK, q10, q11, q12, q13, q14, q15, q16, q17⟩, fun U hU hW => ⟨rfl, hU, hh_13.2.1, hG.step hW hU hh_13.1, hg_r1, hg_yt, hg_begin_8, hg_end_11, (hh_13.2.2.1.sub (L1 := [(r1, 14, 3, .ref yt), (r1, 14, 4, .int pz), (r1, 14, 6, .ref begin_8), (r1, 14, 7, .ref end_11)]) [2, 3, 1, 0] rfl), (hh_13.2.2.2.2.2.2.2.1.sub (L1 := [(yt, 101, 1500, ca 1, ft), (begin_8, 190, 40, ca 1, f_fb_12), (end_11, 191, 40, ca 1, f_fe_13)]) [2, 1, 0] rfl), (hh_13.2.2.2.2.2.2.2.2.sub (L1 := [(jFs, jDY dC dI ca G0 (some r1) sn)]) [0] rfl), by first | omega | (refine ⟨?_, ?_⟩ <;> (first | omega | rfl | assumption | decide | exact Or.inl rfl | exact Or.inr rfl | (simp only; omega)))⟩⟩ rfl rfl hl.1 rfl (lv_room (Nat.le_of_ble_eq_true rfl)) dX14_settleChecks_1 ⟨Nat.zero_le _, Nat.zero_le _⟩) hh_13.1 (fun q _ h => h) (fun q h => h) (fun u_4 t_4 H_4 locs_4 ht_4 hvm_4 hr_5 hb_4 hz_4 hk_4 hS_4 => ?_)
  obtain ⟨qs_4, gb_4, ge_4⟩ := u_4
  rw [ht_4] at hb_4
  obtain ⟨hb_4, hbV_4⟩ := hb_4
  obtain ⟨⟨hb_41, hb_42, hb_43, hb_44, hb_45⟩, hb_46⟩ := hb_4
  have hh_4 : jSt (dC, dI) B base G0 G0 EX14_settleChecksK s.heap 0 0 [(r1, 14, 5, .int qs_4), (r1, 14, 7, .ref end_11), (r1, 14, 6, .ref begin_8), (r1, 14, 3, .ref yt), (r1, 14, 4, .int pz), (r0, 16, 41, .ref dd), (r0, 16, 42, .int dc), (r0, 16, 60, .ref co), (r0, 16, 61, .ref cs), (r0, 16, 46, .ref ol), (r0, 16, 47, .ref nw), (r0, 16, 71, .ref td)] [(begin_8, 190, 40, ca 1, gb_4), (end_11, 191, 40, ca 1, ge_4), (yt, 101, 1500, ca 1, ft), (cs, 207, 2, ca 1, fs)] [(jFs, jDY dC dI ca G0 (some r1) sn), (jF9, jVl dC dI G0 9 ck), ([(201, 0)], jQc dC dI (ca 4) dd 3 fd), ([(208, 0)], jQc dC dI (ca 4) co 2 fo)] H_4 locs_4 := (((hh_13.call hb_41 hb_42 hb_43 hb_44 hS_4 rfl (L1 := [(r1, 14, 7, .ref end_11), (r1, 14, 6, .ref begin_8), (r1, 14, 3, .ref yt), (r1, 14, 4, .int pz), (r0, 16, 41, .ref dd), (r0, 16, 42, .int dc), (r0, 16, 60, .ref co), (r0, 16, 61, .ref cs), (r0, 16, 46, .ref ol), (r0, 16, 47, .ref nw), (r0, 16, 71, .ref td)]) [0, 1, 2, 3, 4, 5, 6, 7, 8, 9, 10] rfl rfl (M1 := [(yt, 101, 1500, ca 1, ft), (cs, 207, 2, ca 1, fs)]) [2, 3] rfl rfl (I1 := [(jF9, jVl dC dI G0 9 ck), ([(201, 0)], jQc dC dI (ca 4) dd 3 fd), ([(208, 0)], jQc dC dI (ca 4) co 2 fo)]) [1, 2, 3] rfl rfl).more hb_45).moreM hb_46).addIs hbV_4
  clear hh_13 ht_4 hvm_4 hz_4 hk_4 hS_4 hb_41 hb_42 hb_43 hb_44 hb_45
  clear hb_46
  clear hbV_4
  try simp only at hr_5
  obtain ⟨hr_5_0, hr_5_1, hr_5_2, hr_5_3⟩ := hr_5
  have hd_14 := jDY.full (hh_4.iv 0 rfl) hg_r1 hg_begin_8 hg_end_11 (hh_4.2.2.1.sub (L1 := [(r1, 14, 6, .ref begin_8), (r1, 14, 7, .ref end_11), (r1, 14, 5, .int qs_4)]) [2, 1, 0] rfl) (hh_4.2.2.2.2.2.2.2.1.sub (L1 := [(begin_8, 190, 40, ca 1, gb_4), (end_11, 191, 40, ca 1, ge_4)]) [0, 1] rfl) (hr_5_3.up (by omega)) (by omega) (by omega)
  have hh_15 := hh_4.sub (L1 := [(r1, 14, 5, .int qs_4), (r1, 14, 7, .ref end_11), (r1, 14, 6, .ref begin_8), (r1, 14, 3, .ref yt), (r1, 14, 4, .int pz), (r0, 16, 41, .ref dd), (r0, 16, 42, .int dc), (r0, 16, 60, .ref co), (r0, 16, 61, .ref cs), (r0, 16, 46, .ref ol), (r0, 16, 47, .ref nw), (r0, 16, 71, .ref td)]) [0, 1, 2, 3, 4, 5, 6, 7, 8, 9, 10, 11] rfl (M1 := [(begin_8, 190, 40, ca 1, gb_4), (end_11, 191, 40, ca 1, ge_4), (yt, 101, 1500, ca 1, ft), (cs, 207, 2, ca 1, fs)]) [0, 1, 2, 3] rfl (I1 := [(jF9, jVl dC dI G0 9 ck), ([(201, 0)], jQc dC dI (ca 4) dd 3 fd), ([(208, 0)], jQc dC dI (ca 4) co 2 fo)]) [1, 2, 3] rfl
  clear hh_4
  have hh_16 := hh_15.addI (jDY.ie hd_14)
  clear hh_15
  refine lv_aload_n hx hb dX14_settleChecks_4 rfl (lv_at hl 1 rfl) ?_
  obtain ⟨yb_17, ye_17, fb_17, fe_17, hg_yb_17, hg_ye_17, hP_17, hM_17, hs_17, h0_17, h4_17⟩ := jDY.at (hh_16.iv 0 rfl) hg_r1 (fun q => by cases q)
  have hh_18 := (hh_16.more hP_17).moreM hM_17
  clear hh_16 hP_17 hM_17
  have hh_19 := hh_18.more (jVl.at (hh_18.iv 1 rfl) hg_r1)
  clear hh_18
  obtain ⟨sx_20, esx_20, hsx_20⟩ := hh_19.sat (C := RX12) (T := TX12) (N := 11) hB14 rfl (by decide) hg_r1 (i := 9) (by decide) rfl 0 rfl
  cases esx_20
  refine j7_readN hx hb hown hK (C := RX12) (T := TX12) (N := 11) rfl hly_14_9 hlk_531 (hh_19.at 0 rfl) dX14_settleChecks_5 ?_
  refine lv_iload_n hx hb dX14_settleChecks_8 rfl (lv_at hl 2 rfl) ?_
  have C17 : ∀ (ck_21 : Nat → Int32) (H_21 : Heap) (locs_21 : List Loc), jSt (dC, dI) B base G0 G0 EX14_settleChecksK s.heap 0 0 [(r1, 14, 6, .ref yb_17), (r1, 14, 7, .ref ye_17), (r1, 14, 5, .int ((jUn sn r1 qs_4) r1)), (r1, 14, 3, .ref yt), (r1, 14, 4, .int pz), (r0, 16, 41, .ref dd), (r0, 16, 42, .int dc), (r0, 16, 60, .ref co), (r0, 16, 61, .ref cs), (r0, 16, 46, .ref ol), (r0, 16, 47, .ref nw), (r0, 16, 71, .ref td)] [(yb_17, 190, 40, ca 1, fb_17), (ye_17, 191, 40, ca 1, fe_17), (begin_8, 190, 40, ca 1, gb_4), (end_11, 191, 40, ca 1, ge_4), (yt, 101, 1500, ca 1, ft), (cs, 207, 2, ca 1, fs)] [(jFs, jDY dC dI ca G0 none (jUn sn r1 qs_4)), (jF9, jVl dC dI G0 9 ck_21), ([(201, 0)], jQc dC dI (ca 4) dd 3 fd), ([(208, 0)], jQc dC dI (ca 4) co 2 fo)] H_21 locs_21 → (jPv (jUn sn r1 qs_4) ck_21 fd fo fs dc.toInt ol nw td r1 a2.toInt 0) → ∀ ls : Array Slot, lv_has ls 4 [(0, .ref r0), (1, .ref r1), (2, .int a2)] → W p l e R s m ([.ref r0, .ref r1, .int a2] : List Value).toArray below meth c H_21 locs_21 0 0 Q (F0 m 17 ls []) := by
    intro ck_21 H_21 locs_21 hh_21  hi_21 ls hl
    refine lv_iconst (v := 0) hx hb dX14_settleChecks_17 (by decide) ?_
    refine lv_istore_n (lv' := [(3, .int 0), (0, .ref r0), (1, .ref r1), (2, .int a2)]) hx hb dX14_settleChecks_18 rfl hl (by decide) rfl (fun ls hl => ?_)
    have L19 : ∀ (N : Nat) (v3_22 : Int32) (fo_22 : Nat → Option Nat) (H_22 : Heap) (locs_22 : List Loc), jSt (dC, dI) B base G0 G0 EX14_settleChecksK s.heap 0 0 [(r1, 14, 6, .ref yb_17), (r1, 14, 7, .ref ye_17), (r1, 14, 5, .int ((jUn sn r1 qs_4) r1)), (r1, 14, 3, .ref yt), (r1, 14, 4, .int pz), (r0, 16, 41, .ref dd), (r0, 16, 42, .int dc), (r0, 16, 60, .ref co), (r0, 16, 61, .ref cs), (r0, 16, 46, .ref ol), (r0, 16, 47, .ref nw), (r0, 16, 71, .ref td)] [(yb_17, 190, 40, ca 1, fb_17), (ye_17, 191, 40, ca 1, fe_17), (begin_8, 190, 40, ca 1, gb_4), (end_11, 191, 40, ca 1, ge_4), (yt, 101, 1500, ca 1, ft), (cs, 207, 2, ca 1, fs)] [(jFs, jDY dC dI ca G0 none (jUn sn r1 qs_4)), (jF9, jVl dC dI G0 9 ck_21), ([(201, 0)], jQc dC dI (ca 4) dd 3 fd), ([(208, 0)], jQc dC dI (ca 4) co 2 fo_22)] H_22 locs_22 → (jPv (jUn sn r1 qs_4) ck_21 fd fo_22 fs dc.toInt ol nw td r1 a2.toInt v3_22.toInt ∧ 0 ≤ v3_22.toInt ∧ v3_22.toInt ≤ 2) → (2 - v3_22.toInt : Int) < N → ∀ ls : Array Slot, lv_has ls 4 [(0, .ref r0), (1, .ref r1), (2, .int a2), (3, .int v3_22)] → W p l e R s m ([.ref r0, .ref r1, .int a2] : List Value).toArray below meth c H_22 locs_22 0 0 Q (F0 m 19 ls []) := by
      intro N
      induction N with
      | zero => intro v3_22 fo_22 H_22 locs_22 hh_22  hi_22 hm; exact absurd hm (by omega)
      | succ N L19 =>
        intro v3_22 fo_22 H_22 locs_22 hh_22  hi_22 hm_22 ls hl
        obtain ⟨hi_22_0, hi_22_1, hi_22_2⟩ := hi_22
        refine lv_iload_n hx hb dX14_settleChecks_19 rfl (lv_at hl 3 rfl) ?_
        refine lv_iconst (v := 2) hx hb dX14_settleChecks_20 (by decide) ?_
        refine lv_icmp_ge (tgt := 57) hx hb dX14_settleChecks_21 (by decide) (fun c_23 => ?_) (fun c_23 => ?_)
        · skip
          have c_23' : v3_22.toInt ≥ 2 := jb_ge (rfl) ((by decide)) c_23
          obtain ⟨yb_24, ye_24, fb_24, fe_24, hg_yb_24, hg_ye_24, hP_24, hM_24, hs_24, h0_24, h4_24⟩ := jDY.at (hh_22.iv 0 rfl) hg_r1 (fun q => by cases q)
          have hh_25 := (hh_22.more hP_24).moreM hM_24
          clear hh_22 hP_24 hM_24
          have hh_26 := hh_25.more (jVl.at (hh_25.iv 1 rfl) hg_r1)
          clear hh_25
          obtain ⟨sx_27, esx_27, hsx_27⟩ := hh_26.sat (C := RX12) (T := TX12) (N := 11) hB14 rfl (by decide) hg_r1 (i := 9) (by decide) rfl 0 rfl
          cases esx_27
          rw [hQ]
          exact W.vret hx hb hr (fun t ht hW => ⟨⟨((ck_21 r1), ((jUn sn r1 qs_4) r1)), rfl, by (try dsimp only); have h9 := hi_22_0.2.2.2.1; omega, ⟨hh_26.rt (M1 := [(r1, 14, 9, .int (ck_21 r1)), (r1, 14, 5, .int ((jUn sn r1 qs_4) r1))]) [0, 3] rfl ht, by rw [ht]; exact ⟨(jUn sn r1 qs_4), ck_21, fs, fd, fo_22, dc, hh_26.2.2.1.sub (L1 := [(r0, 16, 41, .ref dd), (r0, 16, 42, .int dc), (r0, 16, 60, .ref co), (r0, 16, 61, .ref cs), (r0, 16, 46, .ref ol), (r0, 16, 47, .ref nw), (r0, 16, 71, .ref td)]) [9, 10, 11, 12, 13, 14, 15] rfl, hh_26.2.2.2.2.2.2.2.1.sub (L1 := [(cs, 207, 2, ca 1, fs)]) [7] rfl, hh_26.2.2.2.2.2.2.2.2.sub (L1 := [(jFs, jDY dC dI ca G0 none (jUn sn r1 qs_4)), (jF9, jVl dC dI G0 9 ck_21), ([(201, 0)], jQc dC dI (ca 4) dd 3 fd), ([(208, 0)], jQc dC dI (ca 4) co 2 fo_22)]) [0, 1, 2, 3] rfl, hi_22_0.done (by omega)⟩⟩⟩, by rw [ht]; try exact hh_26.1.1, fun q h9 hq => by rw [ht]; try exact hh_26.1.2.1 q h9 hq⟩) hh_26.1.2.2 dX14_settleChecks_57
        · skip
          have c_23' : v3_22.toInt < 2 := jb_ge_n (rfl) ((by decide)) c_23
          refine lv_aload_n hx hb dX14_settleChecks_24 rfl (lv_at hl 0 rfl) ?_
          refine j7_read hx hb hown hK (C := RX14) (T := TX14) (N := 74) rfl hly_16_60 hlk_129 (hh_22.at 7 rfl) dX14_settleChecks_25 ?_
          refine lv_iload_n hx hb dX14_settleChecks_28 rfl (lv_at hl 3 rfl) ?_
          refine j7_qaldI hx hb hK2 hh_22 hB208 0 rfl (by decide) hg_co (x := v3_22.toInt) (rfl) (by omega) (hh_22.iv 3 rfl) dX14_settleChecks_29 (fun o_28 ho_28 heo_28 => ?_)
          rcases ho_28 with rfl | ⟨el_29, rfl, hg_el_29⟩
          · simp only [va_rf]
            refine lv_aload_n hx hb dX14_settleChecks_30 rfl (lv_at hl 1 rfl) ?_
            refine lv_acmp_ne (rx := none) (ry := (some r1)) (tgt := 51) hx hb dX14_settleChecks_31 (by decide) (fun c_30 => ?_) (fun c_30 => ?_)
            · skip
              obtain ⟨z_31, ez_31⟩ : ∃ y : Int32, y = v3_22 + 1 := ⟨_, rfl⟩
              refine lv_iinc (v := z_31) (lv' := [(3, .int z_31), (0, .ref r0), (1, .ref r1), (2, .int a2)]) hx hb dX14_settleChecks_51 hl (k := 3) rfl (by rw [ez_31]; rfl) (by decide) rfl (fun ls hl => ?_)
              have hz_31 : z_31.toInt = v3_22.toInt + 1 := by rw [ez_31]; exact jb_iadd2 (rfl) (by decide) (by omega)
              refine lv_goto (tgt := 19) hx hb dX14_settleChecks_54 (by decide) ?_
              exact L19 z_31 fo_22 _ _ hh_22 (by refine ⟨?_, by omega, by omega⟩; first | exact hi_22_0.null (w := v3_22.toInt.toNat) (zz_none) (zz_none) (by omega) (by omega) | exact hi_22_0.keep (w := v3_22.toInt.toNat) (Or.inr (by have h9 := (zz_none); unfold jSo at h9; omega)) (by omega) (by omega) | exact hi_22_0.keep (w := v3_22.toInt.toNat) (Or.inl (by rw [← heo_28]; first | assumption | exact (fun q => nomatch q))) (by omega) (by omega)) (by omega) _ (lv_sub hl [1, 2, 3, 0] rfl)
            · skip
              cases c_30
          · simp only [va_rf]
            refine lv_aload_n hx hb dX14_settleChecks_30 rfl (lv_at hl 1 rfl) ?_
            refine lv_acmp_ne (rx := (some el_29)) (ry := (some r1)) (tgt := 51) hx hb dX14_settleChecks_31 (by decide) (fun c_32 => ?_) (fun c_32 => ?_)
            · skip
              obtain ⟨z_33, ez_33⟩ : ∃ y : Int32, y = v3_22 + 1 := ⟨_, rfl⟩
              refine lv_iinc (v := z_33) (lv' := [(3, .int z_33), (0, .ref r0), (1, .ref r1), (2, .int a2)]) hx hb dX14_settleChecks_51 hl (k := 3) rfl (by rw [ez_33]; rfl) (by decide) rfl (fun ls hl => ?_)
              have hz_33 : z_33.toInt = v3_22.toInt + 1 := by rw [ez_33]; exact jb_iadd2 (rfl) (by decide) (by omega)
              refine lv_goto (tgt := 19) hx hb dX14_settleChecks_54 (by decide) ?_
              exact L19 z_33 fo_22 _ _ hh_22 (by refine ⟨?_, by omega, by omega⟩; first | exact hi_22_0.null (w := v3_22.toInt.toNat) (zz_none) (zz_none) (by omega) (by omega) | exact hi_22_0.keep (w := v3_22.toInt.toNat) (Or.inr (by have h9 := (zz_none); unfold jSo at h9; omega)) (by omega) (by omega) | exact hi_22_0.keep (w := v3_22.toInt.toNat) (Or.inl (by rw [← heo_28]; first | assumption | exact (fun q => nomatch q))) (by omega) (by omega)) (by omega) _ (lv_sub hl [1, 2, 3, 0] rfl)
            · skip
              refine lv_aload_n hx hb dX14_settleChecks_34 rfl (lv_at hl 0 rfl) ?_
              refine j7_read hx hb hown hK (C := RX14) (T := TX14) (N := 74) rfl hly_16_61 hlk_132 (hh_22.at 8 rfl) dX14_settleChecks_35 ?_
              refine lv_iload_n hx hb dX14_settleChecks_38 rfl (lv_at hl 3 rfl) ?_
              refine j7_ialdM hx hb hK hh_22 hB207 1 rfl (by decide) hg_cs (x := v3_22.toInt) (rfl) (by omega) (j := 5) rfl dX14_settleChecks_39 (fun z_34 ez_34 (hz_34 : 0 ≤ z_34.toInt ∧ z_34.toInt ≤ 39) => ?_)
              have hqz_34 : z_34.toInt = jSo fs (v3_22.toInt) := by unfold jSo; rw [ez_34]
              refine lv_iload_n hx hb dX14_settleChecks_40 rfl (lv_at hl 2 rfl) ?_
              refine lv_icmp_lt (tgt := 51) hx hb dX14_settleChecks_41 (by decide) (fun c_35 => ?_) (fun c_35 => ?_)
              · skip
                have c_35' : z_34.toInt < a2.toInt := jb_lt (rfl) (rfl) c_35
                obtain ⟨z_36, ez_36⟩ : ∃ y : Int32, y = v3_22 + 1 := ⟨_, rfl⟩
                refine lv_iinc (v := z_36) (lv' := [(3, .int z_36), (0, .ref r0), (1, .ref r1), (2, .int a2)]) hx hb dX14_settleChecks_51 hl (k := 3) rfl (by rw [ez_36]; rfl) (by decide) rfl (fun ls hl => ?_)
                have hz_36 : z_36.toInt = v3_22.toInt + 1 := by rw [ez_36]; exact jb_iadd2 (rfl) (by decide) (by omega)
                refine lv_goto (tgt := 19) hx hb dX14_settleChecks_54 (by decide) ?_
                exact L19 z_36 fo_22 _ _ hh_22 (by refine ⟨?_, by omega, by omega⟩; first | exact hi_22_0.null (w := v3_22.toInt.toNat) (zz_none) (zz_none) (by omega) (by omega) | exact hi_22_0.keep (w := v3_22.toInt.toNat) (Or.inr (by have h9 := hqz_34; unfold jSo at h9; omega)) (by omega) (by omega) | exact hi_22_0.keep (w := v3_22.toInt.toNat) (Or.inl (by rw [← heo_28]; first | assumption | exact (fun q => nomatch q))) (by omega) (by omega)) (by omega) _ (lv_sub hl [1, 2, 3, 0] rfl)
              · skip
                have c_35' : z_34.toInt ≥ a2.toInt := jb_lt_n (rfl) (rfl) c_35
                refine lv_aload_n hx hb dX14_settleChecks_44 rfl (lv_at hl 0 rfl) ?_
                refine j7_read hx hb hown hK (C := RX14) (T := TX14) (N := 74) rfl hly_16_60 hlk_129 (hh_22.at 7 rfl) dX14_settleChecks_45 ?_
                refine lv_iload_n hx hb dX14_settleChecks_48 rfl (lv_at hl 3 rfl) ?_
                refine lv_null hx hb dX14_settleChecks_49 ?_
                have hd_38 := hh_22.iv 3 rfl
                have hh_40 := hh_22.sub (L1 := [(r1, 14, 6, .ref yb_17), (r1, 14, 7, .ref ye_17), (r1, 14, 5, .int ((jUn sn r1 qs_4) r1)), (r1, 14, 3, .ref yt), (r1, 14, 4, .int pz), (r0, 16, 41, .ref dd), (r0, 16, 42, .int dc), (r0, 16, 60, .ref co), (r0, 16, 61, .ref cs), (r0, 16, 46, .ref ol), (r0, 16, 47, .ref nw), (r0, 16, 71, .ref td)]) [0, 1, 2, 3, 4, 5, 6, 7, 8, 9, 10, 11] rfl (M1 := [(yb_17, 190, 40, ca 1, fb_17), (ye_17, 191, 40, ca 1, fe_17), (begin_8, 190, 40, ca 1, gb_4), (end_11, 191, 40, ca 1, ge_4), (yt, 101, 1500, ca 1, ft), (cs, 207, 2, ca 1, fs)]) [0, 1, 2, 3, 4, 5] rfl (I1 := [(jFs, jDY dC dI ca G0 none (jUn sn r1 qs_4)), (jF9, jVl dC dI G0 9 ck_21), ([(201, 0)], jQc dC dI (ca 4) dd 3 fd)]) [0, 1, 2] rfl
                clear hh_22
                refine j7_qastNI hx hb hK2 hh_40 hB hB208 0 rfl (by decide) (by decide) rfl rfl rfl hg_co (x := v3_22.toInt) (rfl) (by omega) (Or.inl rfl) hd_38 dX14_settleChecks_50 (fun H_37 locs_37 fq_39 hv_37 ho_37 hq_37 hh_37 => ?_)
                clear hh_40
                have hh_41 := hh_37.addI (hq_37.ie hg_co (by decide) (by decide))
                clear hh_37
                clear hd_38
                obtain ⟨z_42, ez_42⟩ : ∃ y : Int32, y = v3_22 + 1 := ⟨_, rfl⟩
                refine lv_iinc (v := z_42) (lv' := [(3, .int z_42), (0, .ref r0), (1, .ref r1), (2, .int a2)]) hx hb dX14_settleChecks_51 hl (k := 3) rfl (by rw [ez_42]; rfl) (by decide) rfl (fun ls hl => ?_)
                have hz_42 : z_42.toInt = v3_22.toInt + 1 := by rw [ez_42]; exact jb_iadd2 (rfl) (by decide) (by omega)
                refine lv_goto (tgt := 19) hx hb dX14_settleChecks_54 (by decide) ?_
                exact L19 z_42 fq_39 _ _ (hh_41.sub (L1 := [(r1, 14, 6, .ref yb_17), (r1, 14, 7, .ref ye_17), (r1, 14, 5, .int ((jUn sn r1 qs_4) r1)), (r1, 14, 3, .ref yt), (r1, 14, 4, .int pz), (r0, 16, 41, .ref dd), (r0, 16, 42, .int dc), (r0, 16, 60, .ref co), (r0, 16, 61, .ref cs), (r0, 16, 46, .ref ol), (r0, 16, 47, .ref nw), (r0, 16, 71, .ref td)]) [0, 1, 2, 3, 4, 5, 6, 7, 8, 9, 10, 11] rfl (M1 := [(yb_17, 190, 40, ca 1, fb_17), (ye_17, 191, 40, ca 1, fe_17), (begin_8, 190, 40, ca 1, gb_4), (end_11, 191, 40, ca 1, ge_4), (yt, 101, 1500, ca 1, ft), (cs, 207, 2, ca 1, fs)]) [0, 1, 2, 3, 4, 5] rfl (I1 := [(jFs, jDY dC dI ca G0 none (jUn sn r1 qs_4)), (jF9, jVl dC dI G0 9 ck_21), ([(201, 0)], jQc dC dI (ca 4) dd 3 fd), ([(208, 0)], jQc dC dI (ca 4) co 2 fq_39)]) [1, 2, 3, 0] rfl) (by refine ⟨?_, by omega, by omega⟩; first | exact hi_22_0.null (w := v3_22.toInt.toNat) hv_37 ho_37 (by omega) (by omega) | exact hi_22_0.keep (w := v3_22.toInt.toNat) (Or.inr (by have h9 := hqz_34; unfold jSo at h9; omega)) (by omega) (by omega) | exact hi_22_0.keep (w := v3_22.toInt.toNat) (Or.inl (by rw [← heo_28]; first | assumption | exact (fun q => nomatch q))) (by omega) (by omega)) (by omega) _ (lv_sub hl [1, 2, 3, 0] rfl)
    exact L19 (2 - (0 : Int32).toInt : Int).toNat.succ 0 fo _ _ hh_21 (by refine ⟨?_, by omega, by omega⟩; rw [hk0]; exact hi_21) (by omega) _ (lv_sub hl [1, 2, 3, 0] rfl)
  refine lv_icmp_le (tgt := 17) hx hb dX14_settleChecks_9 (by decide) (fun c_43 => ?_) (fun c_43 => ?_)
  · skip
    have c_43' : (ck r1).toInt ≤ a2.toInt := jb_le (rfl) (rfl) c_43
    exact C17 ck _ _ (hh_19.sub (L1 := [(r1, 14, 6, .ref yb_17), (r1, 14, 7, .ref ye_17), (r1, 14, 5, .int ((jUn sn r1 qs_4) r1)), (r1, 14, 3, .ref yt), (r1, 14, 4, .int pz), (r0, 16, 41, .ref dd), (r0, 16, 42, .int dc), (r0, 16, 60, .ref co), (r0, 16, 61, .ref cs), (r0, 16, 46, .ref ol), (r0, 16, 47, .ref nw), (r0, 16, 71, .ref td)]) [1, 2, 3, 7, 8, 9, 10, 11, 12, 13, 14, 15] rfl (M1 := [(yb_17, 190, 40, ca 1, fb_17), (ye_17, 191, 40, ca 1, fe_17), (begin_8, 190, 40, ca 1, gb_4), (end_11, 191, 40, ca 1, ge_4), (yt, 101, 1500, ca 1, ft), (cs, 207, 2, ca 1, fs)]) [0, 1, 2, 3, 4, 5] rfl (I1 := [(jFs, jDY dC dI ca G0 none (jUn sn r1 qs_4)), (jF9, jVl dC dI G0 9 ck), ([(201, 0)], jQc dC dI (ca 4) dd 3 fd), ([(208, 0)], jQc dC dI (ca 4) co 2 fo)]) [0, 1, 2, 3] rfl) (by first | assumption | exact hp0.set (by omega) (by rw [jUn_e]; omega) (fun a h => jUn_n _ _ h) | exact hp0.set (by omega) (by omega) (fun a h => rfl) | omega) _ (lv_sub hl [0, 1, 2] rfl)
  · skip
    have c_43' : (ck r1).toInt > a2.toInt := jb_le_n (rfl) (rfl) c_43
    refine lv_aload_n hx hb dX14_settleChecks_12 rfl (lv_at hl 1 rfl) ?_
    refine lv_iload_n hx hb dX14_settleChecks_13 rfl (lv_at hl 2 rfl) ?_
    have hd_45 := hh_19.iv 1 rfl
    have hh_46 := hh_19.sub (L1 := [(r1, 14, 9, .int (ck r1)), (r1, 14, 6, .ref yb_17), (r1, 14, 7, .ref ye_17), (r1, 14, 5, .int ((jUn sn r1 qs_4) r1)), (r1, 14, 5, .int qs_4), (r1, 14, 7, .ref end_11), (r1, 14, 6, .ref begin_8), (r1, 14, 3, .ref yt), (r1, 14, 4, .int pz), (r0, 16, 41, .ref dd), (r0, 16, 42, .int dc), (r0, 16, 60, .ref co), (r0, 16, 61, .ref cs), (r0, 16, 46, .ref ol), (r0, 16, 47, .ref nw), (r0, 16, 71, .ref td)]) [0, 1, 2, 3, 4, 5, 6, 7, 8, 9, 10, 11, 12, 13, 14, 15] rfl (M1 := [(yb_17, 190, 40, ca 1, fb_17), (ye_17, 191, 40, ca 1, fe_17), (begin_8, 190, 40, ca 1, gb_4), (end_11, 191, 40, ca 1, ge_4), (yt, 101, 1500, ca 1, ft), (cs, 207, 2, ca 1, fs)]) [0, 1, 2, 3, 4, 5] rfl (I1 := [(jFs, jDY dC dI ca G0 none (jUn sn r1 qs_4)), ([(201, 0)], jQc dC dI (ca 4) dd 3 fd), ([(208, 0)], jQc dC dI (ca 4) co 2 fo)]) [0, 2, 3] rfl
    clear hh_19
    refine j7_putNX hx hb hown hK hh_46 hB hAp hB14 (C := RX12) (T := TX12) (N := 11) rfl (by decide) hg_r1 (i := 9) (by decide) hly_14_9 rfl hlk_531 rfl (ty := .int) (v := .int a2) (by decide +kernel) rfl rfl (⟨_, rfl, by omega, by omega⟩) rfl (L1 := [(r1, 14, 6, .ref yb_17), (r1, 14, 7, .ref ye_17), (r1, 14, 5, .int ((jUn sn r1 qs_4) r1)), (r1, 14, 5, .int qs_4), (r1, 14, 7, .ref end_11), (r1, 14, 6, .ref begin_8), (r1, 14, 3, .ref yt), (r1, 14, 4, .int pz), (r0, 16, 41, .ref dd), (r0, 16, 42, .int dc), (r0, 16, 60, .ref co), (r0, 16, 61, .ref cs), (r0, 16, 46, .ref ol), (r0, 16, 47, .ref nw), (r0, 16, 71, .ref td)]) [1, 2, 3, 4, 5, 6, 7, 8, 9, 10, 11, 12, 13, 14, 15] rfl rfl rfl dX14_settleChecks_14 (fun H_44 locs_44 hr_44 hf_44 hh_44 => ?_)
    clear hh_46
    have hd_45n := jVl.put hd_45 hr_44 (hh_44.at 0 rfl)
    have hh_47 := hh_44.addI (jVl.ie hd_45n)
    clear hh_44
    clear hd_45 hd_45n hr_44 hf_44
    exact C17 (jUn ck r1 a2) _ _ (hh_47.sub (L1 := [(r1, 14, 6, .ref yb_17), (r1, 14, 7, .ref ye_17), (r1, 14, 5, .int ((jUn sn r1 qs_4) r1)), (r1, 14, 3, .ref yt), (r1, 14, 4, .int pz), (r0, 16, 41, .ref dd), (r0, 16, 42, .int dc), (r0, 16, 60, .ref co), (r0, 16, 61, .ref cs), (r0, 16, 46, .ref ol), (r0, 16, 47, .ref nw), (r0, 16, 71, .ref td)]) [1, 2, 3, 7, 8, 9, 10, 11, 12, 13, 14, 15] rfl (M1 := [(yb_17, 190, 40, ca 1, fb_17), (ye_17, 191, 40, ca 1, fe_17), (begin_8, 190, 40, ca 1, gb_4), (end_11, 191, 40, ca 1, ge_4), (yt, 101, 1500, ca 1, ft), (cs, 207, 2, ca 1, fs)]) [0, 1, 2, 3, 4, 5] rfl (I1 := [(jFs, jDY dC dI ca G0 none (jUn sn r1 qs_4)), (jF9, jVl dC dI G0 9 (jUn ck r1 a2)), ([(201, 0)], jQc dC dI (ca 4) dd 3 fd), ([(208, 0)], jQc dC dI (ca 4) co 2 fo)]) [1, 0, 2, 3] rfl) (by first | assumption | exact hp0.set (by omega) (by rw [jUn_e]; omega) (fun a h => jUn_n _ _ h) | exact hp0.set (by omega) (by omega) (fun a h => rfl) | omega) _ (lv_sub hl [0, 1, 2] rfl)
