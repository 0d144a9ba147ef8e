def EX14_documentOfK : List (Nat × Nat) := []
set_option maxHeartbeats 4000000 in
set_option maxRecDepth 20000 in
theorem uX14_documentOfK (l : Launch) (dC : Nat → ClassId) (dI : Nat → Nat → Nat) (ca : Nat → ClassId) (base : Nat) (B : jF) (hB : jBok B) (hAp : jAp (dC, dI)) (hB14 : ∀ n G a H, B 14 n G a H ↔ jOb (dC, dI) 14 11 (F14 n G) a H) (hB16 : ∀ n G a H, B 16 n G a H ↔ jOb (dC, dI) 16 74 (F16 n G) a H) (hB101 : ∀ n G a H, B 101 n G a H ↔ jAr (dC, dI) (ca 1) (fun j z => True) n a H) (hB117 : ∀ n G a H, B 117 n G a H ↔ jAr (dC, dI) (ca 1) (fun j z => True) n a H) (hB122 : ∀ n G a H, B 122 n G a H ↔ jAr (dC, dI) (ca 1) (fun j z => 0 ≤ z.toInt ∧ z.toInt ≤ 3100) n a H) (hB123 : ∀ n G a H, B 123 n G a H ↔ jAr (dC, dI) (ca 1) (fun j z => 0 ≤ z.toInt ∧ z.toInt ≤ 3100) n a H) (hB127 : ∀ n G a H, B 127 n G a H ↔ jAr (dC, dI) (ca 1) (fun j z => True) n a H) (hB201 : ∀ n G a H, B 201 n G a H ↔ jAq (dC, dI) (ca 4) (jQs 14 0) n G a H) (G0 : jT) (H0 : Heap) (r0 : Nat) (a1 : Int32) (dd : Nat) (dc : Int32) (co : Nat) (cs : Nat) (ol : Nat) (nw : Nat) (td : Nat) (sn ck : Nat → Int32) (fd fo : Nat → Option Nat) (fs : Nat → Int32) : Met l yX14_documentOf (jw yX14_documentOf cX14_documentOf 6 (some (.object "ProofServerModel$Document"))) ({ frames := 1, cells := 0, slots := 0, locals := 21 }) (va_Pc [.ref r0, .int a1] (fun U => U.heap = H0 ∧ jX B base G0 [] H0 ∧ jG dC dI ca base U ∧ jK2 dC dI ca U ∧ G0 r0 = some (16, 0) ∧ G0 dd = some (201, 3) ∧ G0 co = some (208, 2) ∧ G0 cs = some (207, 2) ∧ G0 ol = some (14, 0) ∧ G0 nw = some (14, 0) ∧ G0 td = some (14, 0) ∧ jP (dC, dI) G0 H0 [(r0, 16, 41, .ref dd), (r0, 16, 42, .int dc), (r0, 16, 60, .ref co), (r0, 16, 61, .ref cs), (r0, 16, 46, .ref ol), (r0, 16, 47, .ref nw), (r0, 16, 71, .ref td)] ∧ jMc (dC, dI) G0 H0 [(cs, 207, 2, ca 1, fs)] ∧ jIs (dC, dI) G0 H0 [(jFs, jDY dC dI ca G0 none sn), (jF9, jVl dC dI G0 9 ck), ([(201, 0)], jQc dC dI (ca 4) dd 3 fd), ([(208, 0)], jQc dC dI (ca 4) co 2 fo)] ∧ jPu sn ck fd fo fs dc.toInt ol nw td ∧ a1.toInt ≤ 3099)) (jQx (S := Unit) (fun v u => jRp G0 14 0 (fun x => ∃ d : Nat, d < 3 ∧ (d : Int) < dc.toInt ∧ fd d = some x) v) (fun u t => jRt (dC, dI) B base G0 EX14_documentOfK H0 [] t.heap) (jA base)) 0 0 (jA base) := by
  refine Met.ofW (cc := cX14_documentOf) (maxL := 6) (ret := (some (.object "ProofServerModel$Document"))) (by decide) rfl ?_
  intro p e s m args below meth c s₁ Bd hml hv
  obtain ⟨rfl, hH0, hX, hG, hK2, hg_r0, hg_dd, hg_co, hg_cs, hg_ol, hg_nw, hg_td, hP0, hM0, hI0, hp0, hp1⟩ := hv
  have hK := hG.1
  have hx := Bd.exec
  have hb := Bd.bytes
  have hr := Bd.returns
  have hts := atoms_spec (ws := (jw yX14_documentOf cX14_documentOf 6 (some (.object "ProofServerModel$Document")))) Bd.pre
  have htw : ∀ w ∈ jWl, w.before _ s = true := fun w h => hts w (List.mem_cons_of_mem _ h)
  have hown : s.vm.findClass RX14 = some m.cls := findClass_of_methodNamed Bd.named
  have hlocks := Bd.notSynchronized
  obtain ⟨Q, hQ⟩ : ∃ Q, Q = MQ below (jQx (S := Unit) (fun v u => jRp G0 14 0 (fun x => ∃ d : Nat, d < 3 ∧ (d : Int) < dc.toInt ∧ fd d = some x) v) (fun u t => jRt (dC, dI) B base G0 EX14_documentOfK H0 [] t.heap) (jA base)) ([.ref r0, .int a1] : List Value).toArray s 0 0 (jA base) := ⟨_, rfl⟩
  rw [← hQ]
  have hl := lv_entry ([.ref r0, .int a1]) (n := 6) (Nat.le_of_ble_eq_true rfl)
  rw [lg_entry_eq]
  generalize (lg_sl ([.ref r0, .int a1]) ++ List.replicate (6 - (lg_sl ([.ref r0, .int a1])).length) Slot.unset).toArray = ls at hl ⊢
  have hl : lv_has ls 6 [(0, .ref r0), (1, .int a1)] := hl
  generalize hR : (headSpec (jw yX14_documentOf cX14_documentOf 6 (some (.object "ProofServerModel$Document"))) ({ frames := 1, cells := 0, slots := 0, locals := 21 })).room = R
  subst hH0
  have hh : jSt (dC, dI) B base G0 G0 EX14_documentOfK s.heap 0 0 [(r0, 16, 41, .ref dd), (r0, 16, 42, .int dc), (r0, 16, 60, .ref co), (r0, 16, 61, .ref cs), (r0, 16, 46, .ref ol), (r0, 16, 47, .ref nw), (r0, 16, 71, .ref td)] [(cs, 207, 2, ca 1, fs)] [(jFs, jDY dC dI ca G0 none sn), (jF9, jVl dC dI G0 9 ck), ([(201, 0)], jQc dC dI (ca 4) dd 3 fd), ([(208, 0)], jQc dC dI (ca 4) co 2 fo)] s.heap [] := jSt.start hX hP0 hM0 hI0
  clear hX hP0
  have hk0 : (0 : Int32).toInt = 0 := by decide
  have hk1 : (1 : Int32).toInt = 1 := by decide
  have hly_14_0 := htw (u_lay RX12 TX12 0) (jWc_wsX120 _ (u_in_lay (by decide)))
  have hly_14_1 := htw (u_lay RX12 TX12 1) (jWc_wsX120 _ (u_in_lay (by decide)))
  have hly_16_22 := htw (u_lay RX14 TX14 22) (jWc_wsX140 _ (u_in_lay (by decide)))
  have hly_16_23 := htw (u_lay RX14 TX14 23) (jWc_wsX140 _ (u_in_lay (by decide)))
  have hly_16_27 := htw (u_lay RX14 TX14 27) (jWc_wsX140 _ (u_in_lay (by decide)))
  have hly_16_41 := htw (u_lay RX14 TX14 41) (jWc_wsX140 _ (u_in_lay (by decide)))
  have hly_16_42 := htw (u_lay RX14 TX14 42) (jWc_wsX140 _ (u_in_lay (by decide)))
  have hlk_505 := (htw (.fieldLink RX14 505 "ProofServerModel" "documentCount" "I") (jWr_57 _ (List.mem_of_getElem? (i := 5) rfl)))
  have hlk_74 := (htw (.fieldLink RX14 74 "ProofServerModel" "documents" "[LProofServerModel$Document;") (jWr_11 _ (List.mem_of_getElem? (i := 19) rfl)))
  have hlk_508 := (va_Nw.use (A := ([.ref r0, .int a1] : List Value).toArray) rfl (hG.2.1 RX14 508 "ProofServerModel$Document" "uriLength" "I" "ProofServerModel" (List.mem_of_getElem? (i := 1732) (by decide +kernel))))
  have hlk_55 := (htw (.fieldLink RX14 55 "ProofServerModel" "to" "[I") (jWr_11 _ (List.mem_of_getElem? (i := 10) rfl)))
  have hlk_52 := (htw (.fieldLink RX14 52 "ProofServerModel" "from" "[I") (jWr_11 _ (List.mem_of_getElem? (i := 9) rfl)))
  have hlk_511 := (va_Nw.use (A := ([.ref r0, .int a1] : List Value).toArray) rfl (hG.2.1 RX14 511 "ProofServerModel$Document" "uri" "[I" "ProofServerModel" (List.mem_of_getElem? (i := 1731) (by decide +kernel))))
  have hlk_65 := (htw (.fieldLink RX14 65 "ProofServerModel" "pool" "[I") (jWr_11 _ (List.mem_of_getElem? (i := 14) rfl)))
  have hrg_a1 := jb_rng a1
  obtain ⟨sx_1, esx_1, hsx_1⟩ := hh.sat (C := RX14) (T := TX14) (N := 74) hB16 rfl (by decide) hg_r0 (i := 42) (by decide) rfl 1 rfl
  cases esx_1
  refine lv_aload_n hx hb dX14_documentOf_0 rfl (lv_at hl 0 rfl) ?_
  refine lv_iload_n hx hb dX14_documentOf_1 rfl (lv_at hl 1 rfl) ?_
  obtain ⟨v_4, hv_4, hh_5⟩ := hh.pin (C := RX14) (T := TX14) (N := 74) hB16 rfl (by decide) hg_r0 (i := 17) (by decide) rfl
  obtain ⟨sort_6, rfl, hg_sort_6⟩ := hv_4
  obtain ⟨f_fs_7, hh_7⟩ := hh_5.cpin hB117 (by decide) (by decide) hg_sort_6
  clear hh_5
  refine va_calli (A0 := jA base) (H0 := s.heap) (va_runV (As := [.int a1]) (rest := []) ⟨hx, hb, hml, hown, hts⟩ (uX14_isStringK l dC dI ca base B hB hAp hB16 hB117 G0 s.heap r0 a1 sort_6 f_fs_7) (cwV 1 hts (jgV (jWr_56 _ (List.mem_of_getElem? (i := 3) rfl)) (jWr_56 _ (List.mem_of_getElem? (i := 4) rfl)) (jWr_56 _ (List.mem_of_getElem? (i := 5) rfl)) (jWr_1 _ (List.mem_of_getElem? (i := 5) rfl)) (jWr_56 _ (List.mem_of_getElem? (i := 6) rfl))) rfl rfl rfl (by decide +kernel) ⟨by rw [← hR]; exact Nat.le_of_ble_eq_true rfl, by rw [← hR]; exact Nat.le_of_ble_eq_true rfl⟩) ⟨fun a U g mk q => by obtain ⟨q0, q1, q2, qK, q10, q11, q12, q13, q14⟩ := q; exact ⟨q0, q1, q2, jG.calling g mk a qK, q10, q11, q12, q13, q14⟩, hh_7.recv (C := RX14) (T := TX14) (N := 74) hB16 rfl (by decide) hg_r0 hK, fun U hU hW => ⟨rfl, hU, hh_7.2.1, hG.step hW hU hh_7.1, hg_r0, hg_sort_6, (hh_7.2.2.1.sub (L1 := [(r0, 16, 17, .ref sort_6)]) [0] rfl), (hh_7.2.2.2.2.2.2.2.1.sub (L1 := [(sort_6, 117, 3100, ca 1, f_fs_7)]) [0] rfl), by first | omega | rfl | assumption | decide | exact Or.inl rfl | exact Or.inr rfl | (simp only; omega)⟩⟩ rfl rfl hl.1 rfl (lv_room (Nat.le_of_ble_eq_true rfl)) dX14_documentOf_2 ⟨Nat.zero_le _, Nat.zero_le _⟩) hh_7.1 (fun q _ h => h) (fun q h => h) (fun r_3 u_2 t_2 H_2 locs_2 ht_2 hvm_2 hr_3 hb_2 hz_2 hk_2 hS_2 => ?_)
  rw [ht_2] at hb_2
  obtain ⟨hb_21, hb_22, hb_23, hb_24, hb_25⟩ := hb_2
  have hh_2 : jSt (dC, dI) B base G0 G0 EX14_documentOfK s.heap 0 0 [(r0, 16, 17, .ref sort_6), (r0, 16, 41, .ref dd), (r0, 16, 42, .int dc), (r0, 16, 60, .ref co), (r0, 16, 61, .ref cs), (r0, 16, 46, .ref ol), (r0, 16, 47, .ref nw), (r0, 16, 71, .ref td)] [(sort_6, 117, 3100, ca 1, f_fs_7), (cs, 207, 2, ca 1, fs)] [(jFs, jDY dC dI ca G0 none sn), (jF9, jVl dC dI G0 9 ck), ([(201, 0)], jQc dC dI (ca 4) dd 3 fd), ([(208, 0)], jQc dC dI (ca 4) co 2 fo)] H_2 locs_2 := ((hh_7.call hb_21 hb_22 hb_23 hb_24 hS_2 rfl (L1 := [(r0, 16, 17, .ref sort_6), (r0, 16, 41, .ref dd), (r0, 16, 42, .int dc), (r0, 16, 60, .ref co), (r0, 16, 61, .ref cs), (r0, 16, 46, .ref ol), (r0, 16, 47, .ref nw), (r0, 16, 71, .ref td)]) [0, 1, 2, 3, 4, 5, 6, 7] rfl rfl (M1 := [(sort_6, 117, 3100, ca 1, f_fs_7), (cs, 207, 2, ca 1, fs)]) [0, 1] rfl rfl (I1 := [(jFs, jDY dC dI ca G0 none sn), (jF9, jVl dC dI G0 9 ck), ([(201, 0)], jQc dC dI (ca 4) dd 3 fd), ([(208, 0)], jQc dC dI (ca 4) co 2 fo)]) [0, 1, 2, 3] rfl rfl).more hb_25)
  clear hh_7 ht_2 hvm_2 hz_2 hk_2 hS_2 hb_21 hb_22 hb_23 hb_24 hb_25
  obtain ⟨hr_3b, hr_3p⟩ := hr_3
  obtain ⟨hr_3p_0, hr_3p_1, hr_3p_2⟩ := hr_3p
  have hr_3' := jb_01 hr_3b
  refine lv_if_ne (tgt := 10) hx hb dX14_documentOf_5 (by decide) (fun c_8 => ?_) (fun c_8 => ?_)
  · skip
    have c_8' : r_3.toInt ≠ 0 := jb_ne (rfl) ((by decide)) c_8
    have hs0 := (hr_3p_2 (by omega)).1
    refine lv_iconst (v := 0) hx hb dX14_documentOf_10 (by decide) ?_
    refine lv_istore_n (lv' := [(2, .int 0), (0, .ref r0), (1, .int a1)]) hx hb dX14_documentOf_11 rfl hl (by decide) rfl (fun ls hl => ?_)
    have L12 : ∀ (N : Nat) (v2_9 : Int32) (H_9 : Heap) (locs_9 : List Loc), jSt (dC, dI) B base G0 G0 EX14_documentOfK s.heap 0 0 [(r0, 16, 17, .ref sort_6), (r0, 16, 41, .ref dd), (r0, 16, 42, .int dc), (r0, 16, 60, .ref co), (r0, 16, 61, .ref cs), (r0, 16, 46, .ref ol), (r0, 16, 47, .ref nw), (r0, 16, 71, .ref td)] [(sort_6, 117, 3100, ca 1, f_fs_7), (cs, 207, 2, ca 1, fs)] [(jFs, jDY dC dI ca G0 none sn), (jF9, jVl dC dI G0 9 ck), ([(201, 0)], jQc dC dI (ca 4) dd 3 fd), ([(208, 0)], jQc dC dI (ca 4) co 2 fo)] H_9 locs_9 → (0 ≤ v2_9.toInt ∧ v2_9.toInt ≤ dc.toInt) → (dc.toInt - v2_9.toInt : Int) < N → ∀ ls : Array Slot, lv_has ls 6 [(0, .ref r0), (1, .int a1), (2, .int v2_9)] → W p l e R s m ([.ref r0, .int a1] : List Value).toArray below meth c H_9 locs_9 0 0 Q (F0 m 12 ls []) := by
      intro N
      induction N with
      | zero => intro v2_9 H_9 locs_9 hh_9  hi_9 hm; exact absurd hm (by omega)
      | succ N L12 =>
        intro v2_9 H_9 locs_9 hh_9  hi_9 hm_9 ls hl
        obtain ⟨hi_9_0, hi_9_1⟩ := hi_9
        refine lv_iload_n hx hb dX14_documentOf_12 rfl (lv_at hl 2 rfl) ?_
        refine lv_aload_n hx hb dX14_documentOf_13 rfl (lv_at hl 0 rfl) ?_
        refine j7_read hx hb hown hK (C := RX14) (T := TX14) (N := 74) rfl hly_16_42 hlk_505 (hh_9.at 2 rfl) dX14_documentOf_14 ?_
        refine lv_icmp_ge (tgt := 121) hx hb dX14_documentOf_17 (by decide) (fun c_10 => ?_) (fun c_10 => ?_)
        · skip
          have c_10' : v2_9.toInt ≥ dc.toInt := jb_ge (rfl) (rfl) c_10
          refine lv_null hx hb dX14_documentOf_121 ?_
          rw [hQ]
          exact W.aret (v := .null) hx hb hr (Or.inl ⟨_, rfl⟩) (Or.inl rfl) (fun t ht hW => ⟨⟨.null, (), rfl, Or.inl rfl, hh_9.rt (M1 := []) [] rfl ht⟩, by rw [ht]; try exact hh_9.1.1, fun q h9 hq => by rw [ht]; try exact hh_9.1.2.1 q h9 hq⟩) hh_9.1.2.2 dX14_documentOf_122
        · skip
          have c_10' : v2_9.toInt < dc.toInt := jb_ge_n (rfl) (rfl) c_10
          refine lv_aload_n hx hb dX14_documentOf_20 rfl (lv_at hl 0 rfl) ?_
          refine j7_read hx hb hown hK (C := RX14) (T := TX14) (N := 74) rfl hly_16_41 hlk_74 (hh_9.at 1 rfl) dX14_documentOf_21 ?_
          refine lv_iload_n hx hb dX14_documentOf_24 rfl (lv_at hl 2 rfl) ?_
          refine j7_qaldI hx hb hK2 hh_9 hB201 0 rfl (by decide) hg_dd (x := v2_9.toInt) (rfl) (by omega) (hh_9.iv 2 rfl) dX14_documentOf_25 (fun o_11 ho_11 heo_11 => ?_)
          obtain ⟨el_12, rfl, hg_el_12⟩ := ho_11
          simp only [va_rf]
          refine lv_astore_n (lv' := [(3, .ref el_12), (0, .ref r0), (1, .int a1), (2, .int v2_9)]) hx hb dX14_documentOf_26 rfl hl (by decide) rfl (fun ls hl => ?_)
          refine lv_aload_n hx hb dX14_documentOf_27 rfl (lv_at hl 0 rfl) ?_
          obtain ⟨v_13, hv_13, hh_14⟩ := hh_9.pin (C := RX12) (T := TX12) (N := 11) hB14 rfl (by decide) hg_el_12 (i := 1) (by decide) rfl
          clear hh_9
          obtain ⟨uriLength_15, rfl, hlouriLength_15, hhiuriLength_15⟩ := hv_13
          refine j7_readN hx hb hown hK (C := RX12) (T := TX12) (N := 11) rfl hly_14_1 hlk_508 (hh_14.at 0 rfl) dX14_documentOf_28 ?_
          refine lv_aload_n hx hb dX14_documentOf_31 rfl (lv_at hl 1 rfl) ?_
          obtain ⟨v_16, hv_16, hh_17⟩ := hh_14.pin (C := RX14) (T := TX14) (N := 74) hB16 rfl (by decide) hg_r0 (i := 23) (by decide) rfl
          clear hh_14
          obtain ⟨to_18, rfl, hg_to_18⟩ := hv_16
          refine j7_read hx hb hown hK (C := RX14) (T := TX14) (N := 74) rfl hly_16_23 hlk_55 (hh_17.at 0 rfl) dX14_documentOf_32 ?_
          refine lv_iload_n hx hb dX14_documentOf_35 rfl (lv_at hl 2 rfl) ?_
          refine j7_iald hx hb hK hh_17 hB123 1 rfl (by decide) hg_to_18 (x := a1.toInt) (rfl) (by omega) dX14_documentOf_36 (fun z_19 (hz_19 : 0 ≤ z_19.toInt ∧ z_19.toInt ≤ 3100) => ?_)
          refine lv_aload_n hx hb dX14_documentOf_37 rfl (lv_at hl 1 rfl) ?_
          obtain ⟨v_20, hv_20, hh_21⟩ := hh_17.pin (C := RX14) (T := TX14) (N := 74) hB16 rfl (by decide) hg_r0 (i := 22) (by decide) rfl
          clear hh_17
          obtain ⟨from_22, rfl, hg_from_22⟩ := hv_20
          refine j7_read hx hb hown hK (C := RX14) (T := TX14) (N := 74) rfl hly_16_22 hlk_52 (hh_21.at 0 rfl) dX14_documentOf_38 ?_
          refine lv_iload_n hx hb dX14_documentOf_41 rfl (lv_at hl 2 rfl) ?_
          refine j7_iald hx hb hK hh_21 hB122 1 rfl (by decide) hg_from_22 (x := a1.toInt) (rfl) (by omega) dX14_documentOf_42 (fun z_23 (hz_23 : 0 ≤ z_23.toInt ∧ z_23.toInt ≤ 3100) => ?_)
          refine lv_isub hx hb dX14_documentOf_43 ?_
          refine lv_topi (fun z_24 ez_24 => ?_)
          have hz_24 : z_24.toInt = z_19.toInt - z_23.toInt := by rw [ez_24]; exact jb_isub2 (rfl) (rfl) (by omega)
          have C52 : ∀ (w0_25 : Int32) (H_25 : Heap) (locs_25 : List Loc), jSt (dC, dI) B base G0 G0 EX14_documentOfK s.heap 0 0 [(r0, 16, 22, .ref from_22), (r0, 16, 23, .ref to_18), (el_12, 14, 1, .int uriLength_15), (r0, 16, 17, .ref sort_6), (r0, 16, 41, .ref dd), (r0, 16, 42, .int dc), (r0, 16, 60, .ref co), (r0, 16, 61, .ref cs), (r0, 16, 46, .ref ol), (r0, 16, 47, .ref nw), (r0, 16, 71, .ref td)] [(sort_6, 117, 3100, ca 1, f_fs_7), (cs, 207, 2, ca 1, fs)] [(jFs, jDY dC dI ca G0 none sn), (jF9, jVl dC dI G0 9 ck), ([(201, 0)], jQc dC dI (ca 4) dd 3 fd), ([(208, 0)], jQc dC dI (ca 4) co 2 fo)] H_25 locs_25 → (w0_25 = 0 ∨ w0_25 = 1) → (True) → ∀ ls : Array Slot, lv_has ls 6 [(0, .ref r0), (1, .int a1), (2, .int v2_9), (3, .ref el_12)] → W p l e R s m ([.ref r0, .int a1] : List Value).toArray below meth c H_25 locs_25 0 0 Q (F0 m 52 ls [.int w0_25]) := by
            intro w0_25 H_25 locs_25 hh_25 hb_w0_25 hi_25 ls hl
            have hb_w0_25' := jb_01 hb_w0_25
            refine lv_istore (lv' := [(4, .int w0_25), (0, .ref r0), (1, .int a1), (2, .int v2_9), (3, .ref el_12)]) hx hb dX14_documentOf_52 hl (by decide) rfl (fun ls hl => ?_)
            refine lv_iconst (v := 0) hx hb dX14_documentOf_54 (by decide) ?_
            refine lv_istore (lv' := [(5, .int 0), (4, .int w0_25), (0, .ref r0), (1, .int a1), (2, .int v2_9), (3, .ref el_12)]) hx hb dX14_documentOf_55 hl (by decide) rfl (fun ls hl => ?_)
            have L57 : ∀ (N : Nat) (v4_26 : Int32) (v5_26 : Int32) (H_26 : Heap) (locs_26 : List Loc), jSt (dC, dI) B base G0 G0 EX14_documentOfK s.heap 0 0 [(r0, 16, 22, .ref from_22), (r0, 16, 23, .ref to_18), (el_12, 14, 1, .int uriLength_15), (r0, 16, 17, .ref sort_6), (r0, 16, 41, .ref dd), (r0, 16, 42, .int dc), (r0, 16, 60, .ref co), (r0, 16, 61, .ref cs), (r0, 16, 46, .ref ol), (r0, 16, 47, .ref nw), (r0, 16, 71, .ref td)] [(sort_6, 117, 3100, ca 1, f_fs_7), (cs, 207, 2, ca 1, fs)] [(jFs, jDY dC dI ca G0 none sn), (jF9, jVl dC dI G0 9 ck), ([(201, 0)], jQc dC dI (ca 4) dd 3 fd), ([(208, 0)], jQc dC dI (ca 4) co 2 fo)] H_26 locs_26 → (v4_26 = 0 ∨ v4_26 = 1) → (0 ≤ v5_26.toInt ∧ v5_26.toInt ≤ 40) → (40 - v5_26.toInt : Int) < N → ∀ ls : Array Slot, lv_has ls 6 [(0, .ref r0), (1, .int a1), (2, .int v2_9), (3, .ref el_12), (4, .int v4_26), (5, .int v5_26)] → W p l e R s m ([.ref r0, .int a1] : List Value).toArray below meth c H_26 locs_26 0 0 Q (F0 m 57 ls []) := by
              intro N
              induction N with
              | zero => intro v4_26 v5_26 H_26 locs_26 hh_26 hb_v4_26 hi_26 hm; exact absurd hm (by omega)
              | succ N L57 =>
                intro v4_26 v5_26 H_26 locs_26 hh_26 hb_v4_26 hi_26 hm_26 ls hl
                obtain ⟨hi_26_0, hi_26_1⟩ := hi_26
                have hb_v4_26' := jb_01 hb_v4_26
                refine lv_iload hx hb dX14_documentOf_57 (lv_at hl 5 rfl) ?_
                refine lv_aload_n hx hb dX14_documentOf_59 rfl (lv_at hl 3 rfl) ?_
                refine j7_readN hx hb hown hK (C := RX12) (T := TX12) (N := 11) rfl hly_14_1 hlk_508 (hh_26.at 2 rfl) dX14_documentOf_60 ?_
                refine lv_icmp_ge (tgt := 108) hx hb dX14_documentOf_63 (by decide) (fun c_27 => ?_) (fun c_27 => ?_)
                · skip
                  have c_27' : v5_26.toInt ≥ uriLength_15.toInt := jb_ge (rfl) (rfl) c_27
                  refine lv_iload hx hb dX14_documentOf_108 (lv_at hl 4 rfl) ?_
                  refine lv_if_eq (tgt := 115) hx hb dX14_documentOf_110 (by decide) (fun c_28 => ?_) (fun c_28 => ?_)
                  · skip
                    have c_28' : v4_26.toInt = 0 := jb_eq (rfl) ((by decide)) c_28
                    obtain ⟨z_29, ez_29⟩ : ∃ y : Int32, y = v2_9 + 1 := ⟨_, rfl⟩
                    refine lv_iinc (v := z_29) (lv' := [(2, .int z_29), (0, .ref r0), (1, .int a1), (3, .ref el_12), (4, .int v4_26), (5, .int v5_26)]) hx hb dX14_documentOf_115 hl (k := 2) rfl (by rw [ez_29]; rfl) (by decide) rfl (fun ls hl => ?_)
                    have hz_29 : z_29.toInt = v2_9.toInt + 1 := by rw [ez_29]; exact jb_iadd2 (rfl) (by decide) (by omega)
                    refine lv_goto (tgt := 12) hx hb dX14_documentOf_118 (by decide) ?_
                    exact L12 z_29 _ _ (hh_26.sub (L1 := [(r0, 16, 17, .ref sort_6), (r0, 16, 41, .ref dd), (r0, 16, 42, .int dc), (r0, 16, 60, .ref co), (r0, 16, 61, .ref cs), (r0, 16, 46, .ref ol), (r0, 16, 47, .ref nw), (r0, 16, 71, .ref td)]) [3, 4, 5, 6, 7, 8, 9, 10] rfl (M1 := [(sort_6, 117, 3100, ca 1, f_fs_7), (cs, 207, 2, ca 1, fs)]) [0, 1] rfl (I1 := [(jFs, jDY dC dI ca G0 none sn), (jF9, jVl dC dI G0 9 ck), ([(201, 0)], jQc dC dI (ca 4) dd 3 fd), ([(208, 0)], jQc dC dI (ca 4) co 2 fo)]) [0, 1, 2, 3] rfl) (by first | omega | (refine ⟨?_, ?_⟩ <;> (first | omega | rfl | assumption | decide | exact Or.inl rfl | exact Or.inr rfl | (simp only; omega)))) (by omega) _ (lv_sub hl [1, 2, 0] rfl)
                  · skip
                    have c_28' : v4_26.toInt ≠ 0 := jb_eq_n (rfl) ((by decide)) c_28
                    refine lv_aload_n hx hb dX14_documentOf_113 rfl (lv_at hl 3 rfl) ?_
                    rw [hQ]
                    exact W.aret (v := .ref el_12) hx hb hr (Or.inl ⟨_, rfl⟩) (Or.inr ⟨_, rfl⟩) (fun t ht hW => ⟨⟨.ref el_12, (), rfl, Or.inr ⟨_, rfl, hg_el_12, ⟨v2_9.toInt.toNat, by omega, by omega, heo_11.symm⟩⟩, hh_26.rt (M1 := []) [] rfl ht⟩, by rw [ht]; try exact hh_26.1.1, fun q h9 hq => by rw [ht]; try exact hh_26.1.2.1 q h9 hq⟩) hh_26.1.2.2 dX14_documentOf_114
                · skip
                  have c_27' : v5_26.toInt < uriLength_15.toInt := jb_ge_n (rfl) (rfl) c_27
                  refine lv_iload hx hb dX14_documentOf_66 (lv_at hl 4 rfl) ?_
                  refine lv_if_eq (tgt := 108) hx hb dX14_documentOf_68 (by decide) (fun c_30 => ?_) (fun c_30 => ?_)
                  · skip
                    have c_30' : v4_26.toInt = 0 := jb_eq (rfl) ((by decide)) c_30
                    refine lv_iload hx hb dX14_documentOf_108 (lv_at hl 4 rfl) ?_
                    refine lv_if_eq (tgt := 115) hx hb dX14_documentOf_110 (by decide) (fun c_31 => ?_) (fun c_31 => ?_)
                    · skip
                      have c_31' : v4_26.toInt = 0 := jb_eq (rfl) ((by decide)) c_31
                      obtain ⟨z_32, ez_32⟩ : ∃ y : Int32, y = v2_9 + 1 := ⟨_, rfl⟩
                      refine lv_iinc (v := z_32) (lv' := [(2, .int z_32), (0, .ref r0), (1, .int a1), (3, .ref el_12), (4, .int v4_26), (5, .int v5_26)]) hx hb dX14_documentOf_115 hl (k := 2) rfl (by rw [ez_32]; rfl) (by decide) rfl (fun ls hl => ?_)
                      have hz_32 : z_32.toInt = v2_9.toInt + 1 := by rw [ez_32]; exact jb_iadd2 (rfl) (by decide) (by omega)
                      refine lv_goto (tgt := 12) hx hb dX14_documentOf_118 (by decide) ?_
                      exact L12 z_32 _ _ (hh_26.sub (L1 := [(r0, 16, 17, .ref sort_6), (r0, 16, 41, .ref dd), (r0, 16, 42, .int dc), (r0, 16, 60, .ref co), (r0, 16, 61, .ref cs), (r0, 16, 46, .ref ol), (r0, 16, 47, .ref nw), (r0, 16, 71, .ref td)]) [3, 4, 5, 6, 7, 8, 9, 10] rfl (M1 := [(sort_6, 117, 3100, ca 1, f_fs_7), (cs, 207, 2, ca 1, fs)]) [0, 1] rfl (I1 := [(jFs, jDY dC dI ca G0 none sn), (jF9, jVl dC dI G0 9 ck), ([(201, 0)], jQc dC dI (ca 4) dd 3 fd), ([(208, 0)], jQc dC dI (ca 4) co 2 fo)]) [0, 1, 2, 3] rfl) (by first | omega | (refine ⟨?_, ?_⟩ <;> (first | omega | rfl | assumption | decide | exact Or.inl rfl | exact Or.inr rfl | (simp only; omega)))) (by omega) _ (lv_sub hl [1, 2, 0] rfl)
                    · skip
                      have c_31' : v4_26.toInt ≠ 0 := jb_eq_n (rfl) ((by decide)) c_31
                      exact (by omega : False).elim
                  · skip
                    have c_30' : v4_26.toInt ≠ 0 := jb_eq_n (rfl) ((by decide)) c_30
                    refine lv_aload_n hx hb dX14_documentOf_71 rfl (lv_at hl 3 rfl) ?_
                    obtain ⟨v_33, hv_33, hh_34⟩ := hh_26.pin (C := RX12) (T := TX12) (N := 11) hB14 rfl (by decide) hg_el_12 (i := 0) (by decide) rfl
                    clear hh_26
                    obtain ⟨uri_35, rfl, hg_uri_35⟩ := hv_33
                    refine j7_readN hx hb hown hK (C := RX12) (T := TX12) (N := 11) rfl hly_14_0 hlk_511 (hh_34.at 0 rfl) dX14_documentOf_72 ?_
                    refine lv_iload hx hb dX14_documentOf_75 (lv_at hl 5 rfl) ?_
                    refine j7_iald hx hb hK hh_34 hB101 1 rfl (by decide) hg_uri_35 (x := v5_26.toInt) (rfl) (by omega) dX14_documentOf_77 (fun z_36 (hz_36 : True) => ?_)
                    refine lv_aload_n hx hb dX14_documentOf_78 rfl (lv_at hl 0 rfl) ?_
                    obtain ⟨v_37, hv_37, hh_38⟩ := hh_34.pin (C := RX14) (T := TX14) (N := 74) hB16 rfl (by decide) hg_r0 (i := 27) (by decide) rfl
                    clear hh_34
                    obtain ⟨pool_39, rfl, hg_pool_39⟩ := hv_37
                    refine j7_read hx hb hown hK (C := RX14) (T := TX14) (N := 74) rfl hly_16_27 hlk_65 (hh_38.at 0 rfl) dX14_documentOf_79 ?_
                    refine lv_aload_n hx hb dX14_documentOf_82 rfl (lv_at hl 0 rfl) ?_
                    refine j7_read hx hb hown hK (C := RX14) (T := TX14) (N := 74) rfl hly_16_22 hlk_52 (hh_38.at 2 rfl) dX14_documentOf_83 ?_
                    refine lv_iload_n hx hb dX14_documentOf_86 rfl (lv_at hl 1 rfl) ?_
                    refine j7_iald hx hb hK hh_38 hB122 1 rfl (by decide) hg_from_22 (x := a1.toInt) (rfl) (by omega) dX14_documentOf_87 (fun z_40 (hz_40 : 0 ≤ z_40.toInt ∧ z_40.toInt ≤ 3100) => ?_)
                    refine lv_iload hx hb dX14_documentOf_88 (lv_at hl 5 rfl) ?_
                    refine lv_iadd hx hb dX14_documentOf_90 ?_
                    refine lv_topi (fun z_41 ez_41 => ?_)
                    have hz_41 : z_41.toInt = z_40.toInt + v5_26.toInt := by rw [ez_41]; exact jb_iadd2 (rfl) (rfl) (by omega)
                    refine j7_iald hx hb hK hh_38 hB127 1 rfl (by decide) hg_pool_39 (x := z_41.toInt) (rfl) (by omega) dX14_documentOf_91 (fun z_42 (hz_42 : True) => ?_)
                    refine lv_icmp_ne (tgt := 99) hx hb dX14_documentOf_92 (by decide) (fun c_43 => ?_) (fun c_43 => ?_)
                    · skip
                      have c_43' : z_36.toInt ≠ z_42.toInt := jb_ne (rfl) (rfl) c_43
                      refine lv_iconst (v := 0) hx hb dX14_documentOf_99 (by decide) ?_
                      refine lv_istore (lv' := [(4, .int 0), (0, .ref r0), (1, .int a1), (2, .int v2_9), (3, .ref el_12), (5, .int v5_26)]) hx hb dX14_documentOf_100 hl (by decide) rfl (fun ls hl => ?_)
                      obtain ⟨z_44, ez_44⟩ : ∃ y : Int32, y = v5_26 + 1 := ⟨_, rfl⟩
                      refine lv_iinc (v := z_44) (lv' := [(5, .int z_44), (4, .int 0), (0, .ref r0), (1, .int a1), (2, .int v2_9), (3, .ref el_12)]) hx hb dX14_documentOf_102 hl (k := 5) rfl (by rw [ez_44]; rfl) (by decide) rfl (fun ls hl => ?_)
                      have hz_44 : z_44.toInt = v5_26.toInt + 1 := by rw [ez_44]; exact jb_iadd2 (rfl) (by decide) (by omega)
                      refine lv_goto (tgt := 57) hx hb dX14_documentOf_105 (by decide) ?_
                      exact L57 0 z_44 _ _ (hh_38.sub (L1 := [(r0, 16, 22, .ref from_22), (r0, 16, 23, .ref to_18), (el_12, 14, 1, .int uriLength_15), (r0, 16, 17, .ref sort_6), (r0, 16, 41, .ref dd), (r0, 16, 42, .int dc), (r0, 16, 60, .ref co), (r0, 16, 61, .ref cs), (r0, 16, 46, .ref ol), (r0, 16, 47, .ref nw), (r0, 16, 71, .ref td)]) [2, 3, 4, 5, 6, 7, 8, 9, 10, 11, 12] rfl (M1 := [(sort_6, 117, 3100, ca 1, f_fs_7), (cs, 207, 2, ca 1, fs)]) [0, 1] rfl (I1 := [(jFs, jDY dC dI ca G0 none sn), (jF9, jVl dC dI G0 9 ck), ([(201, 0)], jQc dC dI (ca 4) dd 3 fd), ([(208, 0)], jQc dC dI (ca 4) co 2 fo)]) [0, 1, 2, 3] rfl) (Or.inl rfl) (by first | omega | (refine ⟨?_, ?_⟩ <;> (first | omega | rfl | assumption | decide | exact Or.inl rfl | exact Or.inr rfl | (simp only; omega)))) (by omega) _ (lv_sub hl [2, 3, 4, 5, 1, 0] rfl)
                    · skip
                      have c_43' : z_36.toInt = z_42.toInt := jb_ne_n (rfl) (rfl) c_43
                      refine lv_iconst (v := 1) hx hb dX14_documentOf_95 (by decide) ?_
                      refine lv_goto (tgt := 100) hx hb dX14_documentOf_96 (by decide) ?_
                      refine lv_istore (lv' := [(4, .int 1), (0, .ref r0), (1, .int a1), (2, .int v2_9), (3, .ref el_12), (5, .int v5_26)]) hx hb dX14_documentOf_100 hl (by decide) rfl (fun ls hl => ?_)
                      obtain ⟨z_45, ez_45⟩ : ∃ y : Int32, y = v5_26 + 1 := ⟨_, rfl⟩
                      refine lv_iinc (v := z_45) (lv' := [(5, .int z_45), (4, .int 1), (0, .ref r0), (1, .int a1), (2, .int v2_9), (3, .ref el_12)]) hx hb dX14_documentOf_102 hl (k := 5) rfl (by rw [ez_45]; rfl) (by decide) rfl (fun ls hl => ?_)
                      have hz_45 : z_45.toInt = v5_26.toInt + 1 := by rw [ez_45]; exact jb_iadd2 (rfl) (by decide) (by omega)
                      refine lv_goto (tgt := 57) hx hb dX14_documentOf_105 (by decide) ?_
                      exact L57 1 z_45 _ _ (hh_38.sub (L1 := [(r0, 16, 22, .ref from_22), (r0, 16, 23, .ref to_18), (el_12, 14, 1, .int uriLength_15), (r0, 16, 17, .ref sort_6), (r0, 16, 41, .ref dd), (r0, 16, 42, .int dc), (r0, 16, 60, .ref co), (r0, 16, 61, .ref cs), (r0, 16, 46, .ref ol), (r0, 16, 47, .ref nw), (r0, 16, 71, .ref td)]) [2, 3, 4, 5, 6, 7, 8, 9, 10, 11, 12] rfl (M1 := [(sort_6, 117, 3100, ca 1, f_fs_7), (cs, 207, 2, ca 1, fs)]) [0, 1] rfl (I1 := [(jFs, jDY dC dI ca G0 none sn), (jF9, jVl dC dI G0 9 ck), ([(201, 0)], jQc dC dI (ca 4) dd 3 fd), ([(208, 0)], jQc dC dI (ca 4) co 2 fo)]) [0, 1, 2, 3] rfl) (Or.inr rfl) (by first | omega | (refine ⟨?_, ?_⟩ <;> (first | omega | rfl | assumption | decide | exact Or.inl rfl | exact Or.inr rfl | (simp only; omega)))) (by omega) _ (lv_sub hl [2, 3, 4, 5, 1, 0] rfl)
            exact L57 (40 - (0 : Int32).toInt : Int).toNat.succ w0_25 0 _ _ hh_25 (hb_w0_25) (by first | omega | (refine ⟨?_, ?_⟩ <;> (first | omega | rfl | assumption | decide | exact Or.inl rfl | exact Or.inr rfl | (simp only; omega)))) (by omega) _ (lv_sub hl [2, 3, 4, 5, 1, 0] rfl)
          refine lv_icmp_ne (tgt := 51) hx hb dX14_documentOf_44 (by decide) (fun c_46 => ?_) (fun c_46 => ?_)
          · skip
            have c_46' : uriLength_15.toInt ≠ z_24.toInt := jb_ne (rfl) (rfl) c_46
            refine lv_iconst (v := 0) hx hb dX14_documentOf_51 (by decide) ?_
            exact C52 0 _ _ hh_21 (Or.inl rfl) (trivial) _ (lv_sub hl [1, 2, 3, 0] rfl)
          · skip
            have c_46' : uriLength_15.toInt = z_24.toInt := jb_ne_n (rfl) (rfl) c_46
            refine lv_iconst (v := 1) hx hb dX14_documentOf_47 (by decide) ?_
            refine lv_goto (tgt := 52) hx hb dX14_documentOf_48 (by decide) ?_
            exact C52 1 _ _ hh_21 (Or.inr rfl) (trivial) _ (lv_sub hl [1, 2, 3, 0] rfl)
    exact L12 (dc.toInt - (0 : Int32).toInt : Int).toNat.succ 0 _ _ hh_2 (by first | omega | (refine ⟨?_, ?_⟩ <;> (first | omega | rfl | assumption | decide | exact Or.inl rfl | exact Or.inr rfl | (simp only; omega)))) (by omega) _ (lv_sub hl [1, 2, 0] rfl)
  · skip
    have c_8' : r_3.toInt = 0 := jb_ne_n (rfl) ((by decide)) c_8
    refine lv_null hx hb dX14_documentOf_8 ?_
    rw [hQ]
    exact W.aret (v := .null) hx hb hr (Or.inl ⟨_, rfl⟩) (Or.inl rfl) (fun t ht hW => ⟨⟨.null, (), rfl, Or.inl rfl, hh_2.rt (M1 := []) [] rfl ht⟩, by rw [ht]; try exact hh_2.1.1, fun q h9 hq => by rw [ht]; try exact hh_2.1.2.1 q h9 hq⟩) hh_2.1.2.2 dX14_documentOf_9
