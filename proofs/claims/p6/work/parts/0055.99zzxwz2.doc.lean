section
def EX14_documentW : List (Nat × Nat) := []
set_option maxHeartbeats 4000000 in
set_option maxRecDepth 20000 in
theorem uX14_documentW (l : Launch) (dC : Nat → ClassId) (dI : Nat → Nat → Nat) (ca : Nat → ClassId) (base : Nat) (B : jF) (hB : jBok B) (hAp : jAp (dC, dI)) (hB14 : ∀ n G a H, B 14 n G a H ↔ jOb (dC, dI) 14 11 (F14 n G) a H) (hB16 : ∀ n G a H, B 16 n G a H ↔ jOb (dC, dI) 16 74 (F16 n G) a H) (hB201 : ∀ n G a H, B 201 n G a H ↔ jAq (dC, dI) (ca 4) (jQs 14 0) n G a H) (G0 : jT) (H0 : Heap) (r0 : Nat) (a1 : Int32) (a2 : Int32) (S9 : Int × (Int → jdD)) (Z9 : jwSt) : Met l yX14_document (jw yX14_document cX14_document 4 (some .int)) ({ frames := 0, cells := 0, slots := 0, locals := 0 }) (va_Pc [.ref r0, .int a1, .int a2] (fun U => U.heap = H0 ∧ jX B base G0 [] H0 ∧ jG dC dI ca base U ∧ jK2 dC dI ca U ∧ G0 r0 = some (16, 0) ∧ jP (dC, dI) G0 H0 [] ∧ jIs (dC, dI) G0 H0 [(jFBZ, jBZ dC dI ca G0 r0 S9 Z9)] ∧ True)) (va_Qi (S := Unit) (fun r u => (r.toInt = jwDoc S9 Z9 a1.toInt a2.toInt)) (fun u t => (jRt (dC, dI) B base G0 EX14_documentW H0 [] t.heap) ∧ jIs (dC, dI) G0 t.heap [(jFBZ, jBZ dC dI ca G0 r0 S9 Z9)]) (jA base)) 0 0 (jA base) := by
  refine Met.ofW (cc := cX14_document) (maxL := 4) (ret := (some .int)) (by decide) rfl ?_
  intro p e s m args below meth c s₁ Bd hml hv
  obtain ⟨rfl, hH0, hX, hG, hK2, hg_r0, hP0, hI0, hp0⟩ := hv
  have hK := hG.1
  have hx := Bd.exec
  have hb := Bd.bytes
  have hr := Bd.returns
  have hts := atoms_spec (ws := (jw yX14_document cX14_document 4 (some .int))) Bd.pre
  have htw : ∀ w ∈ jWl, w.before _ s = true := fun w h => hts w (List.mem_cons_of_mem _ h)
  have hown : s.vm.findClass RX14 = some m.cls := findClass_of_methodNamed Bd.named
  have hlocks := Bd.notSynchronized
  obtain ⟨Q, hQ⟩ : ∃ Q, Q = MQ below (va_Qi (S := Unit) (fun r u => (r.toInt = jwDoc S9 Z9 a1.toInt a2.toInt)) (fun u t => (jRt (dC, dI) B base G0 EX14_documentW H0 [] t.heap) ∧ jIs (dC, dI) G0 t.heap [(jFBZ, jBZ dC dI ca G0 r0 S9 Z9)]) (jA base)) ([.ref r0, .int a1, .int a2] : List Value).toArray s 0 0 (jA base) := ⟨_, rfl⟩
  rw [← hQ]
  have hl := lv_entry ([.ref r0, .int a1, .int a2]) (n := 4) (Nat.le_of_ble_eq_true rfl)
  rw [lg_entry_eq]
  generalize (lg_sl ([.ref r0, .int a1, .int a2]) ++ List.replicate (4 - (lg_sl ([.ref r0, .int a1, .int a2])).length) Slot.unset).toArray = ls at hl ⊢
  have hl : lv_has ls 4 [(0, .ref r0), (1, .int a1), (2, .int a2)] := hl
  generalize hR : (headSpec (jw yX14_document cX14_document 4 (some .int)) ({ frames := 0, cells := 0, slots := 0, locals := 0 })).room = R
  subst hH0
  have hh : jSt (dC, dI) B base G0 G0 EX14_documentW s.heap 0 0 [] [] [(jFBZ, jBZ dC dI ca G0 r0 S9 Z9)] s.heap [] := jSt.start hX hP0 jMc.nil hI0
  clear hX hP0
  have hkm1 : ((-1) : Int32).toInt = (-1) := by decide
  have hk0 : (0 : Int32).toInt = 0 := by decide
  have hk1 : (1 : Int32).toInt = 1 := by decide
  have hk2 : (2 : Int32).toInt = 2 := by decide
  have hk3 : (3 : Int32).toInt = 3 := by decide
  have hly_14_2 := htw (u_lay RX12 TX12 2) (jWc_wsX120 _ (u_in_lay (by decide)))
  have hly_14_4 := htw (u_lay RX12 TX12 4) (jWc_wsX120 _ (u_in_lay (by decide)))
  have hly_14_5 := htw (u_lay RX12 TX12 5) (jWc_wsX120 _ (u_in_lay (by decide)))
  have hly_14_9 := htw (u_lay RX12 TX12 9) (jWc_wsX120 _ (u_in_lay (by decide)))
  have hly_16_41 := htw (u_lay RX14 TX14 41) (jWc_wsX140 _ (u_in_lay (by decide)))
  have hly_16_42 := htw (u_lay RX14 TX14 42) (jWc_wsX140 _ (u_in_lay (by decide)))
  have hlk_505 := (htw (.fieldLink RX14 505 "ProofServerModel" "documentCount" "I") (jWr_57 _ (List.mem_of_getElem? (i := 5) rfl)))
  have hlk_74 := (htw (.fieldLink RX14 74 "ProofServerModel" "documents" "[LProofServerModel$Document;") (jWr_11 _ (List.mem_of_getElem? (i := 19) rfl)))
  have hlk_524 := (va_Nw.use (A := ([.ref r0, .int a1, .int a2] : List Value).toArray) rfl (hG.2.1 RX14 524 "ProofServerModel$Document" "version" "I" "ProofServerModel" (List.mem_of_getElem? (i := 1733) (by decide +kernel))))
  have hlk_526 := (va_Nw.use (A := ([.ref r0, .int a1, .int a2] : List Value).toArray) rfl (hG.2.1 RX14 526 "ProofServerModel$Document" "units" "I" "ProofServerModel" (List.mem_of_getElem? (i := 1736) (by decide +kernel))))
  have hlk_587 := (va_Nw.use (A := ([.ref r0, .int a1, .int a2] : List Value).toArray) rfl (hG.2.1 RX14 587 "ProofServerModel$Document" "sentences" "I" "ProofServerModel" (List.mem_of_getElem? (i := 1737) (by decide +kernel))))
  have hlk_531 := (va_Nw.use (A := ([.ref r0, .int a1, .int a2] : List Value).toArray) rfl (hG.2.1 RX14 531 "ProofServerModel$Document" "checked" "I" "ProofServerModel" (List.mem_of_getElem? (i := 1744) (by decide +kernel))))
  have hrg_a1 := jb_rng a1
  have hrg_a2 := jb_rng a2
  obtain ⟨rt_1, fq_1, fd_1, dc_1, co_1, cs_1, cl_1, WW_1, ol_1, nw_1, td_1, hb1_1, hb2_1, hb3_1, hb4_1, hb5_1, hb6_1, hb7_1, hBz_1⟩ := hh.iv 0 rfl
  have hh_2 := hh.sub (L1 := []) [] rfl (M1 := []) [] rfl (I1 := []) [] rfl
  clear hh
  have hh_3 := hh_2.addI (jHo.ie hb7_1)
  clear hh_2
  have hh_4 := hh_3.addI (jHk.ie hb6_1)
  clear hh_3
  have hh_5 := hh_4.addI (jHw.ie hb5_1)
  clear hh_4
  have hh_6 := hh_5.addI (jHc.ie hb4_1)
  clear hh_5
  have hh_7 := hh_6.addI (jXD.ie hb3_1)
  clear hh_6
  have hh_8 := hh_7.addI (jRD.ie hb2_1)
  clear hh_7
  have hh_9 := hh_8.addI (jHd.ie hb1_1)
  clear hh_8
  obtain ⟨yfd_10, -, hgfd_10, hoP_10, hoM_10, hqfd_10, -⟩ := hh_9.iv 0 rfl
  have hh_11 := ((hh_9.sub (L1 := []) [] rfl (M1 := []) [] rfl (I1 := [(jFrd, jRD dC dI ca G0 none rt_1), (jFxd, jXD dC dI ca G0 none fq_1), (jFHc, jHc dC dI ca G0 r0 co_1 cs_1 cl_1), (jFHw, jHw dC dI ca G0 r0 WW_1), (jFHk, jHk dC dI ca G0 r0 (Z9.2.2.2)), (jFHo, jHo dC dI ca G0 r0 ol_1 nw_1 td_1)]) [1, 2, 3, 4, 5, 6] rfl).more hoP_10).moreM hoM_10
  clear hh_9
  have hh_12 := hh_11.addI (jQc.ie hqfd_10 hgfd_10 (by decide) (by decide))
  clear hh_11
  have hz9 := hBz_1
  have hdc9 := hz9.dc3
  refine lv_iload_n hx hb dX14_document_0 rfl (lv_at hl 1 rfl) ?_
  refine lv_if_lt (tgt := 12) hx hb dX14_document_1 (by decide) (fun c_13 => ?_) (fun c_13 => ?_)
  · skip
    have c_13' : a1.toInt < 0 := jb_lt (rfl) ((by decide)) c_13
    refine lv_iconst (v := (-1)) hx hb dX14_document_12 (by decide) ?_
    have hHf_14 : jHd dC dI ca G0 r0 fd_1 dc_1 s.heap := ⟨yfd_10, ⟨_, hg_r0⟩, hgfd_10, hh_12.2.2.1.sub (L1 := [(r0, 16, 41, .ref yfd_10), (r0, 16, 42, .int dc_1)]) [0, 1] rfl, hh_12.2.2.2.2.2.2.2.1.sub (L1 := []) [] rfl, hh_12.iv 0 rfl, trivial⟩
    have hh_15 := hh_12.sub (L1 := [(r0, 16, 41, .ref yfd_10), (r0, 16, 42, .int dc_1)]) [0, 1] rfl (M1 := []) [] rfl (I1 := [(jFrd, jRD dC dI ca G0 none rt_1), (jFxd, jXD dC dI ca G0 none fq_1), (jFHc, jHc dC dI ca G0 r0 co_1 cs_1 cl_1), (jFHw, jHw dC dI ca G0 r0 WW_1), (jFHk, jHk dC dI ca G0 r0 (Z9.2.2.2)), (jFHo, jHo dC dI ca G0 r0 ol_1 nw_1 td_1)]) [1, 2, 3, 4, 5, 6] rfl
    clear hh_12
    have hh_16 := hh_15.addI (jHd.ie hHf_14)
    clear hh_15
    have hBf_17 : jBZ dC dI ca G0 r0 S9 Z9 s.heap := ⟨rt_1, fq_1, fd_1, dc_1, co_1, cs_1, cl_1, WW_1, ol_1, nw_1, td_1, hh_16.iv 0 rfl, hh_16.iv 1 rfl, hh_16.iv 2 rfl, hh_16.iv 3 rfl, hh_16.iv 4 rfl, hh_16.iv 5 rfl, hh_16.iv 6 rfl, hz9⟩
    have hh_18 := hh_16.sub (L1 := [(r0, 16, 41, .ref yfd_10), (r0, 16, 42, .int dc_1)]) [0, 1] rfl (M1 := []) [] rfl (I1 := []) [] rfl
    clear hh_16
    have hh_19 := hh_18.addI (jBZ.ie hBf_17)
    clear hh_18
    rw [hQ]
    exact W.iret (v := (-1)) hx hb hr (fun t ht hW => ⟨⟨(-1), (), rfl, by rw [jwDoc.o (by have h9 := hz9.n; omega)]; exact hkm1, ⟨hh_19.rt (M1 := []) [] rfl ht, by rw [ht]; exact hh_19.2.2.2.2.2.2.2.2.sub (L1 := [(jFBZ, jBZ dC dI ca G0 r0 S9 Z9)]) [0] rfl⟩⟩, by rw [ht]; try exact hh_19.1.1, fun q h9 hq => by rw [ht]; try exact hh_19.1.2.1 q h9 hq⟩) hh_19.1.2.2 dX14_document_13
  · skip
    have c_13' : a1.toInt ≥ 0 := jb_lt_n (rfl) ((by decide)) c_13
    refine lv_iload_n hx hb dX14_document_4 rfl (lv_at hl 1 rfl) ?_
    refine lv_aload_n hx hb dX14_document_5 rfl (lv_at hl 0 rfl) ?_
    refine j7_read hx hb hown hK (C := RX14) (T := TX14) (N := 74) rfl hly_16_42 hlk_505 (hh_12.at 1 rfl) dX14_document_6 ?_
    refine lv_icmp_lt (tgt := 14) hx hb dX14_document_9 (by decide) (fun c_20 => ?_) (fun c_20 => ?_)
    · skip
      have c_20' : a1.toInt < dc_1.toInt := jb_lt (rfl) (rfl) c_20
      refine lv_aload_n hx hb dX14_document_14 rfl (lv_at hl 0 rfl) ?_
      refine j7_read hx hb hown hK (C := RX14) (T := TX14) (N := 74) rfl hly_16_41 hlk_74 (hh_12.at 0 rfl) dX14_document_15 ?_
      refine lv_iload_n hx hb dX14_document_18 rfl (lv_at hl 1 rfl) ?_
      refine j7_qaldI hx hb hK2 hh_12 hB201 0 rfl (by decide) hgfd_10 (x := a1.toInt) (rfl) (by omega) (hh_12.iv 0 rfl) dX14_document_19 (fun o_21 ho_21 heo_21 => ?_)
      obtain ⟨el_22, rfl, hg_el_22⟩ := ho_21
      simp only [va_rf]
      refine lv_astore_n (lv' := [(3, .ref el_22), (0, .ref r0), (1, .int a1), (2, .int a2)]) hx hb dX14_document_20 rfl hl (by decide) rfl (fun ls hl => ?_)
      refine lv_iload_n hx hb dX14_document_21 rfl (lv_at hl 3 rfl) ?_
      refine lv_if_ne (tgt := 32) hx hb dX14_document_22 (by decide) (fun c_23 => ?_) (fun c_23 => ?_)
      · skip
        have c_23' : a2.toInt ≠ 0 := jb_ne (rfl) ((by decide)) c_23
        refine lv_iload_n hx hb dX14_document_32 rfl (lv_at hl 3 rfl) ?_
        refine lv_iconst (v := 1) hx hb dX14_document_33 (by decide) ?_
        refine lv_icmp_ne (tgt := 44) hx hb dX14_document_34 (by decide) (fun c_24 => ?_) (fun c_24 => ?_)
        · skip
          have c_24' : a2.toInt ≠ 1 := jb_ne (rfl) ((by decide)) c_24
          refine lv_iload_n hx hb dX14_document_44 rfl (lv_at hl 3 rfl) ?_
          refine lv_iconst (v := 2) hx hb dX14_document_45 (by decide) ?_
          refine lv_icmp_ne (tgt := 56) hx hb dX14_document_46 (by decide) (fun c_25 => ?_) (fun c_25 => ?_)
          · skip
            have c_25' : a2.toInt ≠ 2 := jb_ne (rfl) ((by decide)) c_25
            refine lv_iload_n hx hb dX14_document_56 rfl (lv_at hl 3 rfl) ?_
            refine lv_iconst (v := 3) hx hb dX14_document_57 (by decide) ?_
            refine lv_icmp_ne (tgt := 68) hx hb dX14_document_58 (by decide) (fun c_26 => ?_) (fun c_26 => ?_)
            · skip
              have c_26' : a2.toInt ≠ 3 := jb_ne (rfl) ((by decide)) c_26
              refine lv_iconst (v := (-1)) hx hb dX14_document_68 (by decide) ?_
              have hHf_27 : jHd dC dI ca G0 r0 fd_1 dc_1 s.heap := ⟨yfd_10, ⟨_, hg_r0⟩, hgfd_10, hh_12.2.2.1.sub (L1 := [(r0, 16, 41, .ref yfd_10), (r0, 16, 42, .int dc_1)]) [0, 1] rfl, hh_12.2.2.2.2.2.2.2.1.sub (L1 := []) [] rfl, hh_12.iv 0 rfl, trivial⟩
              have hh_28 := hh_12.sub (L1 := [(r0, 16, 41, .ref yfd_10), (r0, 16, 42, .int dc_1)]) [0, 1] rfl (M1 := []) [] rfl (I1 := [(jFrd, jRD dC dI ca G0 none rt_1), (jFxd, jXD dC dI ca G0 none fq_1), (jFHc, jHc dC dI ca G0 r0 co_1 cs_1 cl_1), (jFHw, jHw dC dI ca G0 r0 WW_1), (jFHk, jHk dC dI ca G0 r0 (Z9.2.2.2)), (jFHo, jHo dC dI ca G0 r0 ol_1 nw_1 td_1)]) [1, 2, 3, 4, 5, 6] rfl
              clear hh_12
              have hh_29 := hh_28.addI (jHd.ie hHf_27)
              clear hh_28
              have hBf_30 : jBZ dC dI ca G0 r0 S9 Z9 s.heap := ⟨rt_1, fq_1, fd_1, dc_1, co_1, cs_1, cl_1, WW_1, ol_1, nw_1, td_1, hh_29.iv 0 rfl, hh_29.iv 1 rfl, hh_29.iv 2 rfl, hh_29.iv 3 rfl, hh_29.iv 4 rfl, hh_29.iv 5 rfl, hh_29.iv 6 rfl, hz9⟩
              have hh_31 := hh_29.sub (L1 := [(r0, 16, 41, .ref yfd_10), (r0, 16, 42, .int dc_1)]) [0, 1] rfl (M1 := []) [] rfl (I1 := []) [] rfl
              clear hh_29
              have hh_32 := hh_31.addI (jBZ.ie hBf_30)
              clear hh_31
              rw [hQ]
              exact W.iret (v := (-1)) hx hb hr (fun t ht hW => ⟨⟨(-1), (), rfl, by rw [hz9.dv (w := a2.toInt) (by omega) (by omega) heo_21, if_neg (by omega), if_neg (by omega), if_neg (by omega), if_neg (by omega)]; exact hkm1, ⟨hh_32.rt (M1 := []) [] rfl ht, by rw [ht]; exact hh_32.2.2.2.2.2.2.2.2.sub (L1 := [(jFBZ, jBZ dC dI ca G0 r0 S9 Z9)]) [0] rfl⟩⟩, by rw [ht]; try exact hh_32.1.1, fun q h9 hq => by rw [ht]; try exact hh_32.1.2.1 q h9 hq⟩) hh_32.1.2.2 dX14_document_69
            · skip
              have c_26' : a2.toInt = 3 := jb_ne_n (rfl) ((by decide)) c_26
              obtain ⟨ysb_33, yse_33, ysf_33, hgsb_33, hgse_33, hgsf_33, hgP_33, hgM_33⟩ := jXD.at (ca := ca) (hh_12.iv 2 rfl) hg_el_22 (fun q => by cases q)
              have hh_34 := ((hh_12.sub (L1 := [(r0, 16, 41, .ref yfd_10), (r0, 16, 42, .int dc_1)]) [0, 1] rfl (M1 := []) [] rfl (I1 := [([(201, 0)], jQc dC dI (ca 4) yfd_10 3 fd_1), (jFrd, jRD dC dI ca G0 none rt_1), (jFxd, jXD dC dI ca G0 none fq_1), (jFHc, jHc dC dI ca G0 r0 co_1 cs_1 cl_1), (jFHw, jHw dC dI ca G0 r0 WW_1), (jFHk, jHk dC dI ca G0 r0 (Z9.2.2.2)), (jFHo, jHo dC dI ca G0 r0 ol_1 nw_1 td_1)]) [0, 1, 2, 3, 4, 5, 6] rfl).more (hgP_33.sub (L1 := [(el_22, 14, 6, .ref ysb_33), (el_22, 14, 7, .ref yse_33), (el_22, 14, 8, .ref ysf_33), (el_22, 14, 5, .int (fq_1.sn el_22)), (el_22, 14, 9, .int (fq_1.ck el_22))]) [0, 1, 2, 3, 4] rfl)).moreM hgM_33
              clear hh_12
              refine lv_aload_n hx hb dX14_document_61 rfl (lv_at hl 0 rfl) ?_
              refine j7_readN hx hb hown hK (C := RX12) (T := TX12) (N := 11) rfl hly_14_9 hlk_531 (hh_34.at 4 rfl) dX14_document_62 ?_
              refine lv_goto (tgt := 69) hx hb dX14_document_65 (by decide) ?_
              have hHf_35 : jHd dC dI ca G0 r0 fd_1 dc_1 s.heap := ⟨yfd_10, ⟨_, hg_r0⟩, hgfd_10, hh_34.2.2.1.sub (L1 := [(r0, 16, 41, .ref yfd_10), (r0, 16, 42, .int dc_1)]) [5, 6] rfl, hh_34.2.2.2.2.2.2.2.1.sub (L1 := []) [] rfl, hh_34.iv 0 rfl, trivial⟩
              have hh_36 := hh_34.sub (L1 := [(el_22, 14, 6, .ref ysb_33), (el_22, 14, 7, .ref yse_33), (el_22, 14, 8, .ref ysf_33), (el_22, 14, 5, .int (fq_1.sn el_22)), (el_22, 14, 9, .int (fq_1.ck el_22)), (r0, 16, 41, .ref yfd_10), (r0, 16, 42, .int dc_1)]) [0, 1, 2, 3, 4, 5, 6] rfl (M1 := [(ysb_33, 190, 40, ca 1, (fq_1.sb el_22)), (yse_33, 191, 40, ca 1, (fq_1.se el_22)), (ysf_33, 192, 40, ca 1, (fq_1.sf el_22))]) [0, 1, 2] rfl (I1 := [(jFrd, jRD dC dI ca G0 none rt_1), (jFxd, jXD dC dI ca G0 none fq_1), (jFHc, jHc dC dI ca G0 r0 co_1 cs_1 cl_1), (jFHw, jHw dC dI ca G0 r0 WW_1), (jFHk, jHk dC dI ca G0 r0 (Z9.2.2.2)), (jFHo, jHo dC dI ca G0 r0 ol_1 nw_1 td_1)]) [1, 2, 3, 4, 5, 6] rfl
              clear hh_34
              have hh_37 := hh_36.addI (jHd.ie hHf_35)
              clear hh_36
              have hBf_38 : jBZ dC dI ca G0 r0 S9 Z9 s.heap := ⟨rt_1, fq_1, fd_1, dc_1, co_1, cs_1, cl_1, WW_1, ol_1, nw_1, td_1, hh_37.iv 0 rfl, hh_37.iv 1 rfl, hh_37.iv 2 rfl, hh_37.iv 3 rfl, hh_37.iv 4 rfl, hh_37.iv 5 rfl, hh_37.iv 6 rfl, hz9⟩
              have hh_39 := hh_37.sub (L1 := [(el_22, 14, 6, .ref ysb_33), (el_22, 14, 7, .ref yse_33), (el_22, 14, 8, .ref ysf_33), (el_22, 14, 5, .int (fq_1.sn el_22)), (el_22, 14, 9, .int (fq_1.ck el_22)), (r0, 16, 41, .ref yfd_10), (r0, 16, 42, .int dc_1)]) [0, 1, 2, 3, 4, 5, 6] rfl (M1 := [(ysb_33, 190, 40, ca 1, (fq_1.sb el_22)), (yse_33, 191, 40, ca 1, (fq_1.se el_22)), (ysf_33, 192, 40, ca 1, (fq_1.sf el_22))]) [0, 1, 2] rfl (I1 := []) [] rfl
              clear hh_37
              have hh_40 := hh_39.addI (jBZ.ie hBf_38)
              clear hh_39
              rw [hQ]
              exact W.iret (v := (fq_1.ck el_22)) hx hb hr (fun t ht hW => ⟨⟨(fq_1.ck el_22), (), rfl, by rw [hz9.dv (w := a2.toInt) (by omega) (by omega) heo_21, if_neg (by omega), if_neg (by omega), if_neg (by omega), if_pos (by omega)], ⟨hh_40.rt (M1 := []) [] rfl ht, by rw [ht]; exact hh_40.2.2.2.2.2.2.2.2.sub (L1 := [(jFBZ, jBZ dC dI ca G0 r0 S9 Z9)]) [0] rfl⟩⟩, by rw [ht]; try exact hh_40.1.1, fun q h9 hq => by rw [ht]; try exact hh_40.1.2.1 q h9 hq⟩) hh_40.1.2.2 dX14_document_69
          · skip
            have c_25' : a2.toInt = 2 := jb_ne_n (rfl) ((by decide)) c_25
            obtain ⟨ysb_41, yse_41, ysf_41, hgsb_41, hgse_41, hgsf_41, hgP_41, hgM_41⟩ := jXD.at (ca := ca) (hh_12.iv 2 rfl) hg_el_22 (fun q => by cases q)
            have hh_42 := ((hh_12.sub (L1 := [(r0, 16, 41, .ref yfd_10), (r0, 16, 42, .int dc_1)]) [0, 1] rfl (M1 := []) [] rfl (I1 := [([(201, 0)], jQc dC dI (ca 4) yfd_10 3 fd_1), (jFrd, jRD dC dI ca G0 none rt_1), (jFxd, jXD dC dI ca G0 none fq_1), (jFHc, jHc dC dI ca G0 r0 co_1 cs_1 cl_1), (jFHw, jHw dC dI ca G0 r0 WW_1), (jFHk, jHk dC dI ca G0 r0 (Z9.2.2.2)), (jFHo, jHo dC dI ca G0 r0 ol_1 nw_1 td_1)]) [0, 1, 2, 3, 4, 5, 6] rfl).more (hgP_41.sub (L1 := [(el_22, 14, 6, .ref ysb_41), (el_22, 14, 7, .ref yse_41), (el_22, 14, 8, .ref ysf_41), (el_22, 14, 5, .int (fq_1.sn el_22)), (el_22, 14, 9, .int (fq_1.ck el_22))]) [0, 1, 2, 3, 4] rfl)).moreM hgM_41
            clear hh_12
            refine lv_aload_n hx hb dX14_document_49 rfl (lv_at hl 0 rfl) ?_
            refine j7_readN hx hb hown hK (C := RX12) (T := TX12) (N := 11) rfl hly_14_5 hlk_587 (hh_42.at 3 rfl) dX14_document_50 ?_
            refine lv_goto (tgt := 69) hx hb dX14_document_53 (by decide) ?_
            have hHf_43 : jHd dC dI ca G0 r0 fd_1 dc_1 s.heap := ⟨yfd_10, ⟨_, hg_r0⟩, hgfd_10, hh_42.2.2.1.sub (L1 := [(r0, 16, 41, .ref yfd_10), (r0, 16, 42, .int dc_1)]) [5, 6] rfl, hh_42.2.2.2.2.2.2.2.1.sub (L1 := []) [] rfl, hh_42.iv 0 rfl, trivial⟩
            have hh_44 := hh_42.sub (L1 := [(el_22, 14, 6, .ref ysb_41), (el_22, 14, 7, .ref yse_41), (el_22, 14, 8, .ref ysf_41), (el_22, 14, 5, .int (fq_1.sn el_22)), (el_22, 14, 9, .int (fq_1.ck el_22)), (r0, 16, 41, .ref yfd_10), (r0, 16, 42, .int dc_1)]) [0, 1, 2, 3, 4, 5, 6] rfl (M1 := [(ysb_41, 190, 40, ca 1, (fq_1.sb el_22)), (yse_41, 191, 40, ca 1, (fq_1.se el_22)), (ysf_41, 192, 40, ca 1, (fq_1.sf el_22))]) [0, 1, 2] rfl (I1 := [(jFrd, jRD dC dI ca G0 none rt_1), (jFxd, jXD dC dI ca G0 none fq_1), (jFHc, jHc dC dI ca G0 r0 co_1 cs_1 cl_1), (jFHw, jHw dC dI ca G0 r0 WW_1), (jFHk, jHk dC dI ca G0 r0 (Z9.2.2.2)), (jFHo, jHo dC dI ca G0 r0 ol_1 nw_1 td_1)]) [1, 2, 3, 4, 5, 6] rfl
            clear hh_42
            have hh_45 := hh_44.addI (jHd.ie hHf_43)
            clear hh_44
            have hBf_46 : jBZ dC dI ca G0 r0 S9 Z9 s.heap := ⟨rt_1, fq_1, fd_1, dc_1, co_1, cs_1, cl_1, WW_1, ol_1, nw_1, td_1, hh_45.iv 0 rfl, hh_45.iv 1 rfl, hh_45.iv 2 rfl, hh_45.iv 3 rfl, hh_45.iv 4 rfl, hh_45.iv 5 rfl, hh_45.iv 6 rfl, hz9⟩
            have hh_47 := hh_45.sub (L1 := [(el_22, 14, 6, .ref ysb_41), (el_22, 14, 7, .ref yse_41), (el_22, 14, 8, .ref ysf_41), (el_22, 14, 5, .int (fq_1.sn el_22)), (el_22, 14, 9, .int (fq_1.ck el_22)), (r0, 16, 41, .ref yfd_10), (r0, 16, 42, .int dc_1)]) [0, 1, 2, 3, 4, 5, 6] rfl (M1 := [(ysb_41, 190, 40, ca 1, (fq_1.sb el_22)), (yse_41, 191, 40, ca 1, (fq_1.se el_22)), (ysf_41, 192, 40, ca 1, (fq_1.sf el_22))]) [0, 1, 2] rfl (I1 := []) [] rfl
            clear hh_45
            have hh_48 := hh_47.addI (jBZ.ie hBf_46)
            clear hh_47
            rw [hQ]
            exact W.iret (v := (fq_1.sn el_22)) hx hb hr (fun t ht hW => ⟨⟨(fq_1.sn el_22), (), rfl, by rw [hz9.dv (w := a2.toInt) (by omega) (by omega) heo_21, if_neg (by omega), if_neg (by omega), if_pos (by omega)], ⟨hh_48.rt (M1 := []) [] rfl ht, by rw [ht]; exact hh_48.2.2.2.2.2.2.2.2.sub (L1 := [(jFBZ, jBZ dC dI ca G0 r0 S9 Z9)]) [0] rfl⟩⟩, by rw [ht]; try exact hh_48.1.1, fun q h9 hq => by rw [ht]; try exact hh_48.1.2.1 q h9 hq⟩) hh_48.1.2.2 dX14_document_69
        · skip
          have c_24' : a2.toInt = 1 := jb_ne_n (rfl) ((by decide)) c_24
          obtain ⟨ut_49, uz_49, hgt_49, hgz_49, huP_49, huM_49⟩ := jRD.at (hh_12.iv 1 rfl) hg_el_22 (fun q => by cases q)
          have hh_50 := ((hh_12.sub (L1 := [(r0, 16, 41, .ref yfd_10), (r0, 16, 42, .int dc_1)]) [0, 1] rfl (M1 := []) [] rfl (I1 := [([(201, 0)], jQc dC dI (ca 4) yfd_10 3 fd_1), (jFrd, jRD dC dI ca G0 none rt_1), (jFxd, jXD dC dI ca G0 none fq_1), (jFHc, jHc dC dI ca G0 r0 co_1 cs_1 cl_1), (jFHw, jHw dC dI ca G0 r0 WW_1), (jFHk, jHk dC dI ca G0 r0 (Z9.2.2.2)), (jFHo, jHo dC dI ca G0 r0 ol_1 nw_1 td_1)]) [0, 1, 2, 3, 4, 5, 6] rfl).more huP_49).moreM huM_49
          clear hh_12
          refine lv_aload_n hx hb dX14_document_37 rfl (lv_at hl 0 rfl) ?_
          refine j7_readN hx hb hown hK (C := RX12) (T := TX12) (N := 11) rfl hly_14_4 hlk_526 (hh_50.at 3 rfl) dX14_document_38 ?_
          refine lv_goto (tgt := 69) hx hb dX14_document_41 (by decide) ?_
          have hHf_51 : jHd dC dI ca G0 r0 fd_1 dc_1 s.heap := ⟨yfd_10, ⟨_, hg_r0⟩, hgfd_10, hh_50.2.2.1.sub (L1 := [(r0, 16, 41, .ref yfd_10), (r0, 16, 42, .int dc_1)]) [5, 6] rfl, hh_50.2.2.2.2.2.2.2.1.sub (L1 := []) [] rfl, hh_50.iv 0 rfl, trivial⟩
          have hh_52 := hh_50.sub (L1 := [(el_22, 14, 3, .ref ut_49), (el_22, 14, 0, .ref uz_49), (el_22, 14, 2, .int (rt_1.ve el_22)), (el_22, 14, 4, .int (rt_1.ln el_22)), (el_22, 14, 1, .int (rt_1.ul el_22)), (r0, 16, 41, .ref yfd_10), (r0, 16, 42, .int dc_1)]) [0, 1, 2, 3, 4, 5, 6] rfl (M1 := [(ut_49, 194, 1500, ca 1, (rt_1.tx el_22)), (uz_49, 195, 40, ca 1, (rt_1.ux el_22))]) [0, 1] rfl (I1 := [(jFrd, jRD dC dI ca G0 none rt_1), (jFxd, jXD dC dI ca G0 none fq_1), (jFHc, jHc dC dI ca G0 r0 co_1 cs_1 cl_1), (jFHw, jHw dC dI ca G0 r0 WW_1), (jFHk, jHk dC dI ca G0 r0 (Z9.2.2.2)), (jFHo, jHo dC dI ca G0 r0 ol_1 nw_1 td_1)]) [1, 2, 3, 4, 5, 6] rfl
          clear hh_50
          have hh_53 := hh_52.addI (jHd.ie hHf_51)
          clear hh_52
          have hBf_54 : jBZ dC dI ca G0 r0 S9 Z9 s.heap := ⟨rt_1, fq_1, fd_1, dc_1, co_1, cs_1, cl_1, WW_1, ol_1, nw_1, td_1, hh_53.iv 0 rfl, hh_53.iv 1 rfl, hh_53.iv 2 rfl, hh_53.iv 3 rfl, hh_53.iv 4 rfl, hh_53.iv 5 rfl, hh_53.iv 6 rfl, hz9⟩
          have hh_55 := hh_53.sub (L1 := [(el_22, 14, 3, .ref ut_49), (el_22, 14, 0, .ref uz_49), (el_22, 14, 2, .int (rt_1.ve el_22)), (el_22, 14, 4, .int (rt_1.ln el_22)), (el_22, 14, 1, .int (rt_1.ul el_22)), (r0, 16, 41, .ref yfd_10), (r0, 16, 42, .int dc_1)]) [0, 1, 2, 3, 4, 5, 6] rfl (M1 := [(ut_49, 194, 1500, ca 1, (rt_1.tx el_22)), (uz_49, 195, 40, ca 1, (rt_1.ux el_22))]) [0, 1] rfl (I1 := []) [] rfl
          clear hh_53
          have hh_56 := hh_55.addI (jBZ.ie hBf_54)
          clear hh_55
          rw [hQ]
          exact W.iret (v := (rt_1.ln el_22)) hx hb hr (fun t ht hW => ⟨⟨(rt_1.ln el_22), (), rfl, by rw [hz9.dv (w := a2.toInt) (by omega) (by omega) heo_21, if_neg (by omega), if_pos (by omega)], ⟨hh_56.rt (M1 := []) [] rfl ht, by rw [ht]; exact hh_56.2.2.2.2.2.2.2.2.sub (L1 := [(jFBZ, jBZ dC dI ca G0 r0 S9 Z9)]) [0] rfl⟩⟩, by rw [ht]; try exact hh_56.1.1, fun q h9 hq => by rw [ht]; try exact hh_56.1.2.1 q h9 hq⟩) hh_56.1.2.2 dX14_document_69
      · skip
        have c_23' : a2.toInt = 0 := jb_ne_n (rfl) ((by decide)) c_23
        obtain ⟨ut_57, uz_57, hgt_57, hgz_57, huP_57, huM_57⟩ := jRD.at (hh_12.iv 1 rfl) hg_el_22 (fun q => by cases q)
        have hh_58 := ((hh_12.sub (L1 := [(r0, 16, 41, .ref yfd_10), (r0, 16, 42, .int dc_1)]) [0, 1] rfl (M1 := []) [] rfl (I1 := [([(201, 0)], jQc dC dI (ca 4) yfd_10 3 fd_1), (jFrd, jRD dC dI ca G0 none rt_1), (jFxd, jXD dC dI ca G0 none fq_1), (jFHc, jHc dC dI ca G0 r0 co_1 cs_1 cl_1), (jFHw, jHw dC dI ca G0 r0 WW_1), (jFHk, jHk dC dI ca G0 r0 (Z9.2.2.2)), (jFHo, jHo dC dI ca G0 r0 ol_1 nw_1 td_1)]) [0, 1, 2, 3, 4, 5, 6] rfl).more huP_57).moreM huM_57
        clear hh_12
        refine lv_aload_n hx hb dX14_document_25 rfl (lv_at hl 0 rfl) ?_
        refine j7_readN hx hb hown hK (C := RX12) (T := TX12) (N := 11) rfl hly_14_2 hlk_524 (hh_58.at 2 rfl) dX14_document_26 ?_
        refine lv_goto (tgt := 69) hx hb dX14_document_29 (by decide) ?_
        have hHf_59 : jHd dC dI ca G0 r0 fd_1 dc_1 s.heap := ⟨yfd_10, ⟨_, hg_r0⟩, hgfd_10, hh_58.2.2.1.sub (L1 := [(r0, 16, 41, .ref yfd_10), (r0, 16, 42, .int dc_1)]) [5, 6] rfl, hh_58.2.2.2.2.2.2.2.1.sub (L1 := []) [] rfl, hh_58.iv 0 rfl, trivial⟩
        have hh_60 := hh_58.sub (L1 := [(el_22, 14, 3, .ref ut_57), (el_22, 14, 0, .ref uz_57), (el_22, 14, 2, .int (rt_1.ve el_22)), (el_22, 14, 4, .int (rt_1.ln el_22)), (el_22, 14, 1, .int (rt_1.ul el_22)), (r0, 16, 41, .ref yfd_10), (r0, 16, 42, .int dc_1)]) [0, 1, 2, 3, 4, 5, 6] rfl (M1 := [(ut_57, 194, 1500, ca 1, (rt_1.tx el_22)), (uz_57, 195, 40, ca 1, (rt_1.ux el_22))]) [0, 1] rfl (I1 := [(jFrd, jRD dC dI ca G0 none rt_1), (jFxd, jXD dC dI ca G0 none fq_1), (jFHc, jHc dC dI ca G0 r0 co_1 cs_1 cl_1), (jFHw, jHw dC dI ca G0 r0 WW_1), (jFHk, jHk dC dI ca G0 r0 (Z9.2.2.2)), (jFHo, jHo dC dI ca G0 r0 ol_1 nw_1 td_1)]) [1, 2, 3, 4, 5, 6] rfl
        clear hh_58
        have hh_61 := hh_60.addI (jHd.ie hHf_59)
        clear hh_60
        have hBf_62 : jBZ dC dI ca G0 r0 S9 Z9 s.heap := ⟨rt_1, fq_1, fd_1, dc_1, co_1, cs_1, cl_1, WW_1, ol_1, nw_1, td_1, hh_61.iv 0 rfl, hh_61.iv 1 rfl, hh_61.iv 2 rfl, hh_61.iv 3 rfl, hh_61.iv 4 rfl, hh_61.iv 5 rfl, hh_61.iv 6 rfl, hz9⟩
        have hh_63 := hh_61.sub (L1 := [(el_22, 14, 3, .ref ut_57), (el_22, 14, 0, .ref uz_57), (el_22, 14, 2, .int (rt_1.ve el_22)), (el_22, 14, 4, .int (rt_1.ln el_22)), (el_22, 14, 1, .int (rt_1.ul el_22)), (r0, 16, 41, .ref yfd_10), (r0, 16, 42, .int dc_1)]) [0, 1, 2, 3, 4, 5, 6] rfl (M1 := [(ut_57, 194, 1500, ca 1, (rt_1.tx el_22)), (uz_57, 195, 40, ca 1, (rt_1.ux el_22))]) [0, 1] rfl (I1 := []) [] rfl
        clear hh_61
        have hh_64 := hh_63.addI (jBZ.ie hBf_62)
        clear hh_63
        rw [hQ]
        exact W.iret (v := (rt_1.ve el_22)) hx hb hr (fun t ht hW => ⟨⟨(rt_1.ve el_22), (), rfl, by rw [hz9.dv (w := a2.toInt) (by omega) (by omega) heo_21, if_pos (by omega)], ⟨hh_64.rt (M1 := []) [] rfl ht, by rw [ht]; exact hh_64.2.2.2.2.2.2.2.2.sub (L1 := [(jFBZ, jBZ dC dI ca G0 r0 S9 Z9)]) [0] rfl⟩⟩, by rw [ht]; try exact hh_64.1.1, fun q h9 hq => by rw [ht]; try exact hh_64.1.2.1 q h9 hq⟩) hh_64.1.2.2 dX14_document_69
    · skip
      have c_20' : a1.toInt ≥ dc_1.toInt := jb_lt_n (rfl) (rfl) c_20
      refine lv_iconst (v := (-1)) hx hb dX14_document_12 (by decide) ?_
      have hHf_65 : jHd dC dI ca G0 r0 fd_1 dc_1 s.heap := ⟨yfd_10, ⟨_, hg_r0⟩, hgfd_10, hh_12.2.2.1.sub (L1 := [(r0, 16, 41, .ref yfd_10), (r0, 16, 42, .int dc_1)]) [0, 1] rfl, hh_12.2.2.2.2.2.2.2.1.sub (L1 := []) [] rfl, hh_12.iv 0 rfl, trivial⟩
      have hh_66 := hh_12.sub (L1 := [(r0, 16, 41, .ref yfd_10), (r0, 16, 42, .int dc_1)]) [0, 1] rfl (M1 := []) [] rfl (I1 := [(jFrd, jRD dC dI ca G0 none rt_1), (jFxd, jXD dC dI ca G0 none fq_1), (jFHc, jHc dC dI ca G0 r0 co_1 cs_1 cl_1), (jFHw, jHw dC dI ca G0 r0 WW_1), (jFHk, jHk dC dI ca G0 r0 (Z9.2.2.2)), (jFHo, jHo dC dI ca G0 r0 ol_1 nw_1 td_1)]) [1, 2, 3, 4, 5, 6] rfl
      clear hh_12
      have hh_67 := hh_66.addI (jHd.ie hHf_65)
      clear hh_66
      have hBf_68 : jBZ dC dI ca G0 r0 S9 Z9 s.heap := ⟨rt_1, fq_1, fd_1, dc_1, co_1, cs_1, cl_1, WW_1, ol_1, nw_1, td_1, hh_67.iv 0 rfl, hh_67.iv 1 rfl, hh_67.iv 2 rfl, hh_67.iv 3 rfl, hh_67.iv 4 rfl, hh_67.iv 5 rfl, hh_67.iv 6 rfl, hz9⟩
      have hh_69 := hh_67.sub (L1 := [(r0, 16, 41, .ref yfd_10), (r0, 16, 42, .int dc_1)]) [0, 1] rfl (M1 := []) [] rfl (I1 := []) [] rfl
      clear hh_67
      have hh_70 := hh_69.addI (jBZ.ie hBf_68)
      clear hh_69
      rw [hQ]
      exact W.iret (v := (-1)) hx hb hr (fun t ht hW => ⟨⟨(-1), (), rfl, by rw [jwDoc.o (by have h9 := hz9.n; omega)]; exact hkm1, ⟨hh_70.rt (M1 := []) [] rfl ht, by rw [ht]; exact hh_70.2.2.2.2.2.2.2.2.sub (L1 := [(jFBZ, jBZ dC dI ca G0 r0 S9 Z9)]) [0] rfl⟩⟩, by rw [ht]; try exact hh_70.1.1, fun q h9 hq => by rw [ht]; try exact hh_70.1.2.1 q h9 hq⟩) hh_70.1.2.2 dX14_document_13
end
