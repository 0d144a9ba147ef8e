section
def EX14_nextDocumentT : List (Nat × Nat) := []
set_option maxHeartbeats 4000000 in
set_option maxRecDepth 20000 in
theorem uX14_nextDocumentT (l : Launch) (dC : Nat → ClassId) (dI : Nat → Nat → Nat) (ca : Nat → ClassId) (base : Nat) (B : jF) (hB : jBok B) (hAp : jAp (dC, dI)) (hB14 : ∀ n G a H, B 14 n G a H ↔ jOb (dC, dI) 14 11 (F14 n G) a H) (hB16 : ∀ n G a H, B 16 n G a H ↔ jOb (dC, dI) 16 74 (F16 n G) a H) (hB201 : ∀ n G a H, B 201 n G a H ↔ jAq (dC, dI) (ca 4) (jQs 14 0) n G a H) (hB202 : ∀ n G a H, B 202 n G a H ↔ jAq (dC, dI) (ca 4) (jQn 14 0) n G a H) (hB208 : ∀ n G a H, B 208 n G a H ↔ jAq (dC, dI) (ca 4) (jQn 14 0) n G a H) (G0 : jT) (H0 : Heap) (r0 : Nat) (rq : jDtr) (ol nw td : Nat) (S9 : Int × (Int → jdD)) (Z9 : jwSt) (fq : jXg) (fd : Nat → Option Nat) (dc : Int32) (co : Nat → Option Nat) (cs : Nat → Int32) (cl : Nat → Int32) (WW : List jwA) : Met l yX14_nextDocument (jw yX14_nextDocument cX14_nextDocument 4 (some (.object "ProofServerModel$Document"))) ({ frames := 1, cells := 0, slots := 0, locals := 22 }) (va_Pc [.ref r0] (fun U => U.heap = H0 ∧ jX B base G0 [] H0 ∧ jG dC dI ca base U ∧ jK2 dC dI ca U ∧ G0 r0 = some (16, 0) ∧ jP (dC, dI) G0 H0 [] ∧ jIs (dC, dI) G0 H0 [(jFxd, jXD dC dI ca G0 none fq), (jFHd, jHd dC dI ca G0 r0 fd dc), (jFHc, jHc dC dI ca G0 r0 co cs cl), (jFHw, jHw dC dI ca G0 r0 WW)] ∧ jrZ rq fq fd dc.toInt co cs cl WW ol nw td S9 Z9)) (jQx (S := Unit) (fun v u => jRn G0 14 0 v ∧ v = jdRr fd (jwNx S9 Z9)) (fun u t => (jRt (dC, dI) B base G0 EX14_nextDocumentT H0 [] t.heap) ∧ jIs (dC, dI) G0 t.heap [(jFxd, jXD dC dI ca G0 none fq), (jFHd, jHd dC dI ca G0 r0 fd dc), (jFHc, jHc dC dI ca G0 r0 co cs cl), (jFHw, jHw dC dI ca G0 r0 WW)]) (jA base)) 0 0 (jA base) := by
  refine Met.ofW (cc := cX14_nextDocument) (maxL := 4) (ret := (some (.object "ProofServerModel$Document"))) (by decide) rfl ?_
  intro p e s m args below meth c s₁ Bd hml hv
  obtain ⟨rfl, hH0, hX, hG, hK2, hg_r0, hP0, hI0, hp0⟩ := hv
  have hK := hG.1
  have hx := Bd.exec
  have hb := Bd.bytes
  have hr := Bd.returns
  have hts := atoms_spec (ws := (jw yX14_nextDocument cX14_nextDocument 4 (some (.object "ProofServerModel$Document")))) Bd.pre
  have htw : ∀ w ∈ jWl, w.before _ s = true := fun w h => hts w (List.mem_cons_of_mem _ h)
  have hown : s.vm.findClass RX14 = some m.cls := findClass_of_methodNamed Bd.named
  have hlocks := Bd.notSynchronized
  obtain ⟨Q, hQ⟩ : ∃ Q, Q = MQ below (jQx (S := Unit) (fun v u => jRn G0 14 0 v ∧ v = jdRr fd (jwNx S9 Z9)) (fun u t => (jRt (dC, dI) B base G0 EX14_nextDocumentT H0 [] t.heap) ∧ jIs (dC, dI) G0 t.heap [(jFxd, jXD dC dI ca G0 none fq), (jFHd, jHd dC dI ca G0 r0 fd dc), (jFHc, jHc dC dI ca G0 r0 co cs cl), (jFHw, jHw dC dI ca G0 r0 WW)]) (jA base)) ([.ref r0] : List Value).toArray s 0 0 (jA base) := ⟨_, rfl⟩
  rw [← hQ]
  have hl := lv_entry ([.ref r0]) (n := 4) (Nat.le_of_ble_eq_true rfl)
  rw [lg_entry_eq]
  generalize (lg_sl ([.ref r0]) ++ List.replicate (4 - (lg_sl ([.ref r0])).length) Slot.unset).toArray = ls at hl ⊢
  have hl : lv_has ls 4 [(0, .ref r0)] := hl
  generalize hR : (headSpec (jw yX14_nextDocument cX14_nextDocument 4 (some (.object "ProofServerModel$Document"))) ({ frames := 1, cells := 0, slots := 0, locals := 22 })).room = R
  subst hH0
  have hh : jSt (dC, dI) B base G0 G0 EX14_nextDocumentT s.heap 0 0 [] [] [(jFxd, jXD dC dI ca G0 none fq), (jFHd, jHd dC dI ca G0 r0 fd dc), (jFHc, jHc dC dI ca G0 r0 co cs cl), (jFHw, jHw dC dI ca G0 r0 WW)] s.heap [] := jSt.start hX hP0 jMc.nil hI0
  clear hX hP0
  have hk0 : (0 : Int32).toInt = 0 := by decide
  have hk1 : (1 : Int32).toInt = 1 := by decide
  have hly_14_5 := htw (u_lay RX12 TX12 5) (jWc_wsX120 _ (u_in_lay (by decide)))
  have hly_14_9 := htw (u_lay RX12 TX12 9) (jWc_wsX120 _ (u_in_lay (by decide)))
  have hly_16_41 := htw (u_lay RX14 TX14 41) (jWc_wsX140 _ (u_in_lay (by decide)))
  have hly_16_42 := htw (u_lay RX14 TX14 42) (jWc_wsX140 _ (u_in_lay (by decide)))
  have hly_16_60 := htw (u_lay RX14 TX14 60) (jWc_wsX140 _ (u_in_lay (by decide)))
  have hlk_505 := (htw (.fieldLink RX14 505 "ProofServerModel" "documentCount" "I") (jWr_57 _ (List.mem_of_getElem? (i := 5) rfl)))
  have hlk_74 := (htw (.fieldLink RX14 74 "ProofServerModel" "documents" "[LProofServerModel$Document;") (jWr_11 _ (List.mem_of_getElem? (i := 19) rfl)))
  have hlk_531 := (va_Nw.use (A := ([.ref r0] : List Value).toArray) rfl (hG.2.1 RX14 531 "ProofServerModel$Document" "checked" "I" "ProofServerModel" (List.mem_of_getElem? (i := 1744) (by decide +kernel))))
  have hlk_587 := (va_Nw.use (A := ([.ref r0] : List Value).toArray) rfl (hG.2.1 RX14 587 "ProofServerModel$Document" "sentences" "I" "ProofServerModel" (List.mem_of_getElem? (i := 1737) (by decide +kernel))))
  have hlk_129 := (htw (.fieldLink RX14 129 "ProofServerModel" "checkOf" "[LProofServerModel$Document;") (jWr_12 _ (List.mem_of_getElem? (i := 15) rfl)))
  have hdc9 := hp0.dc3
  obtain ⟨yfd_1, -, hgfd_1, hoP_1, hoM_1, hqfd_1, -⟩ := hh.iv 1 rfl
  have hh_2 := ((hh.sub (L1 := []) [] rfl (M1 := []) [] rfl (I1 := [(jFxd, jXD dC dI ca G0 none fq), (jFHc, jHc dC dI ca G0 r0 co cs cl), (jFHw, jHw dC dI ca G0 r0 WW)]) [0, 2, 3] rfl).more hoP_1).moreM hoM_1
  clear hh
  have hh_3 := hh_2.addI (jQc.ie hqfd_1 hgfd_1 (by decide) (by decide))
  clear hh_2
  obtain ⟨ycs_4, ycl_4, yco_4, -, ⟨hgcs_4, hgcl_4, hgco_4⟩, hoP_4, hoM_4, hqco_4, -⟩ := hh_3.iv 2 rfl
  have hh_5 := ((hh_3.sub (L1 := [(r0, 16, 41, .ref yfd_1), (r0, 16, 42, .int dc)]) [0, 1] rfl (M1 := []) [] rfl (I1 := [([(201, 0)], jQc dC dI (ca 4) yfd_1 3 fd), (jFxd, jXD dC dI ca G0 none fq), (jFHw, jHw dC dI ca G0 r0 WW)]) [0, 1, 3] rfl).more hoP_4).moreM hoM_4
  clear hh_3
  have hh_6 := hh_5.addI (jQc.ie hqco_4 hgco_4 (by decide) (by decide))
  clear hh_5
  refine lv_null hx hb dX14_nextDocument_0 ?_
  refine j7_nst_n (lv' := [(1, .null), (0, .ref r0)]) hx hb dX14_nextDocument_1 rfl hl (by decide) rfl (fun ls hl => ?_)
  refine lv_iconst (v := 0) hx hb dX14_nextDocument_2 (by decide) ?_
  refine lv_istore_n (lv' := [(2, .int 0), (1, .null), (0, .ref r0)]) hx hb dX14_nextDocument_3 rfl hl (by decide) rfl (fun ls hl => ?_)
  have L4 : ∀ (N : Nat) (v1_7 : Option Nat) (v2_7 : Int32) (H_7 : Heap) (locs_7 : List Loc), jSt (dC, dI) B base G0 G0 EX14_nextDocumentT s.heap 0 0 [(r0, 16, 61, .ref ycs_4), (r0, 16, 62, .ref ycl_4), (r0, 16, 60, .ref yco_4), (r0, 16, 41, .ref yfd_1), (r0, 16, 42, .int dc)] [(ycs_4, 207, 2, ca 1, cs), (ycl_4, 115, 2, ca 1, cl)] [([(208, 0)], jQc dC dI (ca 4) yco_4 2 co), ([(201, 0)], jQc dC dI (ca 4) yfd_1 3 fd), (jFxd, jXD dC dI ca G0 none fq), (jFHw, jHw dC dI ca G0 r0 WW)] H_7 locs_7 → (v1_7 = none ∨ ∃ x, v1_7 = some x ∧ G0 x = some (14, 0) ∧ ∃ d : Nat, (d : Int) < dc.toInt ∧ d < 3 ∧ fd d = some x) → (0 ≤ v2_7.toInt ∧ v2_7.toInt ≤ dc.toInt ∧ jwN S9 Z9 (dc.toInt - v2_7.toInt).toNat v2_7.toInt (jrNo fd v1_7) = jwNx S9 Z9) → (dc.toInt - v2_7.toInt : Int) < N → ∀ ls : Array Slot, lv_has ls 4 [(0, .ref r0), (1, va_rf v1_7), (2, .int v2_7)] → W p l e R s m ([.ref r0] : List Value).toArray below meth c H_7 locs_7 0 0 Q (F0 m 4 ls []) := by
    intro N
    induction N with
    | zero => intro v1_7 v2_7 H_7 locs_7 hh_7 hq_v1_7 hi_7 hm; exact absurd hm (by omega)
    | succ N L4 =>
      intro v1_7 v2_7 H_7 locs_7 hh_7 hq_v1_7 hi_7 hm_7 ls hl
      obtain ⟨hi_7_0, hi_7_1, hi_7_2⟩ := hi_7
      rcases hq_v1_7 with rfl | ⟨nv_8, rfl, hg_nv_8, hp_nv_8⟩
      · have hl : lv_has ls 4 [(0, .ref r0), (1, .null), (2, .int v2_7)] := hl
        refine lv_iload_n hx hb dX14_nextDocument_4 rfl (lv_at hl 2 rfl) ?_
        refine lv_aload_n hx hb dX14_nextDocument_5 rfl (lv_at hl 0 rfl) ?_
        refine j7_read hx hb hown hK (C := RX14) (T := TX14) (N := 74) rfl hly_16_42 hlk_505 (hh_7.at 4 rfl) dX14_nextDocument_6 ?_
        refine lv_icmp_ge (tgt := 75) hx hb dX14_nextDocument_9 (by decide) (fun c_9 => ?_) (fun c_9 => ?_)
        · skip
          have c_9' : v2_7.toInt ≥ dc.toInt := jb_ge (rfl) (rfl) c_9
          refine j7_nld_n hx hb dX14_nextDocument_75 rfl (lv_at hl 1 rfl) ?_
          have hHf_10 : jHd dC dI ca G0 r0 fd dc H_7 := ⟨yfd_1, ⟨_, hg_r0⟩, hgfd_1, hh_7.2.2.1.sub (L1 := [(r0, 16, 41, .ref yfd_1), (r0, 16, 42, .int dc)]) [3, 4] rfl, hh_7.2.2.2.2.2.2.2.1.sub (L1 := []) [] rfl, hh_7.iv 1 rfl, trivial⟩
          have hh_11 := hh_7.sub (L1 := [(r0, 16, 61, .ref ycs_4), (r0, 16, 62, .ref ycl_4), (r0, 16, 60, .ref yco_4), (r0, 16, 41, .ref yfd_1), (r0, 16, 42, .int dc)]) [0, 1, 2, 3, 4] rfl (M1 := [(ycs_4, 207, 2, ca 1, cs), (ycl_4, 115, 2, ca 1, cl)]) [0, 1] rfl (I1 := [([(208, 0)], jQc dC dI (ca 4) yco_4 2 co), (jFxd, jXD dC dI ca G0 none fq), (jFHw, jHw dC dI ca G0 r0 WW)]) [0, 2, 3] rfl
          clear hh_7
          have hh_12 := hh_11.addI (jHd.ie hHf_10)
          clear hh_11
          have hHf_13 : jHc dC dI ca G0 r0 co cs cl H_7 := ⟨ycs_4, ycl_4, yco_4, ⟨_, hg_r0⟩, ⟨hgcs_4, hgcl_4, hgco_4⟩, hh_12.2.2.1.sub (L1 := [(r0, 16, 61, .ref ycs_4), (r0, 16, 62, .ref ycl_4), (r0, 16, 60, .ref yco_4)]) [0, 1, 2] rfl, hh_12.2.2.2.2.2.2.2.1.sub (L1 := [(ycs_4, 207, 2, ca 1, cs), (ycl_4, 115, 2, ca 1, cl)]) [0, 1] rfl, hh_12.iv 1 rfl, trivial⟩
          have hh_14 := hh_12.sub (L1 := [(r0, 16, 61, .ref ycs_4), (r0, 16, 62, .ref ycl_4), (r0, 16, 60, .ref yco_4), (r0, 16, 41, .ref yfd_1), (r0, 16, 42, .int dc)]) [0, 1, 2, 3, 4] rfl (M1 := [(ycs_4, 207, 2, ca 1, cs), (ycl_4, 115, 2, ca 1, cl)]) [0, 1] rfl (I1 := [(jFHd, jHd dC dI ca G0 r0 fd dc), (jFxd, jXD dC dI ca G0 none fq), (jFHw, jHw dC dI ca G0 r0 WW)]) [0, 2, 3] rfl
          clear hh_12
          have hh_15 := hh_14.addI (jHc.ie hHf_13)
          clear hh_14
          rw [hQ]
          exact W.aret (v := .null) hx hb hr (Or.inl ⟨_, rfl⟩) (Or.inl rfl) (fun t ht hW => ⟨⟨.null, (), rfl, ⟨Or.inl rfl, by rw [← hi_7_2, show (dc.toInt - v2_7.toInt).toNat = 0 by omega]; exact jdRr.z.symm⟩, ⟨hh_15.rt (M1 := []) [] rfl ht, by rw [ht]; exact hh_15.2.2.2.2.2.2.2.2.sub (L1 := [(jFxd, jXD dC dI ca G0 none fq), (jFHd, jHd dC dI ca G0 r0 fd dc), (jFHc, jHc dC dI ca G0 r0 co cs cl), (jFHw, jHw dC dI ca G0 r0 WW)]) [2, 1, 0, 3] rfl⟩⟩, by rw [ht]; try exact hh_15.1.1, fun q h9 hq => by rw [ht]; try exact hh_15.1.2.1 q h9 hq⟩) hh_15.1.2.2 dX14_nextDocument_76
        · skip
          have c_9' : v2_7.toInt < dc.toInt := jb_ge_n (rfl) (rfl) c_9
          refine lv_aload_n hx hb dX14_nextDocument_12 rfl (lv_at hl 0 rfl) ?_
          refine j7_read hx hb hown hK (C := RX14) (T := TX14) (N := 74) rfl hly_16_41 hlk_74 (hh_7.at 3 rfl) dX14_nextDocument_13 ?_
          refine lv_iload_n hx hb dX14_nextDocument_16 rfl (lv_at hl 2 rfl) ?_
          refine j7_qaldI hx hb hK2 hh_7 hB201 0 rfl (by decide) hgfd_1 (x := v2_7.toInt) (rfl) (by omega) (hh_7.iv 1 rfl) dX14_nextDocument_17 (fun o_16 ho_16 heo_16 => ?_)
          obtain ⟨el_17, rfl, hg_el_17⟩ := ho_16
          simp only [va_rf]
          refine lv_astore_n (lv' := [(3, .ref el_17), (0, .ref r0), (1, .null), (2, .int v2_7)]) hx hb dX14_nextDocument_18 rfl hl (by decide) rfl (fun ls hl => ?_)
          obtain ⟨n1, n2, n3, n4, n5, n6, n7, n8⟩ := hp0.nx (v := v2_7.toInt) (by omega) (by omega) heo_16
          obtain ⟨ysb_18, yse_18, ysf_18, hgsb_18, hgse_18, hgsf_18, hgP_18, hgM_18⟩ := jXD.at (ca := ca) (hh_7.iv 2 rfl) hg_el_17 (fun q => by cases q)
          have hh_19 := ((hh_7.sub (L1 := [(r0, 16, 61, .ref ycs_4), (r0, 16, 62, .ref ycl_4), (r0, 16, 60, .ref yco_4), (r0, 16, 41, .ref yfd_1), (r0, 16, 42, .int dc)]) [0, 1, 2, 3, 4] rfl (M1 := [(ycs_4, 207, 2, ca 1, cs), (ycl_4, 115, 2, ca 1, cl)]) [0, 1] rfl (I1 := [([(208, 0)], jQc dC dI (ca 4) yco_4 2 co), ([(201, 0)], jQc dC dI (ca 4) yfd_1 3 fd), (jFxd, jXD dC dI ca G0 none fq), (jFHw, jHw dC dI ca G0 r0 WW)]) [0, 1, 2, 3] rfl).more (hgP_18.sub (L1 := [(el_17, 14, 6, .ref ysb_18), (el_17, 14, 7, .ref yse_18), (el_17, 14, 8, .ref ysf_18), (el_17, 14, 5, .int (fq.sn el_17)), (el_17, 14, 9, .int (fq.ck el_17))]) [0, 1, 2, 3, 4] rfl)).moreM hgM_18
          clear hh_7
          refine lv_aload_n hx hb dX14_nextDocument_19 rfl (lv_at hl 0 rfl) ?_
          refine j7_readN hx hb hown hK (C := RX12) (T := TX12) (N := 11) rfl hly_14_9 hlk_531 (hh_19.at 4 rfl) dX14_nextDocument_20 ?_
          refine lv_aload_n hx hb dX14_nextDocument_23 rfl (lv_at hl 0 rfl) ?_
          refine j7_readN hx hb hown hK (C := RX12) (T := TX12) (N := 11) rfl hly_14_5 hlk_587 (hh_19.at 3 rfl) dX14_nextDocument_24 ?_
          refine lv_icmp_eq (tgt := 69) hx hb dX14_nextDocument_27 (by decide) (fun c_20 => ?_) (fun c_20 => ?_)
          · skip
            have c_20' : (fq.ck el_17).toInt = (fq.sn el_17).toInt := jb_eq (rfl) (rfl) c_20
            obtain ⟨z_21, ez_21⟩ : ∃ y : Int32, y = v2_7 + 1 := ⟨_, rfl⟩
            refine lv_iinc (v := z_21) (lv' := [(2, .int z_21), (3, .ref el_17), (0, .ref r0), (1, .null)]) hx hb dX14_nextDocument_69 hl (k := 3) rfl (by rw [ez_21]; rfl) (by decide) rfl (fun ls hl => ?_)
            have hz_21 : z_21.toInt = v2_7.toInt + 1 := by rw [ez_21]; exact jb_iadd2 (rfl) (by decide) (by omega)
            refine lv_goto (tgt := 4) hx hb dX14_nextDocument_72 (by decide) ?_
            exact L4 none z_21 _ _ (hh_19.sub (L1 := [(r0, 16, 61, .ref ycs_4), (r0, 16, 62, .ref ycl_4), (r0, 16, 60, .ref yco_4), (r0, 16, 41, .ref yfd_1), (r0, 16, 42, .int dc)]) [5, 6, 7, 8, 9] rfl (M1 := [(ycs_4, 207, 2, ca 1, cs), (ycl_4, 115, 2, ca 1, cl)]) [3, 4] rfl (I1 := [([(208, 0)], jQc dC dI (ca 4) yco_4 2 co), ([(201, 0)], jQc dC dI (ca 4) yfd_1 3 fd), (jFxd, jXD dC dI ca G0 none fq), (jFHw, jHw dC dI ca G0 r0 WW)]) [0, 1, 2, 3] rfl) (Or.inl rfl) (by refine ⟨by omega, by omega, ?_⟩; rw [show (dc.toInt - (z_21).toInt).toNat = (dc.toInt - v2_7.toInt).toNat - 1 by omega]; exact (jwN_n (by omega) (Or.inl (by omega)) (by omega)).trans hi_7_2) (by omega) _ (lv_sub hl [2, 3, 0] rfl)
          · skip
            have c_20' : (fq.ck el_17).toInt ≠ (fq.sn el_17).toInt := jb_eq_n (rfl) (rfl) c_20
            refine lv_aload_n hx hb dX14_nextDocument_30 rfl (lv_at hl 0 rfl) ?_
            refine lv_aload_n hx hb dX14_nextDocument_31 rfl (lv_at hl 1 rfl) ?_
            refine j7_read hx hb hown hK (C := RX14) (T := TX14) (N := 74) rfl hly_16_60 hlk_129 (hh_19.at 7 rfl) dX14_nextDocument_32 ?_
            refine lv_iconst (v := 0) hx hb dX14_nextDocument_35 (by decide) ?_
            refine j7_qaldI hx hb hK2 hh_19 hB208 0 rfl (by decide) hgco_4 (x := 0) ((by decide)) (by omega) (hh_19.iv 0 rfl) dX14_nextDocument_36 (fun o_22 ho_22 heo_22 => ?_)
            rcases ho_22 with rfl | ⟨el_23, rfl, hg_el_23⟩
            · simp only [va_rf]
              refine lv_acmp_eq (rx := (some el_17)) (ry := none) (tgt := 69) hx hb dX14_nextDocument_37 (by decide) (fun c_24 => ?_) (fun c_24 => ?_)
              · skip
                cases c_24
              · skip
                refine lv_aload_n hx hb dX14_nextDocument_40 rfl (lv_at hl 0 rfl) ?_
                refine lv_aload_n hx hb dX14_nextDocument_41 rfl (lv_at hl 1 rfl) ?_
                refine j7_read hx hb hown hK (C := RX14) (T := TX14) (N := 74) rfl hly_16_60 hlk_129 (hh_19.at 7 rfl) dX14_nextDocument_42 ?_
                refine lv_iconst (v := 1) hx hb dX14_nextDocument_45 (by decide) ?_
                refine j7_qaldI hx hb hK2 hh_19 hB208 0 rfl (by decide) hgco_4 (x := 1) ((by decide)) (by omega) (hh_19.iv 0 rfl) dX14_nextDocument_46 (fun o_25 ho_25 heo_25 => ?_)
                rcases ho_25 with rfl | ⟨el_26, rfl, hg_el_26⟩
                · simp only [va_rf]
                  refine lv_acmp_ne (rx := (some el_17)) (ry := none) (tgt := 53) hx hb dX14_nextDocument_47 (by decide) (fun c_27 => ?_) (fun c_27 => ?_)
                  · skip
                    refine lv_aload_n hx hb dX14_nextDocument_53 rfl (lv_at hl 1 rfl) ?_
                    refine lv_aload_n hx hb dX14_nextDocument_54 rfl (lv_at hl 0 rfl) ?_
                    refine va_calli (A0 := jA base) (H0 := s.heap) (va_runV (As := [.ref el_17]) (rest := []) ⟨hx, hb, hml, hown, hts⟩ (uX14_isWaitedForT l dC dI ca base B hB hAp hB14 hB16 hB202 G0 H_7 r0 el_17 WW) (cwV 1 hts (jgV (jWr_90 _ (List.mem_of_getElem? (i := 0) rfl)) (jWr_90 _ (List.mem_of_getElem? (i := 1) rfl)) (jWr_90 _ (List.mem_of_getElem? (i := 2) rfl)) (jWr_1 _ (List.mem_of_getElem? (i := 5) rfl)) (jWr_90 _ (List.mem_of_getElem? (i := 3) rfl))) rfl rfl rfl (by decide +kernel) ⟨by rw [← hR]; exact Nat.le_of_ble_eq_true rfl, by rw [← hR]; exact Nat.le_of_ble_eq_true rfl⟩) ⟨fun a U g mk q => by obtain ⟨q0, q1, q2, qK, q10, q11, q12, q13, q14, q15⟩ := q; exact ⟨q0, q1, q2, jG.calling g mk a qK, (va_K.moved (Vm.Alike.refl U.vm) q10), q11, q12, q13, q14, q15⟩, hh_19.recv (C := RX14) (T := TX14) (N := 74) hB16 rfl (by decide) hg_r0 hK, fun U hU hW => ⟨rfl, hU, hh_19.2.1, hG.step hW hU hh_19.1, va_K.moved hW.alike hK2, hg_el_17, hg_r0, jP.nil, (hh_19.2.2.2.2.2.2.2.2.sub (L1 := [(jFHw, jHw dC dI ca G0 r0 WW)]) [3] rfl), trivial⟩⟩ rfl rfl hl.1 rfl (lv_room (Nat.le_of_ble_eq_true rfl)) dX14_nextDocument_55 ⟨Nat.zero_le _, Nat.zero_le _⟩) hh_19.1 (fun q _ h => h) (fun q h => h) (fun r_29 u_28 t_28 H_28 locs_28 ht_28 hvm_28 hr_29 hb_28 hz_28 hk_28 hS_28 => ?_)
                    rw [ht_28] at hb_28
                    obtain ⟨hb_28, hbE_28⟩ := hb_28
                    obtain ⟨hb_281, hb_282, hb_283, hb_284, hb_285⟩ := hb_28
                    have hh_28 : jSt (dC, dI) B base G0 G0 EX14_nextDocumentT s.heap 0 0 [(el_17, 14, 6, .ref ysb_18), (el_17, 14, 7, .ref yse_18), (el_17, 14, 8, .ref ysf_18), (el_17, 14, 5, .int (fq.sn el_17)), (el_17, 14, 9, .int (fq.ck el_17)), (r0, 16, 61, .ref ycs_4), (r0, 16, 62, .ref ycl_4), (r0, 16, 60, .ref yco_4), (r0, 16, 41, .ref yfd_1), (r0, 16, 42, .int dc)] [(ysb_18, 190, 40, ca 1, (fq.sb el_17)), (yse_18, 191, 40, ca 1, (fq.se el_17)), (ysf_18, 192, 40, ca 1, (fq.sf el_17)), (ycs_4, 207, 2, ca 1, cs), (ycl_4, 115, 2, ca 1, cl)] [(jFHw, jHw dC dI ca G0 r0 WW), ([(208, 0)], jQc dC dI (ca 4) yco_4 2 co), ([(201, 0)], jQc dC dI (ca 4) yfd_1 3 fd), (jFxd, jXD dC dI ca G0 none fq)] H_28 locs_28 := (((hh_19.call hb_281 hb_282 hb_283 hb_284 hS_28 rfl (L1 := [(el_17, 14, 6, .ref ysb_18), (el_17, 14, 7, .ref yse_18), (el_17, 14, 8, .ref ysf_18), (el_17, 14, 5, .int (fq.sn el_17)), (el_17, 14, 9, .int (fq.ck el_17)), (r0, 16, 61, .ref ycs_4), (r0, 16, 62, .ref ycl_4), (r0, 16, 60, .ref yco_4), (r0, 16, 41, .ref yfd_1), (r0, 16, 42, .int dc)]) [0, 1, 2, 3, 4, 5, 6, 7, 8, 9] rfl rfl (M1 := [(ysb_18, 190, 40, ca 1, (fq.sb el_17)), (yse_18, 191, 40, ca 1, (fq.se el_17)), (ysf_18, 192, 40, ca 1, (fq.sf el_17)), (ycs_4, 207, 2, ca 1, cs), (ycl_4, 115, 2, ca 1, cl)]) [0, 1, 2, 3, 4] rfl rfl (I1 := [([(208, 0)], jQc dC dI (ca 4) yco_4 2 co), ([(201, 0)], jQc dC dI (ca 4) yfd_1 3 fd), (jFxd, jXD dC dI ca G0 none fq)]) [0, 1, 2] rfl rfl).more hb_285)).addIs hbE_28
                    clear hh_19 ht_28 hvm_28 hz_28 hk_28 hS_28 hb_281 hb_282 hb_283 hb_284 hb_285
                    clear  hbE_28
                    obtain ⟨hr_29b, hr_29p⟩ := hr_29
                    have hs55 := hr_29p
                    have hr_29' := jb_01 hr_29b
                    refine lv_if_eq (tgt := 63) hx hb dX14_nextDocument_58 (by decide) (fun c_30 => ?_) (fun c_30 => ?_)
                    · skip
                      have c_30' : r_29.toInt = 0 := jb_eq (rfl) ((by decide)) c_30
                      first | (have hr_29pq := hr_29p.resolve_left (by omega); clear hr_29p) | (have hr_29pq := hr_29p.resolve_right (by omega); clear hr_29p) | try clear hr_29p
                      refine j7_nld_n hx hb dX14_nextDocument_63 rfl (lv_at hl 2 rfl) ?_
                      refine lv_ifnonnullN hx hb dX14_nextDocument_64 ?_
                      refine lv_aload_n hx hb dX14_nextDocument_67 rfl (lv_at hl 0 rfl) ?_
                      refine lv_astore_n (lv' := [(1, .ref el_17), (3, .ref el_17), (0, .ref r0), (2, .int v2_7)]) hx hb dX14_nextDocument_68 rfl hl (by decide) rfl (fun ls hl => ?_)
                      obtain ⟨z_31, ez_31⟩ : ∃ y : Int32, y = v2_7 + 1 := ⟨_, rfl⟩
                      refine lv_iinc (v := z_31) (lv' := [(2, .int z_31), (1, .ref el_17), (3, .ref el_17), (0, .ref r0)]) hx hb dX14_nextDocument_69 hl (k := 3) rfl (by rw [ez_31]; rfl) (by decide) rfl (fun ls hl => ?_)
                      have hz_31 : z_31.toInt = v2_7.toInt + 1 := by rw [ez_31]; exact jb_iadd2 (rfl) (by decide) (by omega)
                      refine lv_goto (tgt := 4) hx hb dX14_nextDocument_72 (by decide) ?_
                      exact L4 (some el_17) z_31 _ _ (hh_28.sub (L1 := [(r0, 16, 61, .ref ycs_4), (r0, 16, 62, .ref ycl_4), (r0, 16, 60, .ref yco_4), (r0, 16, 41, .ref yfd_1), (r0, 16, 42, .int dc)]) [5, 6, 7, 8, 9] rfl (M1 := [(ycs_4, 207, 2, ca 1, cs), (ycl_4, 115, 2, ca 1, cl)]) [3, 4] rfl (I1 := [([(208, 0)], jQc dC dI (ca 4) yco_4 2 co), ([(201, 0)], jQc dC dI (ca 4) yfd_1 3 fd), (jFxd, jXD dC dI ca G0 none fq), (jFHw, jHw dC dI ca G0 r0 WW)]) [1, 2, 3, 0] rfl) (Or.inr ⟨_, rfl, hg_el_17, ⟨v2_7.toInt.toNat, by omega, by omega, heo_16.symm⟩⟩) (by refine ⟨by omega, by omega, ?_⟩; rw [show (dc.toInt - (z_31).toInt).toNat = (dc.toInt - v2_7.toInt).toNat - 1 by omega]; exact (jwN_f (by omega) (by omega) (fun e => c_24 ((n4.mp e).symm.trans heo_22.symm)) (fun e => c_27 ((n5.mp e).symm.trans heo_25.symm)) (fun e => (hs55.resolve_left (fun q => by omega)).2 (n6.mp e)) (by omega) (by show jrNu fd el_17 = _; rw [n7]; exact (if_pos (by show (-1 : Int) < 0; omega)).symm)).trans hi_7_2) (by omega) _ (lv_sub hl [3, 1, 0] rfl)
                    · skip
                      have c_30' : r_29.toInt ≠ 0 := jb_eq_n (rfl) ((by decide)) c_30
                      first | (have hr_29pq := hr_29p.resolve_left (by omega); clear hr_29p) | (have hr_29pq := hr_29p.resolve_right (by omega); clear hr_29p) | try clear hr_29p
                      refine lv_aload_n hx hb dX14_nextDocument_61 rfl (lv_at hl 0 rfl) ?_
                      have hHf_32 : jHd dC dI ca G0 r0 fd dc H_28 := ⟨yfd_1, ⟨_, hg_r0⟩, hgfd_1, hh_28.2.2.1.sub (L1 := [(r0, 16, 41, .ref yfd_1), (r0, 16, 42, .int dc)]) [8, 9] rfl, hh_28.2.2.2.2.2.2.2.1.sub (L1 := []) [] rfl, hh_28.iv 2 rfl, trivial⟩
                      have hh_33 := hh_28.sub (L1 := [(el_17, 14, 6, .ref ysb_18), (el_17, 14, 7, .ref yse_18), (el_17, 14, 8, .ref ysf_18), (el_17, 14, 5, .int (fq.sn el_17)), (el_17, 14, 9, .int (fq.ck el_17)), (r0, 16, 61, .ref ycs_4), (r0, 16, 62, .ref ycl_4), (r0, 16, 60, .ref yco_4), (r0, 16, 41, .ref yfd_1), (r0, 16, 42, .int dc)]) [0, 1, 2, 3, 4, 5, 6, 7, 8, 9] rfl (M1 := [(ysb_18, 190, 40, ca 1, (fq.sb el_17)), (yse_18, 191, 40, ca 1, (fq.se el_17)), (ysf_18, 192, 40, ca 1, (fq.sf el_17)), (ycs_4, 207, 2, ca 1, cs), (ycl_4, 115, 2, ca 1, cl)]) [0, 1, 2, 3, 4] rfl (I1 := [(jFHw, jHw dC dI ca G0 r0 WW), ([(208, 0)], jQc dC dI (ca 4) yco_4 2 co), (jFxd, jXD dC dI ca G0 none fq)]) [0, 1, 3] rfl
                      clear hh_28
                      have hh_34 := hh_33.addI (jHd.ie hHf_32)
                      clear hh_33
                      have hHf_35 : jHc dC dI ca G0 r0 co cs cl H_28 := ⟨ycs_4, ycl_4, yco_4, ⟨_, hg_r0⟩, ⟨hgcs_4, hgcl_4, hgco_4⟩, hh_34.2.2.1.sub (L1 := [(r0, 16, 61, .ref ycs_4), (r0, 16, 62, .ref ycl_4), (r0, 16, 60, .ref yco_4)]) [5, 6, 7] rfl, hh_34.2.2.2.2.2.2.2.1.sub (L1 := [(ycs_4, 207, 2, ca 1, cs), (ycl_4, 115, 2, ca 1, cl)]) [3, 4] rfl, hh_34.iv 2 rfl, trivial⟩
                      have hh_36 := hh_34.sub (L1 := [(el_17, 14, 6, .ref ysb_18), (el_17, 14, 7, .ref yse_18), (el_17, 14, 8, .ref ysf_18), (el_17, 14, 5, .int (fq.sn el_17)), (el_17, 14, 9, .int (fq.ck el_17)), (r0, 16, 61, .ref ycs_4), (r0, 16, 62, .ref ycl_4), (r0, 16, 60, .ref yco_4), (r0, 16, 41, .ref yfd_1), (r0, 16, 42, .int dc)]) [0, 1, 2, 3, 4, 5, 6, 7, 8, 9] rfl (M1 := [(ysb_18, 190, 40, ca 1, (fq.sb el_17)), (yse_18, 191, 40, ca 1, (fq.se el_17)), (ysf_18, 192, 40, ca 1, (fq.sf el_17)), (ycs_4, 207, 2, ca 1, cs), (ycl_4, 115, 2, ca 1, cl)]) [0, 1, 2, 3, 4] rfl (I1 := [(jFHd, jHd dC dI ca G0 r0 fd dc), (jFHw, jHw dC dI ca G0 r0 WW), (jFxd, jXD dC dI ca G0 none fq)]) [0, 1, 3] rfl
                      clear hh_34
                      have hh_37 := hh_36.addI (jHc.ie hHf_35)
                      clear hh_36
                      rw [hQ]
                      exact W.aret (v := .ref el_17) hx hb hr (Or.inl ⟨_, rfl⟩) (Or.inr ⟨_, rfl⟩) (fun t ht hW => ⟨⟨.ref el_17, (), rfl, ⟨Or.inr ⟨_, rfl, hg_el_17⟩, by rw [← hi_7_2, jwN_y (by omega) (by omega) (fun e => c_24 ((n4.mp e).symm.trans heo_22.symm)) (fun e => c_27 ((n5.mp e).symm.trans heo_25.symm)) (n6.mpr (hs55.resolve_right (fun q => by omega)).2)]; exact jdRr.of (by omega) heo_16⟩, ⟨hh_37.rt (M1 := []) [] rfl ht, by rw [ht]; exact hh_37.2.2.2.2.2.2.2.2.sub (L1 := [(jFxd, jXD dC dI ca G0 none fq), (jFHd, jHd dC dI ca G0 r0 fd dc), (jFHc, jHc dC dI ca G0 r0 co cs cl), (jFHw, jHw dC dI ca G0 r0 WW)]) [3, 1, 0, 2] rfl⟩⟩, by rw [ht]; try exact hh_37.1.1, fun q h9 hq => by rw [ht]; try exact hh_37.1.2.1 q h9 hq⟩) hh_37.1.2.2 dX14_nextDocument_62
                  · skip
                    cases c_27
                · simp only [va_rf]
                  refine lv_acmp_ne (rx := (some el_17)) (ry := (some el_26)) (tgt := 53) hx hb dX14_nextDocument_47 (by decide) (fun c_38 => ?_) (fun c_38 => ?_)
                  · skip
                    refine lv_aload_n hx hb dX14_nextDocument_53 rfl (lv_at hl 1 rfl) ?_
                    refine lv_aload_n hx hb dX14_nextDocument_54 rfl (lv_at hl 0 rfl) ?_
                    refine va_calli (A0 := jA base) (H0 := s.heap) (va_runV (As := [.ref el_17]) (rest := []) ⟨hx, hb, hml, hown, hts⟩ (uX14_isWaitedForT l dC dI ca base B hB hAp hB14 hB16 hB202 G0 H_7 r0 el_17 WW) (cwV 1 hts (jgV (jWr_90 _ (List.mem_of_getElem? (i := 0) rfl)) (jWr_90 _ (List.mem_of_getElem? (i := 1) rfl)) (jWr_90 _ (List.mem_of_getElem? (i := 2) rfl)) (jWr_1 _ (List.mem_of_getElem? (i := 5) rfl)) (jWr_90 _ (List.mem_of_getElem? (i := 3) rfl))) rfl rfl rfl (by decide +kernel) ⟨by rw [← hR]; exact Nat.le_of_ble_eq_true rfl, by rw [← hR]; exact Nat.le_of_ble_eq_true rfl⟩) ⟨fun a U g mk q => by obtain ⟨q0, q1, q2, qK, q10, q11, q12, q13, q14, q15⟩ := q; exact ⟨q0, q1, q2, jG.calling g mk a qK, (va_K.moved (Vm.Alike.refl U.vm) q10), q11, q12, q13, q14, q15⟩, hh_19.recv (C := RX14) (T := TX14) (N := 74) hB16 rfl (by decide) hg_r0 hK, fun U hU hW => ⟨rfl, hU, hh_19.2.1, hG.step hW hU hh_19.1, va_K.moved hW.alike hK2, hg_el_17, hg_r0, jP.nil, (hh_19.2.2.2.2.2.2.2.2.sub (L1 := [(jFHw, jHw dC dI ca G0 r0 WW)]) [3] rfl), trivial⟩⟩ rfl rfl hl.1 rfl (lv_room (Nat.le_of_ble_eq_true rfl)) dX14_nextDocument_55 ⟨Nat.zero_le _, Nat.zero_le _⟩) hh_19.1 (fun q _ h => h) (fun q h => h) (fun r_40 u_39 t_39 H_39 locs_39 ht_39 hvm_39 hr_40 hb_39 hz_39 hk_39 hS_39 => ?_)
                    rw [ht_39] at hb_39
                    obtain ⟨hb_39, hbE_39⟩ := hb_39
                    obtain ⟨hb_391, hb_392, hb_393, hb_394, hb_395⟩ := hb_39
                    have hh_39 : jSt (dC, dI) B base G0 G0 EX14_nextDocumentT s.heap 0 0 [(el_17, 14, 6, .ref ysb_18), (el_17, 14, 7, .ref yse_18), (el_17, 14, 8, .ref ysf_18), (el_17, 14, 5, .int (fq.sn el_17)), (el_17, 14, 9, .int (fq.ck el_17)), (r0, 16, 61, .ref ycs_4), (r0, 16, 62, .ref ycl_4), (r0, 16, 60, .ref yco_4), (r0, 16, 41, .ref yfd_1), (r0, 16, 42, .int dc)] [(ysb_18, 190, 40, ca 1, (fq.sb el_17)), (yse_18, 191, 40, ca 1, (fq.se el_17)), (ysf_18, 192, 40, ca 1, (fq.sf el_17)), (ycs_4, 207, 2, ca 1, cs), (ycl_4, 115, 2, ca 1, cl)] [(jFHw, jHw dC dI ca G0 r0 WW), ([(208, 0)], jQc dC dI (ca 4) yco_4 2 co), ([(201, 0)], jQc dC dI (ca 4) yfd_1 3 fd), (jFxd, jXD dC dI ca G0 none fq)] H_39 locs_39 := (((hh_19.call hb_391 hb_392 hb_393 hb_394 hS_39 rfl (L1 := [(el_17, 14, 6, .ref ysb_18), (el_17, 14, 7, .ref yse_18), (el_17, 14, 8, .ref ysf_18), (el_17, 14, 5, .int (fq.sn el_17)), (el_17, 14, 9, .int (fq.ck el_17)), (r0, 16, 61, .ref ycs_4), (r0, 16, 62, .ref ycl_4), (r0, 16, 60, .ref yco_4), (r0, 16, 41, .ref yfd_1), (r0, 16, 42, .int dc)]) [0, 1, 2, 3, 4, 5, 6, 7, 8, 9] rfl rfl (M1 := [(ysb_18, 190, 40, ca 1, (fq.sb el_17)), (yse_18, 191, 40, ca 1, (fq.se el_17)), (ysf_18, 192, 40, ca 1, (fq.sf el_17)), (ycs_4, 207, 2, ca 1, cs), (ycl_4, 115, 2, ca 1, cl)]) [0, 1, 2, 3, 4] rfl rfl (I1 := [([(208, 0)], jQc dC dI (ca 4) yco_4 2 co), ([(201, 0)], jQc dC dI (ca 4) yfd_1 3 fd), (jFxd, jXD dC dI ca G0 none fq)]) [0, 1, 2] rfl rfl).more hb_395)).addIs hbE_39
                    clear hh_19 ht_39 hvm_39 hz_39 hk_39 hS_39 hb_391 hb_392 hb_393 hb_394 hb_395
                    clear  hbE_39
                    obtain ⟨hr_40b, hr_40p⟩ := hr_40
                    have hs55 := hr_40p
                    have hr_40' := jb_01 hr_40b
                    refine lv_if_eq (tgt := 63) hx hb dX14_nextDocument_58 (by decide) (fun c_41 => ?_) (fun c_41 => ?_)
                    · skip
                      have c_41' : r_40.toInt = 0 := jb_eq (rfl) ((by decide)) c_41
                      first | (have hr_40pq := hr_40p.resolve_left (by omega); clear hr_40p) | (have hr_40pq := hr_40p.resolve_right (by omega); clear hr_40p) | try clear hr_40p
                      refine j7_nld_n hx hb dX14_nextDocument_63 rfl (lv_at hl 2 rfl) ?_
                      refine lv_ifnonnullN hx hb dX14_nextDocument_64 ?_
                      refine lv_aload_n hx hb dX14_nextDocument_67 rfl (lv_at hl 0 rfl) ?_
                      refine lv_astore_n (lv' := [(1, .ref el_17), (3, .ref el_17), (0, .ref r0), (2, .int v2_7)]) hx hb dX14_nextDocument_68 rfl hl (by decide) rfl (fun ls hl => ?_)
                      obtain ⟨z_42, ez_42⟩ : ∃ y : Int32, y = v2_7 + 1 := ⟨_, rfl⟩
                      refine lv_iinc (v := z_42) (lv' := [(2, .int z_42), (1, .ref el_17), (3, .ref el_17), (0, .ref r0)]) hx hb dX14_nextDocument_69 hl (k := 3) rfl (by rw [ez_42]; rfl) (by decide) rfl (fun ls hl => ?_)
                      have hz_42 : z_42.toInt = v2_7.toInt + 1 := by rw [ez_42]; exact jb_iadd2 (rfl) (by decide) (by omega)
                      refine lv_goto (tgt := 4) hx hb dX14_nextDocument_72 (by decide) ?_
                      exact L4 (some el_17) z_42 _ _ (hh_39.sub (L1 := [(r0, 16, 61, .ref ycs_4), (r0, 16, 62, .ref ycl_4), (r0, 16, 60, .ref yco_4), (r0, 16, 41, .ref yfd_1), (r0, 16, 42, .int dc)]) [5, 6, 7, 8, 9] rfl (M1 := [(ycs_4, 207, 2, ca 1, cs), (ycl_4, 115, 2, ca 1, cl)]) [3, 4] rfl (I1 := [([(208, 0)], jQc dC dI (ca 4) yco_4 2 co), ([(201, 0)], jQc dC dI (ca 4) yfd_1 3 fd), (jFxd, jXD dC dI ca G0 none fq), (jFHw, jHw dC dI ca G0 r0 WW)]) [1, 2, 3, 0] rfl) (Or.inr ⟨_, rfl, hg_el_17, ⟨v2_7.toInt.toNat, by omega, by omega, heo_16.symm⟩⟩) (by refine ⟨by omega, by omega, ?_⟩; rw [show (dc.toInt - (z_42).toInt).toNat = (dc.toInt - v2_7.toInt).toNat - 1 by omega]; exact (jwN_f (by omega) (by omega) (fun e => c_24 ((n4.mp e).symm.trans heo_22.symm)) (fun e => c_38 ((n5.mp e).symm.trans heo_25.symm)) (fun e => (hs55.resolve_left (fun q => by omega)).2 (n6.mp e)) (by omega) (by show jrNu fd el_17 = _; rw [n7]; exact (if_pos (by show (-1 : Int) < 0; omega)).symm)).trans hi_7_2) (by omega) _ (lv_sub hl [3, 1, 0] rfl)
                    · skip
                      have c_41' : r_40.toInt ≠ 0 := jb_eq_n (rfl) ((by decide)) c_41
                      first | (have hr_40pq := hr_40p.resolve_left (by omega); clear hr_40p) | (have hr_40pq := hr_40p.resolve_right (by omega); clear hr_40p) | try clear hr_40p
                      refine lv_aload_n hx hb dX14_nextDocument_61 rfl (lv_at hl 0 rfl) ?_
                      have hHf_43 : jHd dC dI ca G0 r0 fd dc H_39 := ⟨yfd_1, ⟨_, hg_r0⟩, hgfd_1, hh_39.2.2.1.sub (L1 := [(r0, 16, 41, .ref yfd_1), (r0, 16, 42, .int dc)]) [8, 9] rfl, hh_39.2.2.2.2.2.2.2.1.sub (L1 := []) [] rfl, hh_39.iv 2 rfl, trivial⟩
                      have hh_44 := hh_39.sub (L1 := [(el_17, 14, 6, .ref ysb_18), (el_17, 14, 7, .ref yse_18), (el_17, 14, 8, .ref ysf_18), (el_17, 14, 5, .int (fq.sn el_17)), (el_17, 14, 9, .int (fq.ck el_17)), (r0, 16, 61, .ref ycs_4), (r0, 16, 62, .ref ycl_4), (r0, 16, 60, .ref yco_4), (r0, 16, 41, .ref yfd_1), (r0, 16, 42, .int dc)]) [0, 1, 2, 3, 4, 5, 6, 7, 8, 9] rfl (M1 := [(ysb_18, 190, 40, ca 1, (fq.sb el_17)), (yse_18, 191, 40, ca 1, (fq.se el_17)), (ysf_18, 192, 40, ca 1, (fq.sf el_17)), (ycs_4, 207, 2, ca 1, cs), (ycl_4, 115, 2, ca 1, cl)]) [0, 1, 2, 3, 4] rfl (I1 := [(jFHw, jHw dC dI ca G0 r0 WW), ([(208, 0)], jQc dC dI (ca 4) yco_4 2 co), (jFxd, jXD dC dI ca G0 none fq)]) [0, 1, 3] rfl
                      clear hh_39
                      have hh_45 := hh_44.addI (jHd.ie hHf_43)
                      clear hh_44
                      have hHf_46 : jHc dC dI ca G0 r0 co cs cl H_39 := ⟨ycs_4, ycl_4, yco_4, ⟨_, hg_r0⟩, ⟨hgcs_4, hgcl_4, hgco_4⟩, hh_45.2.2.1.sub (L1 := [(r0, 16, 61, .ref ycs_4), (r0, 16, 62, .ref ycl_4), (r0, 16, 60, .ref yco_4)]) [5, 6, 7] rfl, hh_45.2.2.2.2.2.2.2.1.sub (L1 := [(ycs_4, 207, 2, ca 1, cs), (ycl_4, 115, 2, ca 1, cl)]) [3, 4] rfl, hh_45.iv 2 rfl, trivial⟩
                      have hh_47 := hh_45.sub (L1 := [(el_17, 14, 6, .ref ysb_18), (el_17, 14, 7, .ref yse_18), (el_17, 14, 8, .ref ysf_18), (el_17, 14, 5, .int (fq.sn el_17)), (el_17, 14, 9, .int (fq.ck el_17)), (r0, 16, 61, .ref ycs_4), (r0, 16, 62, .ref ycl_4), (r0, 16, 60, .ref yco_4), (r0, 16, 41, .ref yfd_1), (r0, 16, 42, .int dc)]) [0, 1, 2, 3, 4, 5, 6, 7, 8, 9] rfl (M1 := [(ysb_18, 190, 40, ca 1, (fq.sb el_17)), (yse_18, 191, 40, ca 1, (fq.se el_17)), (ysf_18, 192, 40, ca 1, (fq.sf el_17)), (ycs_4, 207, 2, ca 1, cs), (ycl_4, 115, 2, ca 1, cl)]) [0, 1, 2, 3, 4] rfl (I1 := [(jFHd, jHd dC dI ca G0 r0 fd dc), (jFHw, jHw dC dI ca G0 r0 WW), (jFxd, jXD dC dI ca G0 none fq)]) [0, 1, 3] rfl
                      clear hh_45
                      have hh_48 := hh_47.addI (jHc.ie hHf_46)
                      clear hh_47
                      rw [hQ]
                      exact W.aret (v := .ref el_17) hx hb hr (Or.inl ⟨_, rfl⟩) (Or.inr ⟨_, rfl⟩) (fun t ht hW => ⟨⟨.ref el_17, (), rfl, ⟨Or.inr ⟨_, rfl, hg_el_17⟩, by rw [← hi_7_2, jwN_y (by omega) (by omega) (fun e => c_24 ((n4.mp e).symm.trans heo_22.symm)) (fun e => c_38 ((n5.mp e).symm.trans heo_25.symm)) (n6.mpr (hs55.resolve_right (fun q => by omega)).2)]; exact jdRr.of (by omega) heo_16⟩, ⟨hh_48.rt (M1 := []) [] rfl ht, by rw [ht]; exact hh_48.2.2.2.2.2.2.2.2.sub (L1 := [(jFxd, jXD dC dI ca G0 none fq), (jFHd, jHd dC dI ca G0 r0 fd dc), (jFHc, jHc dC dI ca G0 r0 co cs cl), (jFHw, jHw dC dI ca G0 r0 WW)]) [3, 1, 0, 2] rfl⟩⟩, by rw [ht]; try exact hh_48.1.1, fun q h9 hq => by rw [ht]; try exact hh_48.1.2.1 q h9 hq⟩) hh_48.1.2.2 dX14_nextDocument_62
                  · skip
                    refine lv_goto (tgt := 69) hx hb dX14_nextDocument_50 (by decide) ?_
                    obtain ⟨z_49, ez_49⟩ : ∃ y : Int32, y = v2_7 + 1 := ⟨_, rfl⟩
                    refine lv_iinc (v := z_49) (lv' := [(2, .int z_49), (3, .ref el_17), (0, .ref r0), (1, .null)]) hx hb dX14_nextDocument_69 hl (k := 3) rfl (by rw [ez_49]; rfl) (by decide) rfl (fun ls hl => ?_)
                    have hz_49 : z_49.toInt = v2_7.toInt + 1 := by rw [ez_49]; exact jb_iadd2 (rfl) (by decide) (by omega)
                    refine lv_goto (tgt := 4) hx hb dX14_nextDocument_72 (by decide) ?_
                    exact L4 none z_49 _ _ (hh_19.sub (L1 := [(r0, 16, 61, .ref ycs_4), (r0, 16, 62, .ref ycl_4), (r0, 16, 60, .ref yco_4), (r0, 16, 41, .ref yfd_1), (r0, 16, 42, .int dc)]) [5, 6, 7, 8, 9] rfl (M1 := [(ycs_4, 207, 2, ca 1, cs), (ycl_4, 115, 2, ca 1, cl)]) [3, 4] rfl (I1 := [([(208, 0)], jQc dC dI (ca 4) yco_4 2 co), ([(201, 0)], jQc dC dI (ca 4) yfd_1 3 fd), (jFxd, jXD dC dI ca G0 none fq), (jFHw, jHw dC dI ca G0 r0 WW)]) [0, 1, 2, 3] rfl) (Or.inl rfl) (by refine ⟨by omega, by omega, ?_⟩; rw [show (dc.toInt - (z_49).toInt).toNat = (dc.toInt - v2_7.toInt).toNat - 1 by omega]; exact (jwN_n (by omega) (Or.inr (Or.inr (n5.mpr (heo_25.symm.trans c_38.symm)))) (by omega)).trans hi_7_2) (by omega) _ (lv_sub hl [2, 3, 0] rfl)
            · simp only [va_rf]
              refine lv_acmp_eq (rx := (some el_17)) (ry := (some el_23)) (tgt := 69) hx hb dX14_nextDocument_37 (by decide) (fun c_50 => ?_) (fun c_50 => ?_)
              · skip
                obtain ⟨z_51, ez_51⟩ : ∃ y : Int32, y = v2_7 + 1 := ⟨_, rfl⟩
                refine lv_iinc (v := z_51) (lv' := [(2, .int z_51), (3, .ref el_17), (0, .ref r0), (1, .null)]) hx hb dX14_nextDocument_69 hl (k := 3) rfl (by rw [ez_51]; rfl) (by decide) rfl (fun ls hl => ?_)
                have hz_51 : z_51.toInt = v2_7.toInt + 1 := by rw [ez_51]; exact jb_iadd2 (rfl) (by decide) (by omega)
                refine lv_goto (tgt := 4) hx hb dX14_nextDocument_72 (by decide) ?_
                exact L4 none z_51 _ _ (hh_19.sub (L1 := [(r0, 16, 61, .ref ycs_4), (r0, 16, 62, .ref ycl_4), (r0, 16, 60, .ref yco_4), (r0, 16, 41, .ref yfd_1), (r0, 16, 42, .int dc)]) [5, 6, 7, 8, 9] rfl (M1 := [(ycs_4, 207, 2, ca 1, cs), (ycl_4, 115, 2, ca 1, cl)]) [3, 4] rfl (I1 := [([(208, 0)], jQc dC dI (ca 4) yco_4 2 co), ([(201, 0)], jQc dC dI (ca 4) yfd_1 3 fd), (jFxd, jXD dC dI ca G0 none fq), (jFHw, jHw dC dI ca G0 r0 WW)]) [0, 1, 2, 3] rfl) (Or.inl rfl) (by refine ⟨by omega, by omega, ?_⟩; rw [show (dc.toInt - (z_51).toInt).toNat = (dc.toInt - v2_7.toInt).toNat - 1 by omega]; exact (jwN_n (by omega) (Or.inr (Or.inl (n4.mpr (heo_22.symm.trans c_50.symm)))) (by omega)).trans hi_7_2) (by omega) _ (lv_sub hl [2, 3, 0] rfl)
              · skip
                refine lv_aload_n hx hb dX14_nextDocument_40 rfl (lv_at hl 0 rfl) ?_
                refine lv_aload_n hx hb dX14_nextDocument_41 rfl (lv_at hl 1 rfl) ?_
                refine j7_read hx hb hown hK (C := RX14) (T := TX14) (N := 74) rfl hly_16_60 hlk_129 (hh_19.at 7 rfl) dX14_nextDocument_42 ?_
                refine lv_iconst (v := 1) hx hb dX14_nextDocument_45 (by decide) ?_
                refine j7_qaldI hx hb hK2 hh_19 hB208 0 rfl (by decide) hgco_4 (x := 1) ((by decide)) (by omega) (hh_19.iv 0 rfl) dX14_nextDocument_46 (fun o_52 ho_52 heo_52 => ?_)
                rcases ho_52 with rfl | ⟨el_53, rfl, hg_el_53⟩
                · simp only [va_rf]
                  refine lv_acmp_ne (rx := (some el_17)) (ry := none) (tgt := 53) hx hb dX14_nextDocument_47 (by decide) (fun c_54 => ?_) (fun c_54 => ?_)
                  · skip
                    refine lv_aload_n hx hb dX14_nextDocument_53 rfl (lv_at hl 1 rfl) ?_
                    refine lv_aload_n hx hb dX14_nextDocument_54 rfl (lv_at hl 0 rfl) ?_
                    refine va_calli (A0 := jA base) (H0 := s.heap) (va_runV (As := [.ref el_17]) (rest := []) ⟨hx, hb, hml, hown, hts⟩ (uX14_isWaitedForT l dC dI ca base B hB hAp hB14 hB16 hB202 G0 H_7 r0 el_17 WW) (cwV 1 hts (jgV (jWr_90 _ (List.mem_of_getElem? (i := 0) rfl)) (jWr_90 _ (List.mem_of_getElem? (i := 1) rfl)) (jWr_90 _ (List.mem_of_getElem? (i := 2) rfl)) (jWr_1 _ (List.mem_of_getElem? (i := 5) rfl)) (jWr_90 _ (List.mem_of_getElem? (i := 3) rfl))) rfl rfl rfl (by decide +kernel) ⟨by rw [← hR]; exact Nat.le_of_ble_eq_true rfl, by rw [← hR]; exact Nat.le_of_ble_eq_true rfl⟩) ⟨fun a U g mk q => by obtain ⟨q0, q1, q2, qK, q10, q11, q12, q13, q14, q15⟩ := q; exact ⟨q0, q1, q2, jG.calling g mk a qK, (va_K.moved (Vm.Alike.refl U.vm) q10), q11, q12, q13, q14, q15⟩, hh_19.recv (C := RX14) (T := TX14) (N := 74) hB16 rfl (by decide) hg_r0 hK, fun U hU hW => ⟨rfl, hU, hh_19.2.1, hG.step hW hU hh_19.1, va_K.moved hW.alike hK2, hg_el_17, hg_r0, jP.nil, (hh_19.2.2.2.2.2.2.2.2.sub (L1 := [(jFHw, jHw dC dI ca G0 r0 WW)]) [3] rfl), trivial⟩⟩ rfl rfl hl.1 rfl (lv_room (Nat.le_of_ble_eq_true rfl)) dX14_nextDocument_55 ⟨Nat.zero_le _, Nat.zero_le _⟩) hh_19.1 (fun q _ h => h) (fun q h => h) (fun r_56 u_55 t_55 H_55 locs_55 ht_55 hvm_55 hr_56 hb_55 hz_55 hk_55 hS_55 => ?_)
                    rw [ht_55] at hb_55
                    obtain ⟨hb_55, hbE_55⟩ := hb_55
                    obtain ⟨hb_551, hb_552, hb_553, hb_554, hb_555⟩ := hb_55
                    have hh_55 : jSt (dC, dI) B base G0 G0 EX14_nextDocumentT s.heap 0 0 [(el_17, 14, 6, .ref ysb_18), (el_17, 14, 7, .ref yse_18), (el_17, 14, 8, .ref ysf_18), (el_17, 14, 5, .int (fq.sn el_17)), (el_17, 14, 9, .int (fq.ck el_17)), (r0, 16, 61, .ref ycs_4), (r0, 16, 62, .ref ycl_4), (r0, 16, 60, .ref yco_4), (r0, 16, 41, .ref yfd_1), (r0, 16, 42, .int dc)] [(ysb_18, 190, 40, ca 1, (fq.sb el_17)), (yse_18, 191, 40, ca 1, (fq.se el_17)), (ysf_18, 192, 40, ca 1, (fq.sf el_17)), (ycs_4, 207, 2, ca 1, cs), (ycl_4, 115, 2, ca 1, cl)] [(jFHw, jHw dC dI ca G0 r0 WW), ([(208, 0)], jQc dC dI (ca 4) yco_4 2 co), ([(201, 0)], jQc dC dI (ca 4) yfd_1 3 fd), (jFxd, jXD dC dI ca G0 none fq)] H_55 locs_55 := (((hh_19.call hb_551 hb_552 hb_553 hb_554 hS_55 rfl (L1 := [(el_17, 14, 6, .ref ysb_18), (el_17, 14, 7, .ref yse_18), (el_17, 14, 8, .ref ysf_18), (el_17, 14, 5, .int (fq.sn el_17)), (el_17, 14, 9, .int (fq.ck el_17)), (r0, 16, 61, .ref ycs_4), (r0, 16, 62, .ref ycl_4), (r0, 16, 60, .ref yco_4), (r0, 16, 41, .ref yfd_1), (r0, 16, 42, .int dc)]) [0, 1, 2, 3, 4, 5, 6, 7, 8, 9] rfl rfl (M1 := [(ysb_18, 190, 40, ca 1, (fq.sb el_17)), (yse_18, 191, 40, ca 1, (fq.se el_17)), (ysf_18, 192, 40, ca 1, (fq.sf el_17)), (ycs_4, 207, 2, ca 1, cs), (ycl_4, 115, 2, ca 1, cl)]) [0, 1, 2, 3, 4] rfl rfl (I1 := [([(208, 0)], jQc dC dI (ca 4) yco_4 2 co), ([(201, 0)], jQc dC dI (ca 4) yfd_1 3 fd), (jFxd, jXD dC dI ca G0 none fq)]) [0, 1, 2] rfl rfl).more hb_555)).addIs hbE_55
                    clear hh_19 ht_55 hvm_55 hz_55 hk_55 hS_55 hb_551 hb_552 hb_553 hb_554 hb_555
                    clear  hbE_55
                    obtain ⟨hr_56b, hr_56p⟩ := hr_56
                    have hs55 := hr_56p
                    have hr_56' := jb_01 hr_56b
                    refine lv_if_eq (tgt := 63) hx hb dX14_nextDocument_58 (by decide) (fun c_57 => ?_) (fun c_57 => ?_)
                    · skip
                      have c_57' : r_56.toInt = 0 := jb_eq (rfl) ((by decide)) c_57
                      first | (have hr_56pq := hr_56p.resolve_left (by omega); clear hr_56p) | (have hr_56pq := hr_56p.resolve_right (by omega); clear hr_56p) | try clear hr_56p
                      refine j7_nld_n hx hb dX14_nextDocument_63 rfl (lv_at hl 2 rfl) ?_
                      refine lv_ifnonnullN hx hb dX14_nextDocument_64 ?_
                      refine lv_aload_n hx hb dX14_nextDocument_67 rfl (lv_at hl 0 rfl) ?_
                      refine lv_astore_n (lv' := [(1, .ref el_17), (3, .ref el_17), (0, .ref r0), (2, .int v2_7)]) hx hb dX14_nextDocument_68 rfl hl (by decide) rfl (fun ls hl => ?_)
                      obtain ⟨z_58, ez_58⟩ : ∃ y : Int32, y = v2_7 + 1 := ⟨_, rfl⟩
                      refine lv_iinc (v := z_58) (lv' := [(2, .int z_58), (1, .ref el_17), (3, .ref el_17), (0, .ref r0)]) hx hb dX14_nextDocument_69 hl (k := 3) rfl (by rw [ez_58]; rfl) (by decide) rfl (fun ls hl => ?_)
                      have hz_58 : z_58.toInt = v2_7.toInt + 1 := by rw [ez_58]; exact jb_iadd2 (rfl) (by decide) (by omega)
                      refine lv_goto (tgt := 4) hx hb dX14_nextDocument_72 (by decide) ?_
                      exact L4 (some el_17) z_58 _ _ (hh_55.sub (L1 := [(r0, 16, 61, .ref ycs_4), (r0, 16, 62, .ref ycl_4), (r0, 16, 60, .ref yco_4), (r0, 16, 41, .ref yfd_1), (r0, 16, 42, .int dc)]) [5, 6, 7, 8, 9] rfl (M1 := [(ycs_4, 207, 2, ca 1, cs), (ycl_4, 115, 2, ca 1, cl)]) [3, 4] rfl (I1 := [([(208, 0)], jQc dC dI (ca 4) yco_4 2 co), ([(201, 0)], jQc dC dI (ca 4) yfd_1 3 fd), (jFxd, jXD dC dI ca G0 none fq), (jFHw, jHw dC dI ca G0 r0 WW)]) [1, 2, 3, 0] rfl) (Or.inr ⟨_, rfl, hg_el_17, ⟨v2_7.toInt.toNat, by omega, by omega, heo_16.symm⟩⟩) (by refine ⟨by omega, by omega, ?_⟩; rw [show (dc.toInt - (z_58).toInt).toNat = (dc.toInt - v2_7.toInt).toNat - 1 by omega]; exact (jwN_f (by omega) (by omega) (fun e => c_50 ((n4.mp e).symm.trans heo_22.symm)) (fun e => c_54 ((n5.mp e).symm.trans heo_52.symm)) (fun e => (hs55.resolve_left (fun q => by omega)).2 (n6.mp e)) (by omega) (by show jrNu fd el_17 = _; rw [n7]; exact (if_pos (by show (-1 : Int) < 0; omega)).symm)).trans hi_7_2) (by omega) _ (lv_sub hl [3, 1, 0] rfl)
                    · skip
                      have c_57' : r_56.toInt ≠ 0 := jb_eq_n (rfl) ((by decide)) c_57
                      first | (have hr_56pq := hr_56p.resolve_left (by omega); clear hr_56p) | (have hr_56pq := hr_56p.resolve_right (by omega); clear hr_56p) | try clear hr_56p
                      refine lv_aload_n hx hb dX14_nextDocument_61 rfl (lv_at hl 0 rfl) ?_
                      have hHf_59 : jHd dC dI ca G0 r0 fd dc H_55 := ⟨yfd_1, ⟨_, hg_r0⟩, hgfd_1, hh_55.2.2.1.sub (L1 := [(r0, 16, 41, .ref yfd_1), (r0, 16, 42, .int dc)]) [8, 9] rfl, hh_55.2.2.2.2.2.2.2.1.sub (L1 := []) [] rfl, hh_55.iv 2 rfl, trivial⟩
                      have hh_60 := hh_55.sub (L1 := [(el_17, 14, 6, .ref ysb_18), (el_17, 14, 7, .ref yse_18), (el_17, 14, 8, .ref ysf_18), (el_17, 14, 5, .int (fq.sn el_17)), (el_17, 14, 9, .int (fq.ck el_17)), (r0, 16, 61, .ref ycs_4), (r0, 16, 62, .ref ycl_4), (r0, 16, 60, .ref yco_4), (r0, 16, 41, .ref yfd_1), (r0, 16, 42, .int dc)]) [0, 1, 2, 3, 4, 5, 6, 7, 8, 9] rfl (M1 := [(ysb_18, 190, 40, ca 1, (fq.sb el_17)), (yse_18, 191, 40, ca 1, (fq.se el_17)), (ysf_18, 192, 40, ca 1, (fq.sf el_17)), (ycs_4, 207, 2, ca 1, cs), (ycl_4, 115, 2, ca 1, cl)]) [0, 1, 2, 3, 4] rfl (I1 := [(jFHw, jHw dC dI ca G0 r0 WW), ([(208, 0)], jQc dC dI (ca 4) yco_4 2 co), (jFxd, jXD dC dI ca G0 none fq)]) [0, 1, 3] rfl
                      clear hh_55
                      have hh_61 := hh_60.addI (jHd.ie hHf_59)
                      clear hh_60
                      have hHf_62 : jHc dC dI ca G0 r0 co cs cl H_55 := ⟨ycs_4, ycl_4, yco_4, ⟨_, hg_r0⟩, ⟨hgcs_4, hgcl_4, hgco_4⟩, hh_61.2.2.1.sub (L1 := [(r0, 16, 61, .ref ycs_4), (r0, 16, 62, .ref ycl_4), (r0, 16, 60, .ref yco_4)]) [5, 6, 7] rfl, hh_61.2.2.2.2.2.2.2.1.sub (L1 := [(ycs_4, 207, 2, ca 1, cs), (ycl_4, 115, 2, ca 1, cl)]) [3, 4] rfl, hh_61.iv 2 rfl, trivial⟩
                      have hh_63 := hh_61.sub (L1 := [(el_17, 14, 6, .ref ysb_18), (el_17, 14, 7, .ref yse_18), (el_17, 14, 8, .ref ysf_18), (el_17, 14, 5, .int (fq.sn el_17)), (el_17, 14, 9, .int (fq.ck el_17)), (r0, 16, 61, .ref ycs_4), (r0, 16, 62, .ref ycl_4), (r0, 16, 60, .ref yco_4), (r0, 16, 41, .ref yfd_1), (r0, 16, 42, .int dc)]) [0, 1, 2, 3, 4, 5, 6, 7, 8, 9] rfl (M1 := [(ysb_18, 190, 40, ca 1, (fq.sb el_17)), (yse_18, 191, 40, ca 1, (fq.se el_17)), (ysf_18, 192, 40, ca 1, (fq.sf el_17)), (ycs_4, 207, 2, ca 1, cs), (ycl_4, 115, 2, ca 1, cl)]) [0, 1, 2, 3, 4] rfl (I1 := [(jFHd, jHd dC dI ca G0 r0 fd dc), (jFHw, jHw dC dI ca G0 r0 WW), (jFxd, jXD dC dI ca G0 none fq)]) [0, 1, 3] rfl
                      clear hh_61
                      have hh_64 := hh_63.addI (jHc.ie hHf_62)
                      clear hh_63
                      rw [hQ]
                      exact W.aret (v := .ref el_17) hx hb hr (Or.inl ⟨_, rfl⟩) (Or.inr ⟨_, rfl⟩) (fun t ht hW => ⟨⟨.ref el_17, (), rfl, ⟨Or.inr ⟨_, rfl, hg_el_17⟩, by rw [← hi_7_2, jwN_y (by omega) (by omega) (fun e => c_50 ((n4.mp e).symm.trans heo_22.symm)) (fun e => c_54 ((n5.mp e).symm.trans heo_52.symm)) (n6.mpr (hs55.resolve_right (fun q => by omega)).2)]; exact jdRr.of (by omega) heo_16⟩, ⟨hh_64.rt (M1 := []) [] rfl ht, by rw [ht]; exact hh_64.2.2.2.2.2.2.2.2.sub (L1 := [(jFxd, jXD dC dI ca G0 none fq), (jFHd, jHd dC dI ca G0 r0 fd dc), (jFHc, jHc dC dI ca G0 r0 co cs cl), (jFHw, jHw dC dI ca G0 r0 WW)]) [3, 1, 0, 2] rfl⟩⟩, by rw [ht]; try exact hh_64.1.1, fun q h9 hq => by rw [ht]; try exact hh_64.1.2.1 q h9 hq⟩) hh_64.1.2.2 dX14_nextDocument_62
                  · skip
                    cases c_54
                · simp only [va_rf]
                  refine lv_acmp_ne (rx := (some el_17)) (ry := (some el_53)) (tgt := 53) hx hb dX14_nextDocument_47 (by decide) (fun c_65 => ?_) (fun c_65 => ?_)
                  · skip
                    refine lv_aload_n hx hb dX14_nextDocument_53 rfl (lv_at hl 1 rfl) ?_
                    refine lv_aload_n hx hb dX14_nextDocument_54 rfl (lv_at hl 0 rfl) ?_
                    refine va_calli (A0 := jA base) (H0 := s.heap) (va_runV (As := [.ref el_17]) (rest := []) ⟨hx, hb, hml, hown, hts⟩ (uX14_isWaitedForT l dC dI ca base B hB hAp hB14 hB16 hB202 G0 H_7 r0 el_17 WW) (cwV 1 hts (jgV (jWr_90 _ (List.mem_of_getElem? (i := 0) rfl)) (jWr_90 _ (List.mem_of_getElem? (i := 1) rfl)) (jWr_90 _ (List.mem_of_getElem? (i := 2) rfl)) (jWr_1 _ (List.mem_of_getElem? (i := 5) rfl)) (jWr_90 _ (List.mem_of_getElem? (i := 3) rfl))) rfl rfl rfl (by decide +kernel) ⟨by rw [← hR]; exact Nat.le_of_ble_eq_true rfl, by rw [← hR]; exact Nat.le_of_ble_eq_true rfl⟩) ⟨fun a U g mk q => by obtain ⟨q0, q1, q2, qK, q10, q11, q12, q13, q14, q15⟩ := q; exact ⟨q0, q1, q2, jG.calling g mk a qK, (va_K.moved (Vm.Alike.refl U.vm) q10), q11, q12, q13, q14, q15⟩, hh_19.recv (C := RX14) (T := TX14) (N := 74) hB16 rfl (by decide) hg_r0 hK, fun U hU hW => ⟨rfl, hU, hh_19.2.1, hG.step hW hU hh_19.1, va_K.moved hW.alike hK2, hg_el_17, hg_r0, jP.nil, (hh_19.2.2.2.2.2.2.2.2.sub (L1 := [(jFHw, jHw dC dI ca G0 r0 WW)]) [3] rfl), trivial⟩⟩ rfl rfl hl.1 rfl (lv_room (Nat.le_of_ble_eq_true rfl)) dX14_nextDocument_55 ⟨Nat.zero_le _, Nat.zero_le _⟩) hh_19.1 (fun q _ h => h) (fun q h => h) (fun r_67 u_66 t_66 H_66 locs_66 ht_66 hvm_66 hr_67 hb_66 hz_66 hk_66 hS_66 => ?_)
                    rw [ht_66] at hb_66
                    obtain ⟨hb_66, hbE_66⟩ := hb_66
                    obtain ⟨hb_661, hb_662, hb_663, hb_664, hb_665⟩ := hb_66
                    have hh_66 : jSt (dC, dI) B base G0 G0 EX14_nextDocumentT s.heap 0 0 [(el_17, 14, 6, .ref ysb_18), (el_17, 14, 7, .ref yse_18), (el_17, 14, 8, .ref ysf_18), (el_17, 14, 5, .int (fq.sn el_17)), (el_17, 14, 9, .int (fq.ck el_17)), (r0, 16, 61, .ref ycs_4), (r0, 16, 62, .ref ycl_4), (r0, 16, 60, .ref yco_4), (r0, 16, 41, .ref yfd_1), (r0, 16, 42, .int dc)] [(ysb_18, 190, 40, ca 1, (fq.sb el_17)), (yse_18, 191, 40, ca 1, (fq.se el_17)), (ysf_18, 192, 40, ca 1, (fq.sf el_17)), (ycs_4, 207, 2, ca 1, cs), (ycl_4, 115, 2, ca 1, cl)] [(jFHw, jHw dC dI ca G0 r0 WW), ([(208, 0)], jQc dC dI (ca 4) yco_4 2 co), ([(201, 0)], jQc dC dI (ca 4) yfd_1 3 fd), (jFxd, jXD dC dI ca G0 none fq)] H_66 locs_66 := (((hh_19.call hb_661 hb_662 hb_663 hb_664 hS_66 rfl (L1 := [(el_17, 14, 6, .ref ysb_18), (el_17, 14, 7, .ref yse_18), (el_17, 14, 8, .ref ysf_18), (el_17, 14, 5, .int (fq.sn el_17)), (el_17, 14, 9, .int (fq.ck el_17)), (r0, 16, 61, .ref ycs_4), (r0, 16, 62, .ref ycl_4), (r0, 16, 60, .ref yco_4), (r0, 16, 41, .ref yfd_1), (r0, 16, 42, .int dc)]) [0, 1, 2, 3, 4, 5, 6, 7, 8, 9] rfl rfl (M1 := [(ysb_18, 190, 40, ca 1, (fq.sb el_17)), (yse_18, 191, 40, ca 1, (fq.se el_17)), (ysf_18, 192, 40, ca 1, (fq.sf el_17)), (ycs_4, 207, 2, ca 1, cs), (ycl_4, 115, 2, ca 1, cl)]) [0, 1, 2, 3, 4] rfl rfl (I1 := [([(208, 0)], jQc dC dI (ca 4) yco_4 2 co), ([(201, 0)], jQc dC dI (ca 4) yfd_1 3 fd), (jFxd, jXD dC dI ca G0 none fq)]) [0, 1, 2] rfl rfl).more hb_665)).addIs hbE_66
                    clear hh_19 ht_66 hvm_66 hz_66 hk_66 hS_66 hb_661 hb_662 hb_663 hb_664 hb_665
                    clear  hbE_66
                    obtain ⟨hr_67b, hr_67p⟩ := hr_67
                    have hs55 := hr_67p
                    have hr_67' := jb_01 hr_67b
                    refine lv_if_eq (tgt := 63) hx hb dX14_nextDocument_58 (by decide) (fun c_68 => ?_) (fun c_68 => ?_)
                    · skip
                      have c_68' : r_67.toInt = 0 := jb_eq (rfl) ((by decide)) c_68
                      first | (have hr_67pq := hr_67p.resolve_left (by omega); clear hr_67p) | (have hr_67pq := hr_67p.resolve_right (by omega); clear hr_67p) | try clear hr_67p
                      refine j7_nld_n hx hb dX14_nextDocument_63 rfl (lv_at hl 2 rfl) ?_
                      refine lv_ifnonnullN hx hb dX14_nextDocument_64 ?_
                      refine lv_aload_n hx hb dX14_nextDocument_67 rfl (lv_at hl 0 rfl) ?_
                      refine lv_astore_n (lv' := [(1, .ref el_17), (3, .ref el_17), (0, .ref r0), (2, .int v2_7)]) hx hb dX14_nextDocument_68 rfl hl (by decide) rfl (fun ls hl => ?_)
                      obtain ⟨z_69, ez_69⟩ : ∃ y : Int32, y = v2_7 + 1 := ⟨_, rfl⟩
                      refine lv_iinc (v := z_69) (lv' := [(2, .int z_69), (1, .ref el_17), (3, .ref el_17), (0, .ref r0)]) hx hb dX14_nextDocument_69 hl (k := 3) rfl (by rw [ez_69]; rfl) (by decide) rfl (fun ls hl => ?_)
                      have hz_69 : z_69.toInt = v2_7.toInt + 1 := by rw [ez_69]; exact jb_iadd2 (rfl) (by decide) (by omega)
                      refine lv_goto (tgt := 4) hx hb dX14_nextDocument_72 (by decide) ?_
                      exact L4 (some el_17) z_69 _ _ (hh_66.sub (L1 := [(r0, 16, 61, .ref ycs_4), (r0, 16, 62, .ref ycl_4), (r0, 16, 60, .ref yco_4), (r0, 16, 41, .ref yfd_1), (r0, 16, 42, .int dc)]) [5, 6, 7, 8, 9] rfl (M1 := [(ycs_4, 207, 2, ca 1, cs), (ycl_4, 115, 2, ca 1, cl)]) [3, 4] rfl (I1 := [([(208, 0)], jQc dC dI (ca 4) yco_4 2 co), ([(201, 0)], jQc dC dI (ca 4) yfd_1 3 fd), (jFxd, jXD dC dI ca G0 none fq), (jFHw, jHw dC dI ca G0 r0 WW)]) [1, 2, 3, 0] rfl) (Or.inr ⟨_, rfl, hg_el_17, ⟨v2_7.toInt.toNat, by omega, by omega, heo_16.symm⟩⟩) (by refine ⟨by omega, by omega, ?_⟩; rw [show (dc.toInt - (z_69).toInt).toNat = (dc.toInt - v2_7.toInt).toNat - 1 by omega]; exact (jwN_f (by omega) (by omega) (fun e => c_50 ((n4.mp e).symm.trans heo_22.symm)) (fun e => c_65 ((n5.mp e).symm.trans heo_52.symm)) (fun e => (hs55.resolve_left (fun q => by omega)).2 (n6.mp e)) (by omega) (by show jrNu fd el_17 = _; rw [n7]; exact (if_pos (by show (-1 : Int) < 0; omega)).symm)).trans hi_7_2) (by omega) _ (lv_sub hl [3, 1, 0] rfl)
                    · skip
                      have c_68' : r_67.toInt ≠ 0 := jb_eq_n (rfl) ((by decide)) c_68
                      first | (have hr_67pq := hr_67p.resolve_left (by omega); clear hr_67p) | (have hr_67pq := hr_67p.resolve_right (by omega); clear hr_67p) | try clear hr_67p
                      refine lv_aload_n hx hb dX14_nextDocument_61 rfl (lv_at hl 0 rfl) ?_
                      have hHf_70 : jHd dC dI ca G0 r0 fd dc H_66 := ⟨yfd_1, ⟨_, hg_r0⟩, hgfd_1, hh_66.2.2.1.sub (L1 := [(r0, 16, 41, .ref yfd_1), (r0, 16, 42, .int dc)]) [8, 9] rfl, hh_66.2.2.2.2.2.2.2.1.sub (L1 := []) [] rfl, hh_66.iv 2 rfl, trivial⟩
                      have hh_71 := hh_66.sub (L1 := [(el_17, 14, 6, .ref ysb_18), (el_17, 14, 7, .ref yse_18), (el_17, 14, 8, .ref ysf_18), (el_17, 14, 5, .int (fq.sn el_17)), (el_17, 14, 9, .int (fq.ck el_17)), (r0, 16, 61, .ref ycs_4), (r0, 16, 62, .ref ycl_4), (r0, 16, 60, .ref yco_4), (r0, 16, 41, .ref yfd_1), (r0, 16, 42, .int dc)]) [0, 1, 2, 3, 4, 5, 6, 7, 8, 9] rfl (M1 := [(ysb_18, 190, 40, ca 1, (fq.sb el_17)), (yse_18, 191, 40, ca 1, (fq.se el_17)), (ysf_18, 192, 40, ca 1, (fq.sf el_17)), (ycs_4, 207, 2, ca 1, cs), (ycl_4, 115, 2, ca 1, cl)]) [0, 1, 2, 3, 4] rfl (I1 := [(jFHw, jHw dC dI ca G0 r0 WW), ([(208, 0)], jQc dC dI (ca 4) yco_4 2 co), (jFxd, jXD dC dI ca G0 none fq)]) [0, 1, 3] rfl
                      clear hh_66
                      have hh_72 := hh_71.addI (jHd.ie hHf_70)
                      clear hh_71
                      have hHf_73 : jHc dC dI ca G0 r0 co cs cl H_66 := ⟨ycs_4, ycl_4, yco_4, ⟨_, hg_r0⟩, ⟨hgcs_4, hgcl_4, hgco_4⟩, hh_72.2.2.1.sub (L1 := [(r0, 16, 61, .ref ycs_4), (r0, 16, 62, .ref ycl_4), (r0, 16, 60, .ref yco_4)]) [5, 6, 7] rfl, hh_72.2.2.2.2.2.2.2.1.sub (L1 := [(ycs_4, 207, 2, ca 1, cs), (ycl_4, 115, 2, ca 1, cl)]) [3, 4] rfl, hh_72.iv 2 rfl, trivial⟩
                      have hh_74 := hh_72.sub (L1 := [(el_17, 14, 6, .ref ysb_18), (el_17, 14, 7, .ref yse_18), (el_17, 14, 8, .ref ysf_18), (el_17, 14, 5, .int (fq.sn el_17)), (el_17, 14, 9, .int (fq.ck el_17)), (r0, 16, 61, .ref ycs_4), (r0, 16, 62, .ref ycl_4), (r0, 16, 60, .ref yco_4), (r0, 16, 41, .ref yfd_1), (r0, 16, 42, .int dc)]) [0, 1, 2, 3, 4, 5, 6, 7, 8, 9] rfl (M1 := [(ysb_18, 190, 40, ca 1, (fq.sb el_17)), (yse_18, 191, 40, ca 1, (fq.se el_17)), (ysf_18, 192, 40, ca 1, (fq.sf el_17)), (ycs_4, 207, 2, ca 1, cs), (ycl_4, 115, 2, ca 1, cl)]) [0, 1, 2, 3, 4] rfl (I1 := [(jFHd, jHd dC dI ca G0 r0 fd dc), (jFHw, jHw dC dI ca G0 r0 WW), (jFxd, jXD dC dI ca G0 none fq)]) [0, 1, 3] rfl
                      clear hh_72
                      have hh_75 := hh_74.addI (jHc.ie hHf_73)
                      clear hh_74
                      rw [hQ]
                      exact W.aret (v := .ref el_17) hx hb hr (Or.inl ⟨_, rfl⟩) (Or.inr ⟨_, rfl⟩) (fun t ht hW => ⟨⟨.ref el_17, (), rfl, ⟨Or.inr ⟨_, rfl, hg_el_17⟩, by rw [← hi_7_2, jwN_y (by omega) (by omega) (fun e => c_50 ((n4.mp e).symm.trans heo_22.symm)) (fun e => c_65 ((n5.mp e).symm.trans heo_52.symm)) (n6.mpr (hs55.resolve_right (fun q => by omega)).2)]; exact jdRr.of (by omega) heo_16⟩, ⟨hh_75.rt (M1 := []) [] rfl ht, by rw [ht]; exact hh_75.2.2.2.2.2.2.2.2.sub (L1 := [(jFxd, jXD dC dI ca G0 none fq), (jFHd, jHd dC dI ca G0 r0 fd dc), (jFHc, jHc dC dI ca G0 r0 co cs cl), (jFHw, jHw dC dI ca G0 r0 WW)]) [3, 1, 0, 2] rfl⟩⟩, by rw [ht]; try exact hh_75.1.1, fun q h9 hq => by rw [ht]; try exact hh_75.1.2.1 q h9 hq⟩) hh_75.1.2.2 dX14_nextDocument_62
                  · skip
                    refine lv_goto (tgt := 69) hx hb dX14_nextDocument_50 (by decide) ?_
                    obtain ⟨z_76, ez_76⟩ : ∃ y : Int32, y = v2_7 + 1 := ⟨_, rfl⟩
                    refine lv_iinc (v := z_76) (lv' := [(2, .int z_76), (3, .ref el_17), (0, .ref r0), (1, .null)]) hx hb dX14_nextDocument_69 hl (k := 3) rfl (by rw [ez_76]; rfl) (by decide) rfl (fun ls hl => ?_)
                    have hz_76 : z_76.toInt = v2_7.toInt + 1 := by rw [ez_76]; exact jb_iadd2 (rfl) (by decide) (by omega)
                    refine lv_goto (tgt := 4) hx hb dX14_nextDocument_72 (by decide) ?_
                    exact L4 none z_76 _ _ (hh_19.sub (L1 := [(r0, 16, 61, .ref ycs_4), (r0, 16, 62, .ref ycl_4), (r0, 16, 60, .ref yco_4), (r0, 16, 41, .ref yfd_1), (r0, 16, 42, .int dc)]) [5, 6, 7, 8, 9] rfl (M1 := [(ycs_4, 207, 2, ca 1, cs), (ycl_4, 115, 2, ca 1, cl)]) [3, 4] rfl (I1 := [([(208, 0)], jQc dC dI (ca 4) yco_4 2 co), ([(201, 0)], jQc dC dI (ca 4) yfd_1 3 fd), (jFxd, jXD dC dI ca G0 none fq), (jFHw, jHw dC dI ca G0 r0 WW)]) [0, 1, 2, 3] rfl) (Or.inl rfl) (by refine ⟨by omega, by omega, ?_⟩; rw [show (dc.toInt - (z_76).toInt).toNat = (dc.toInt - v2_7.toInt).toNat - 1 by omega]; exact (jwN_n (by omega) (Or.inr (Or.inr (n5.mpr (heo_52.symm.trans c_65.symm)))) (by omega)).trans hi_7_2) (by omega) _ (lv_sub hl [2, 3, 0] rfl)
      · have hl : lv_has ls 4 [(0, .ref r0), (1, .ref nv_8), (2, .int v2_7)] := hl
        refine lv_iload_n hx hb dX14_nextDocument_4 rfl (lv_at hl 2 rfl) ?_
        refine lv_aload_n hx hb dX14_nextDocument_5 rfl (lv_at hl 0 rfl) ?_
        refine j7_read hx hb hown hK (C := RX14) (T := TX14) (N := 74) rfl hly_16_42 hlk_505 (hh_7.at 4 rfl) dX14_nextDocument_6 ?_
        refine lv_icmp_ge (tgt := 75) hx hb dX14_nextDocument_9 (by decide) (fun c_77 => ?_) (fun c_77 => ?_)
        · skip
          have c_77' : v2_7.toInt ≥ dc.toInt := jb_ge (rfl) (rfl) c_77
          refine lv_aload_n hx hb dX14_nextDocument_75 rfl (lv_at hl 1 rfl) ?_
          have hHf_78 : jHd dC dI ca G0 r0 fd dc H_7 := ⟨yfd_1, ⟨_, hg_r0⟩, hgfd_1, hh_7.2.2.1.sub (L1 := [(r0, 16, 41, .ref yfd_1), (r0, 16, 42, .int dc)]) [3, 4] rfl, hh_7.2.2.2.2.2.2.2.1.sub (L1 := []) [] rfl, hh_7.iv 1 rfl, trivial⟩
          have hh_79 := hh_7.sub (L1 := [(r0, 16, 61, .ref ycs_4), (r0, 16, 62, .ref ycl_4), (r0, 16, 60, .ref yco_4), (r0, 16, 41, .ref yfd_1), (r0, 16, 42, .int dc)]) [0, 1, 2, 3, 4] rfl (M1 := [(ycs_4, 207, 2, ca 1, cs), (ycl_4, 115, 2, ca 1, cl)]) [0, 1] rfl (I1 := [([(208, 0)], jQc dC dI (ca 4) yco_4 2 co), (jFxd, jXD dC dI ca G0 none fq), (jFHw, jHw dC dI ca G0 r0 WW)]) [0, 2, 3] rfl
          clear hh_7
          have hh_80 := hh_79.addI (jHd.ie hHf_78)
          clear hh_79
          have hHf_81 : jHc dC dI ca G0 r0 co cs cl H_7 := ⟨ycs_4, ycl_4, yco_4, ⟨_, hg_r0⟩, ⟨hgcs_4, hgcl_4, hgco_4⟩, hh_80.2.2.1.sub (L1 := [(r0, 16, 61, .ref ycs_4), (r0, 16, 62, .ref ycl_4), (r0, 16, 60, .ref yco_4)]) [0, 1, 2] rfl, hh_80.2.2.2.2.2.2.2.1.sub (L1 := [(ycs_4, 207, 2, ca 1, cs), (ycl_4, 115, 2, ca 1, cl)]) [0, 1] rfl, hh_80.iv 1 rfl, trivial⟩
          have hh_82 := hh_80.sub (L1 := [(r0, 16, 61, .ref ycs_4), (r0, 16, 62, .ref ycl_4), (r0, 16, 60, .ref yco_4), (r0, 16, 41, .ref yfd_1), (r0, 16, 42, .int dc)]) [0, 1, 2, 3, 4] rfl (M1 := [(ycs_4, 207, 2, ca 1, cs), (ycl_4, 115, 2, ca 1, cl)]) [0, 1] rfl (I1 := [(jFHd, jHd dC dI ca G0 r0 fd dc), (jFxd, jXD dC dI ca G0 none fq), (jFHw, jHw dC dI ca G0 r0 WW)]) [0, 2, 3] rfl
          clear hh_80
          have hh_83 := hh_82.addI (jHc.ie hHf_81)
          clear hh_82
          rw [hQ]
          exact W.aret (v := .ref nv_8) hx hb hr (Or.inl ⟨_, rfl⟩) (Or.inr ⟨_, rfl⟩) (fun t ht hW => ⟨⟨.ref nv_8, (), rfl, ⟨Or.inr ⟨_, rfl, hg_nv_8⟩, by rw [← hi_7_2, show (dc.toInt - v2_7.toInt).toNat = 0 by omega]; obtain ⟨d9, k1, k2, k3⟩ := hp_nv_8; show _ = jdRr fd (jrNu fd _); rw [hp0.nu k2 k3]; exact jdRr.of (by omega) k3.symm⟩, ⟨hh_83.rt (M1 := []) [] rfl ht, by rw [ht]; exact hh_83.2.2.2.2.2.2.2.2.sub (L1 := [(jFxd, jXD dC dI ca G0 none fq), (jFHd, jHd dC dI ca G0 r0 fd dc), (jFHc, jHc dC dI ca G0 r0 co cs cl), (jFHw, jHw dC dI ca G0 r0 WW)]) [2, 1, 0, 3] rfl⟩⟩, by rw [ht]; try exact hh_83.1.1, fun q h9 hq => by rw [ht]; try exact hh_83.1.2.1 q h9 hq⟩) hh_83.1.2.2 dX14_nextDocument_76
        · skip
          have c_77' : v2_7.toInt < dc.toInt := jb_ge_n (rfl) (rfl) c_77
          refine lv_aload_n hx hb dX14_nextDocument_12 rfl (lv_at hl 0 rfl) ?_
          refine j7_read hx hb hown hK (C := RX14) (T := TX14) (N := 74) rfl hly_16_41 hlk_74 (hh_7.at 3 rfl) dX14_nextDocument_13 ?_
          refine lv_iload_n hx hb dX14_nextDocument_16 rfl (lv_at hl 2 rfl) ?_
          refine j7_qaldI hx hb hK2 hh_7 hB201 0 rfl (by decide) hgfd_1 (x := v2_7.toInt) (rfl) (by omega) (hh_7.iv 1 rfl) dX14_nextDocument_17 (fun o_84 ho_84 heo_84 => ?_)
          obtain ⟨el_85, rfl, hg_el_85⟩ := ho_84
          simp only [va_rf]
          refine lv_astore_n (lv' := [(3, .ref el_85), (0, .ref r0), (1, .ref nv_8), (2, .int v2_7)]) hx hb dX14_nextDocument_18 rfl hl (by decide) rfl (fun ls hl => ?_)
          obtain ⟨n1, n2, n3, n4, n5, n6, n7, n8⟩ := hp0.nx (v := v2_7.toInt) (by omega) (by omega) heo_84
          obtain ⟨ysb_86, yse_86, ysf_86, hgsb_86, hgse_86, hgsf_86, hgP_86, hgM_86⟩ := jXD.at (ca := ca) (hh_7.iv 2 rfl) hg_el_85 (fun q => by cases q)
          have hh_87 := ((hh_7.sub (L1 := [(r0, 16, 61, .ref ycs_4), (r0, 16, 62, .ref ycl_4), (r0, 16, 60, .ref yco_4), (r0, 16, 41, .ref yfd_1), (r0, 16, 42, .int dc)]) [0, 1, 2, 3, 4] rfl (M1 := [(ycs_4, 207, 2, ca 1, cs), (ycl_4, 115, 2, ca 1, cl)]) [0, 1] rfl (I1 := [([(208, 0)], jQc dC dI (ca 4) yco_4 2 co), ([(201, 0)], jQc dC dI (ca 4) yfd_1 3 fd), (jFxd, jXD dC dI ca G0 none fq), (jFHw, jHw dC dI ca G0 r0 WW)]) [0, 1, 2, 3] rfl).more (hgP_86.sub (L1 := [(el_85, 14, 6, .ref ysb_86), (el_85, 14, 7, .ref yse_86), (el_85, 14, 8, .ref ysf_86), (el_85, 14, 5, .int (fq.sn el_85)), (el_85, 14, 9, .int (fq.ck el_85))]) [0, 1, 2, 3, 4] rfl)).moreM hgM_86
          clear hh_7
          refine lv_aload_n hx hb dX14_nextDocument_19 rfl (lv_at hl 0 rfl) ?_
          refine j7_readN hx hb hown hK (C := RX12) (T := TX12) (N := 11) rfl hly_14_9 hlk_531 (hh_87.at 4 rfl) dX14_nextDocument_20 ?_
          refine lv_aload_n hx hb dX14_nextDocument_23 rfl (lv_at hl 0 rfl) ?_
          refine j7_readN hx hb hown hK (C := RX12) (T := TX12) (N := 11) rfl hly_14_5 hlk_587 (hh_87.at 3 rfl) dX14_nextDocument_24 ?_
          refine lv_icmp_eq (tgt := 69) hx hb dX14_nextDocument_27 (by decide) (fun c_88 => ?_) (fun c_88 => ?_)
          · skip
            have c_88' : (fq.ck el_85).toInt = (fq.sn el_85).toInt := jb_eq (rfl) (rfl) c_88
            obtain ⟨z_89, ez_89⟩ : ∃ y : Int32, y = v2_7 + 1 := ⟨_, rfl⟩
            refine lv_iinc (v := z_89) (lv' := [(2, .int z_89), (3, .ref el_85), (0, .ref r0), (1, .ref nv_8)]) hx hb dX14_nextDocument_69 hl (k := 3) rfl (by rw [ez_89]; rfl) (by decide) rfl (fun ls hl => ?_)
            have hz_89 : z_89.toInt = v2_7.toInt + 1 := by rw [ez_89]; exact jb_iadd2 (rfl) (by decide) (by omega)
            refine lv_goto (tgt := 4) hx hb dX14_nextDocument_72 (by decide) ?_
            exact L4 (some nv_8) z_89 _ _ (hh_87.sub (L1 := [(r0, 16, 61, .ref ycs_4), (r0, 16, 62, .ref ycl_4), (r0, 16, 60, .ref yco_4), (r0, 16, 41, .ref yfd_1), (r0, 16, 42, .int dc)]) [5, 6, 7, 8, 9] rfl (M1 := [(ycs_4, 207, 2, ca 1, cs), (ycl_4, 115, 2, ca 1, cl)]) [3, 4] rfl (I1 := [([(208, 0)], jQc dC dI (ca 4) yco_4 2 co), ([(201, 0)], jQc dC dI (ca 4) yfd_1 3 fd), (jFxd, jXD dC dI ca G0 none fq), (jFHw, jHw dC dI ca G0 r0 WW)]) [0, 1, 2, 3] rfl) (Or.inr ⟨_, rfl, hg_nv_8, hp_nv_8⟩) (by refine ⟨by omega, by omega, ?_⟩; rw [show (dc.toInt - (z_89).toInt).toNat = (dc.toInt - v2_7.toInt).toNat - 1 by omega]; exact (jwN_n (by omega) (Or.inl (by omega)) (by omega)).trans hi_7_2) (by omega) _ (lv_sub hl [2, 3, 0] rfl)
          · skip
            have c_88' : (fq.ck el_85).toInt ≠ (fq.sn el_85).toInt := jb_eq_n (rfl) (rfl) c_88
            refine lv_aload_n hx hb dX14_nextDocument_30 rfl (lv_at hl 0 rfl) ?_
            refine lv_aload_n hx hb dX14_nextDocument_31 rfl (lv_at hl 1 rfl) ?_
            refine j7_read hx hb hown hK (C := RX14) (T := TX14) (N := 74) rfl hly_16_60 hlk_129 (hh_87.at 7 rfl) dX14_nextDocument_32 ?_
            refine lv_iconst (v := 0) hx hb dX14_nextDocument_35 (by decide) ?_
            refine j7_qaldI hx hb hK2 hh_87 hB208 0 rfl (by decide) hgco_4 (x := 0) ((by decide)) (by omega) (hh_87.iv 0 rfl) dX14_nextDocument_36 (fun o_90 ho_90 heo_90 => ?_)
            rcases ho_90 with rfl | ⟨el_91, rfl, hg_el_91⟩
            · simp only [va_rf]
              refine lv_acmp_eq (rx := (some el_85)) (ry := none) (tgt := 69) hx hb dX14_nextDocument_37 (by decide) (fun c_92 => ?_) (fun c_92 => ?_)
              · skip
                cases c_92
              · skip
                refine lv_aload_n hx hb dX14_nextDocument_40 rfl (lv_at hl 0 rfl) ?_
                refine lv_aload_n hx hb dX14_nextDocument_41 rfl (lv_at hl 1 rfl) ?_
                refine j7_read hx hb hown hK (C := RX14) (T := TX14) (N := 74) rfl hly_16_60 hlk_129 (hh_87.at 7 rfl) dX14_nextDocument_42 ?_
                refine lv_iconst (v := 1) hx hb dX14_nextDocument_45 (by decide) ?_
                refine j7_qaldI hx hb hK2 hh_87 hB208 0 rfl (by decide) hgco_4 (x := 1) ((by decide)) (by omega) (hh_87.iv 0 rfl) dX14_nextDocument_46 (fun o_93 ho_93 heo_93 => ?_)
                rcases ho_93 with rfl | ⟨el_94, rfl, hg_el_94⟩
                · simp only [va_rf]
                  refine lv_acmp_ne (rx := (some el_85)) (ry := none) (tgt := 53) hx hb dX14_nextDocument_47 (by decide) (fun c_95 => ?_) (fun c_95 => ?_)
                  · skip
                    refine lv_aload_n hx hb dX14_nextDocument_53 rfl (lv_at hl 1 rfl) ?_
                    refine lv_aload_n hx hb dX14_nextDocument_54 rfl (lv_at hl 0 rfl) ?_
                    refine va_calli (A0 := jA base) (H0 := s.heap) (va_runV (As := [.ref el_85]) (rest := []) ⟨hx, hb, hml, hown, hts⟩ (uX14_isWaitedForT l dC dI ca base B hB hAp hB14 hB16 hB202 G0 H_7 r0 el_85 WW) (cwV 1 hts (jgV (jWr_90 _ (List.mem_of_getElem? (i := 0) rfl)) (jWr_90 _ (List.mem_of_getElem? (i := 1) rfl)) (jWr_90 _ (List.mem_of_getElem? (i := 2) rfl)) (jWr_1 _ (List.mem_of_getElem? (i := 5) rfl)) (jWr_90 _ (List.mem_of_getElem? (i := 3) rfl))) rfl rfl rfl (by decide +kernel) ⟨by rw [← hR]; exact Nat.le_of_ble_eq_true rfl, by rw [← hR]; exact Nat.le_of_ble_eq_true rfl⟩) ⟨fun a U g mk q => by obtain ⟨q0, q1, q2, qK, q10, q11, q12, q13, q14, q15⟩ := q; exact ⟨q0, q1, q2, jG.calling g mk a qK, (va_K.moved (Vm.Alike.refl U.vm) q10), q11, q12, q13, q14, q15⟩, hh_87.recv (C := RX14) (T := TX14) (N := 74) hB16 rfl (by decide) hg_r0 hK, fun U hU hW => ⟨rfl, hU, hh_87.2.1, hG.step hW hU hh_87.1, va_K.moved hW.alike hK2, hg_el_85, hg_r0, jP.nil, (hh_87.2.2.2.2.2.2.2.2.sub (L1 := [(jFHw, jHw dC dI ca G0 r0 WW)]) [3] rfl), trivial⟩⟩ rfl rfl hl.1 rfl (lv_room (Nat.le_of_ble_eq_true rfl)) dX14_nextDocument_55 ⟨Nat.zero_le _, Nat.zero_le _⟩) hh_87.1 (fun q _ h => h) (fun q h => h) (fun r_97 u_96 t_96 H_96 locs_96 ht_96 hvm_96 hr_97 hb_96 hz_96 hk_96 hS_96 => ?_)
                    rw [ht_96] at hb_96
                    obtain ⟨hb_96, hbE_96⟩ := hb_96
                    obtain ⟨hb_961, hb_962, hb_963, hb_964, hb_965⟩ := hb_96
                    have hh_96 : jSt (dC, dI) B base G0 G0 EX14_nextDocumentT s.heap 0 0 [(el_85, 14, 6, .ref ysb_86), (el_85, 14, 7, .ref yse_86), (el_85, 14, 8, .ref ysf_86), (el_85, 14, 5, .int (fq.sn el_85)), (el_85, 14, 9, .int (fq.ck el_85)), (r0, 16, 61, .ref ycs_4), (r0, 16, 62, .ref ycl_4), (r0, 16, 60, .ref yco_4), (r0, 16, 41, .ref yfd_1), (r0, 16, 42, .int dc)] [(ysb_86, 190, 40, ca 1, (fq.sb el_85)), (yse_86, 191, 40, ca 1, (fq.se el_85)), (ysf_86, 192, 40, ca 1, (fq.sf el_85)), (ycs_4, 207, 2, ca 1, cs), (ycl_4, 115, 2, ca 1, cl)] [(jFHw, jHw dC dI ca G0 r0 WW), ([(208, 0)], jQc dC dI (ca 4) yco_4 2 co), ([(201, 0)], jQc dC dI (ca 4) yfd_1 3 fd), (jFxd, jXD dC dI ca G0 none fq)] H_96 locs_96 := (((hh_87.call hb_961 hb_962 hb_963 hb_964 hS_96 rfl (L1 := [(el_85, 14, 6, .ref ysb_86), (el_85, 14, 7, .ref yse_86), (el_85, 14, 8, .ref ysf_86), (el_85, 14, 5, .int (fq.sn el_85)), (el_85, 14, 9, .int (fq.ck el_85)), (r0, 16, 61, .ref ycs_4), (r0, 16, 62, .ref ycl_4), (r0, 16, 60, .ref yco_4), (r0, 16, 41, .ref yfd_1), (r0, 16, 42, .int dc)]) [0, 1, 2, 3, 4, 5, 6, 7, 8, 9] rfl rfl (M1 := [(ysb_86, 190, 40, ca 1, (fq.sb el_85)), (yse_86, 191, 40, ca 1, (fq.se el_85)), (ysf_86, 192, 40, ca 1, (fq.sf el_85)), (ycs_4, 207, 2, ca 1, cs), (ycl_4, 115, 2, ca 1, cl)]) [0, 1, 2, 3, 4] rfl rfl (I1 := [([(208, 0)], jQc dC dI (ca 4) yco_4 2 co), ([(201, 0)], jQc dC dI (ca 4) yfd_1 3 fd), (jFxd, jXD dC dI ca G0 none fq)]) [0, 1, 2] rfl rfl).more hb_965)).addIs hbE_96
                    clear hh_87 ht_96 hvm_96 hz_96 hk_96 hS_96 hb_961 hb_962 hb_963 hb_964 hb_965
                    clear  hbE_96
                    obtain ⟨hr_97b, hr_97p⟩ := hr_97
                    have hs55 := hr_97p
                    have hr_97' := jb_01 hr_97b
                    refine lv_if_eq (tgt := 63) hx hb dX14_nextDocument_58 (by decide) (fun c_98 => ?_) (fun c_98 => ?_)
                    · skip
                      have c_98' : r_97.toInt = 0 := jb_eq (rfl) ((by decide)) c_98
                      first | (have hr_97pq := hr_97p.resolve_left (by omega); clear hr_97p) | (have hr_97pq := hr_97p.resolve_right (by omega); clear hr_97p) | try clear hr_97p
                      refine lv_aload_n hx hb dX14_nextDocument_63 rfl (lv_at hl 2 rfl) ?_
                      refine lv_ifnonnull (tgt := 69) hx hb dX14_nextDocument_64 (by decide) ?_
                      obtain ⟨z_99, ez_99⟩ : ∃ y : Int32, y = v2_7 + 1 := ⟨_, rfl⟩
                      refine lv_iinc (v := z_99) (lv' := [(2, .int z_99), (3, .ref el_85), (0, .ref r0), (1, .ref nv_8)]) hx hb dX14_nextDocument_69 hl (k := 3) rfl (by rw [ez_99]; rfl) (by decide) rfl (fun ls hl => ?_)
                      have hz_99 : z_99.toInt = v2_7.toInt + 1 := by rw [ez_99]; exact jb_iadd2 (rfl) (by decide) (by omega)
                      refine lv_goto (tgt := 4) hx hb dX14_nextDocument_72 (by decide) ?_
                      exact L4 (some nv_8) z_99 _ _ (hh_96.sub (L1 := [(r0, 16, 61, .ref ycs_4), (r0, 16, 62, .ref ycl_4), (r0, 16, 60, .ref yco_4), (r0, 16, 41, .ref yfd_1), (r0, 16, 42, .int dc)]) [5, 6, 7, 8, 9] rfl (M1 := [(ycs_4, 207, 2, ca 1, cs), (ycl_4, 115, 2, ca 1, cl)]) [3, 4] rfl (I1 := [([(208, 0)], jQc dC dI (ca 4) yco_4 2 co), ([(201, 0)], jQc dC dI (ca 4) yfd_1 3 fd), (jFxd, jXD dC dI ca G0 none fq), (jFHw, jHw dC dI ca G0 r0 WW)]) [1, 2, 3, 0] rfl) (Or.inr ⟨_, rfl, hg_nv_8, hp_nv_8⟩) (by refine ⟨by omega, by omega, ?_⟩; rw [show (dc.toInt - (z_99).toInt).toNat = (dc.toInt - v2_7.toInt).toNat - 1 by omega]; exact (jwN_f (by omega) (by omega) (fun e => c_92 ((n4.mp e).symm.trans heo_90.symm)) (fun e => c_95 ((n5.mp e).symm.trans heo_93.symm)) (fun e => (hs55.resolve_left (fun q => by omega)).2 (n6.mp e)) (by omega) (by obtain ⟨d9, k1, k2, k3⟩ := hp_nv_8; exact (if_neg (by show ¬ jrNu fd _ < 0; rw [hp0.nu k2 k3]; omega)).symm)).trans hi_7_2) (by omega) _ (lv_sub hl [2, 3, 0] rfl)
                    · skip
                      have c_98' : r_97.toInt ≠ 0 := jb_eq_n (rfl) ((by decide)) c_98
                      first | (have hr_97pq := hr_97p.resolve_left (by omega); clear hr_97p) | (have hr_97pq := hr_97p.resolve_right (by omega); clear hr_97p) | try clear hr_97p
                      refine lv_aload_n hx hb dX14_nextDocument_61 rfl (lv_at hl 0 rfl) ?_
                      have hHf_100 : jHd dC dI ca G0 r0 fd dc H_96 := ⟨yfd_1, ⟨_, hg_r0⟩, hgfd_1, hh_96.2.2.1.sub (L1 := [(r0, 16, 41, .ref yfd_1), (r0, 16, 42, .int dc)]) [8, 9] rfl, hh_96.2.2.2.2.2.2.2.1.sub (L1 := []) [] rfl, hh_96.iv 2 rfl, trivial⟩
                      have hh_101 := hh_96.sub (L1 := [(el_85, 14, 6, .ref ysb_86), (el_85, 14, 7, .ref yse_86), (el_85, 14, 8, .ref ysf_86), (el_85, 14, 5, .int (fq.sn el_85)), (el_85, 14, 9, .int (fq.ck el_85)), (r0, 16, 61, .ref ycs_4), (r0, 16, 62, .ref ycl_4), (r0, 16, 60, .ref yco_4), (r0, 16, 41, .ref yfd_1), (r0, 16, 42, .int dc)]) [0, 1, 2, 3, 4, 5, 6, 7, 8, 9] rfl (M1 := [(ysb_86, 190, 40, ca 1, (fq.sb el_85)), (yse_86, 191, 40, ca 1, (fq.se el_85)), (ysf_86, 192, 40, ca 1, (fq.sf el_85)), (ycs_4, 207, 2, ca 1, cs), (ycl_4, 115, 2, ca 1, cl)]) [0, 1, 2, 3, 4] rfl (I1 := [(jFHw, jHw dC dI ca G0 r0 WW), ([(208, 0)], jQc dC dI (ca 4) yco_4 2 co), (jFxd, jXD dC dI ca G0 none fq)]) [0, 1, 3] rfl
                      clear hh_96
                      have hh_102 := hh_101.addI (jHd.ie hHf_100)
                      clear hh_101
                      have hHf_103 : jHc dC dI ca G0 r0 co cs cl H_96 := ⟨ycs_4, ycl_4, yco_4, ⟨_, hg_r0⟩, ⟨hgcs_4, hgcl_4, hgco_4⟩, hh_102.2.2.1.sub (L1 := [(r0, 16, 61, .ref ycs_4), (r0, 16, 62, .ref ycl_4), (r0, 16, 60, .ref yco_4)]) [5, 6, 7] rfl, hh_102.2.2.2.2.2.2.2.1.sub (L1 := [(ycs_4, 207, 2, ca 1, cs), (ycl_4, 115, 2, ca 1, cl)]) [3, 4] rfl, hh_102.iv 2 rfl, trivial⟩
                      have hh_104 := hh_102.sub (L1 := [(el_85, 14, 6, .ref ysb_86), (el_85, 14, 7, .ref yse_86), (el_85, 14, 8, .ref ysf_86), (el_85, 14, 5, .int (fq.sn el_85)), (el_85, 14, 9, .int (fq.ck el_85)), (r0, 16, 61, .ref ycs_4), (r0, 16, 62, .ref ycl_4), (r0, 16, 60, .ref yco_4), (r0, 16, 41, .ref yfd_1), (r0, 16, 42, .int dc)]) [0, 1, 2, 3, 4, 5, 6, 7, 8, 9] rfl (M1 := [(ysb_86, 190, 40, ca 1, (fq.sb el_85)), (yse_86, 191, 40, ca 1, (fq.se el_85)), (ysf_86, 192, 40, ca 1, (fq.sf el_85)), (ycs_4, 207, 2, ca 1, cs), (ycl_4, 115, 2, ca 1, cl)]) [0, 1, 2, 3, 4] rfl (I1 := [(jFHd, jHd dC dI ca G0 r0 fd dc), (jFHw, jHw dC dI ca G0 r0 WW), (jFxd, jXD dC dI ca G0 none fq)]) [0, 1, 3] rfl
                      clear hh_102
                      have hh_105 := hh_104.addI (jHc.ie hHf_103)
                      clear hh_104
                      rw [hQ]
                      exact W.aret (v := .ref el_85) hx hb hr (Or.inl ⟨_, rfl⟩) (Or.inr ⟨_, rfl⟩) (fun t ht hW => ⟨⟨.ref el_85, (), rfl, ⟨Or.inr ⟨_, rfl, hg_el_85⟩, by rw [← hi_7_2, jwN_y (by omega) (by omega) (fun e => c_92 ((n4.mp e).symm.trans heo_90.symm)) (fun e => c_95 ((n5.mp e).symm.trans heo_93.symm)) (n6.mpr (hs55.resolve_right (fun q => by omega)).2)]; exact jdRr.of (by omega) heo_84⟩, ⟨hh_105.rt (M1 := []) [] rfl ht, by rw [ht]; exact hh_105.2.2.2.2.2.2.2.2.sub (L1 := [(jFxd, jXD dC dI ca G0 none fq), (jFHd, jHd dC dI ca G0 r0 fd dc), (jFHc, jHc dC dI ca G0 r0 co cs cl), (jFHw, jHw dC dI ca G0 r0 WW)]) [3, 1, 0, 2] rfl⟩⟩, by rw [ht]; try exact hh_105.1.1, fun q h9 hq => by rw [ht]; try exact hh_105.1.2.1 q h9 hq⟩) hh_105.1.2.2 dX14_nextDocument_62
                  · skip
                    cases c_95
                · simp only [va_rf]
                  refine lv_acmp_ne (rx := (some el_85)) (ry := (some el_94)) (tgt := 53) hx hb dX14_nextDocument_47 (by decide) (fun c_106 => ?_) (fun c_106 => ?_)
                  · skip
                    refine lv_aload_n hx hb dX14_nextDocument_53 rfl (lv_at hl 1 rfl) ?_
                    refine lv_aload_n hx hb dX14_nextDocument_54 rfl (lv_at hl 0 rfl) ?_
                    refine va_calli (A0 := jA base) (H0 := s.heap) (va_runV (As := [.ref el_85]) (rest := []) ⟨hx, hb, hml, hown, hts⟩ (uX14_isWaitedForT l dC dI ca base B hB hAp hB14 hB16 hB202 G0 H_7 r0 el_85 WW) (cwV 1 hts (jgV (jWr_90 _ (List.mem_of_getElem? (i := 0) rfl)) (jWr_90 _ (List.mem_of_getElem? (i := 1) rfl)) (jWr_90 _ (List.mem_of_getElem? (i := 2) rfl)) (jWr_1 _ (List.mem_of_getElem? (i := 5) rfl)) (jWr_90 _ (List.mem_of_getElem? (i := 3) rfl))) rfl rfl rfl (by decide +kernel) ⟨by rw [← hR]; exact Nat.le_of_ble_eq_true rfl, by rw [← hR]; exact Nat.le_of_ble_eq_true rfl⟩) ⟨fun a U g mk q => by obtain ⟨q0, q1, q2, qK, q10, q11, q12, q13, q14, q15⟩ := q; exact ⟨q0, q1, q2, jG.calling g mk a qK, (va_K.moved (Vm.Alike.refl U.vm) q10), q11, q12, q13, q14, q15⟩, hh_87.recv (C := RX14) (T := TX14) (N := 74) hB16 rfl (by decide) hg_r0 hK, fun U hU hW => ⟨rfl, hU, hh_87.2.1, hG.step hW hU hh_87.1, va_K.moved hW.alike hK2, hg_el_85, hg_r0, jP.nil, (hh_87.2.2.2.2.2.2.2.2.sub (L1 := [(jFHw, jHw dC dI ca G0 r0 WW)]) [3] rfl), trivial⟩⟩ rfl rfl hl.1 rfl (lv_room (Nat.le_of_ble_eq_true rfl)) dX14_nextDocument_55 ⟨Nat.zero_le _, Nat.zero_le _⟩) hh_87.1 (fun q _ h => h) (fun q h => h) (fun r_108 u_107 t_107 H_107 locs_107 ht_107 hvm_107 hr_108 hb_107 hz_107 hk_107 hS_107 => ?_)
                    rw [ht_107] at hb_107
                    obtain ⟨hb_107, hbE_107⟩ := hb_107
                    obtain ⟨hb_1071, hb_1072, hb_1073, hb_1074, hb_1075⟩ := hb_107
                    have hh_107 : jSt (dC, dI) B base G0 G0 EX14_nextDocumentT s.heap 0 0 [(el_85, 14, 6, .ref ysb_86), (el_85, 14, 7, .ref yse_86), (el_85, 14, 8, .ref ysf_86), (el_85, 14, 5, .int (fq.sn el_85)), (el_85, 14, 9, .int (fq.ck el_85)), (r0, 16, 61, .ref ycs_4), (r0, 16, 62, .ref ycl_4), (r0, 16, 60, .ref yco_4), (r0, 16, 41, .ref yfd_1), (r0, 16, 42, .int dc)] [(ysb_86, 190, 40, ca 1, (fq.sb el_85)), (yse_86, 191, 40, ca 1, (fq.se el_85)), (ysf_86, 192, 40, ca 1, (fq.sf el_85)), (ycs_4, 207, 2, ca 1, cs), (ycl_4, 115, 2, ca 1, cl)] [(jFHw, jHw dC dI ca G0 r0 WW), ([(208, 0)], jQc dC dI (ca 4) yco_4 2 co), ([(201, 0)], jQc dC dI (ca 4) yfd_1 3 fd), (jFxd, jXD dC dI ca G0 none fq)] H_107 locs_107 := (((hh_87.call hb_1071 hb_1072 hb_1073 hb_1074 hS_107 rfl (L1 := [(el_85, 14, 6, .ref ysb_86), (el_85, 14, 7, .ref yse_86), (el_85, 14, 8, .ref ysf_86), (el_85, 14, 5, .int (fq.sn el_85)), (el_85, 14, 9, .int (fq.ck el_85)), (r0, 16, 61, .ref ycs_4), (r0, 16, 62, .ref ycl_4), (r0, 16, 60, .ref yco_4), (r0, 16, 41, .ref yfd_1), (r0, 16, 42, .int dc)]) [0, 1, 2, 3, 4, 5, 6, 7, 8, 9] rfl rfl (M1 := [(ysb_86, 190, 40, ca 1, (fq.sb el_85)), (yse_86, 191, 40, ca 1, (fq.se el_85)), (ysf_86, 192, 40, ca 1, (fq.sf el_85)), (ycs_4, 207, 2, ca 1, cs), (ycl_4, 115, 2, ca 1, cl)]) [0, 1, 2, 3, 4] rfl rfl (I1 := [([(208, 0)], jQc dC dI (ca 4) yco_4 2 co), ([(201, 0)], jQc dC dI (ca 4) yfd_1 3 fd), (jFxd, jXD dC dI ca G0 none fq)]) [0, 1, 2] rfl rfl).more hb_1075)).addIs hbE_107
                    clear hh_87 ht_107 hvm_107 hz_107 hk_107 hS_107 hb_1071 hb_1072 hb_1073 hb_1074 hb_1075
                    clear  hbE_107
                    obtain ⟨hr_108b, hr_108p⟩ := hr_108
                    have hs55 := hr_108p
                    have hr_108' := jb_01 hr_108b
                    refine lv_if_eq (tgt := 63) hx hb dX14_nextDocument_58 (by decide) (fun c_109 => ?_) (fun c_109 => ?_)
                    · skip
                      have c_109' : r_108.toInt = 0 := jb_eq (rfl) ((by decide)) c_109
                      first | (have hr_108pq := hr_108p.resolve_left (by omega); clear hr_108p) | (have hr_108pq := hr_108p.resolve_right (by omega); clear hr_108p) | try clear hr_108p
                      refine lv_aload_n hx hb dX14_nextDocument_63 rfl (lv_at hl 2 rfl) ?_
                      refine lv_ifnonnull (tgt := 69) hx hb dX14_nextDocument_64 (by decide) ?_
                      obtain ⟨z_110, ez_110⟩ : ∃ y : Int32, y = v2_7 + 1 := ⟨_, rfl⟩
                      refine lv_iinc (v := z_110) (lv' := [(2, .int z_110), (3, .ref el_85), (0, .ref r0), (1, .ref nv_8)]) hx hb dX14_nextDocument_69 hl (k := 3) rfl (by rw [ez_110]; rfl) (by decide) rfl (fun ls hl => ?_)
                      have hz_110 : z_110.toInt = v2_7.toInt + 1 := by rw [ez_110]; exact jb_iadd2 (rfl) (by decide) (by omega)
                      refine lv_goto (tgt := 4) hx hb dX14_nextDocument_72 (by decide) ?_
                      exact L4 (some nv_8) z_110 _ _ (hh_107.sub (L1 := [(r0, 16, 61, .ref ycs_4), (r0, 16, 62, .ref ycl_4), (r0, 16, 60, .ref yco_4), (r0, 16, 41, .ref yfd_1), (r0, 16, 42, .int dc)]) [5, 6, 7, 8, 9] rfl (M1 := [(ycs_4, 207, 2, ca 1, cs), (ycl_4, 115, 2, ca 1, cl)]) [3, 4] rfl (I1 := [([(208, 0)], jQc dC dI (ca 4) yco_4 2 co), ([(201, 0)], jQc dC dI (ca 4) yfd_1 3 fd), (jFxd, jXD dC dI ca G0 none fq), (jFHw, jHw dC dI ca G0 r0 WW)]) [1, 2, 3, 0] rfl) (Or.inr ⟨_, rfl, hg_nv_8, hp_nv_8⟩) (by refine ⟨by omega, by omega, ?_⟩; rw [show (dc.toInt - (z_110).toInt).toNat = (dc.toInt - v2_7.toInt).toNat - 1 by omega]; exact (jwN_f (by omega) (by omega) (fun e => c_92 ((n4.mp e).symm.trans heo_90.symm)) (fun e => c_106 ((n5.mp e).symm.trans heo_93.symm)) (fun e => (hs55.resolve_left (fun q => by omega)).2 (n6.mp e)) (by omega) (by obtain ⟨d9, k1, k2, k3⟩ := hp_nv_8; exact (if_neg (by show ¬ jrNu fd _ < 0; rw [hp0.nu k2 k3]; omega)).symm)).trans hi_7_2) (by omega) _ (lv_sub hl [2, 3, 0] rfl)
                    · skip
                      have c_109' : r_108.toInt ≠ 0 := jb_eq_n (rfl) ((by decide)) c_109
                      first | (have hr_108pq := hr_108p.resolve_left (by omega); clear hr_108p) | (have hr_108pq := hr_108p.resolve_right (by omega); clear hr_108p) | try clear hr_108p
                      refine lv_aload_n hx hb dX14_nextDocument_61 rfl (lv_at hl 0 rfl) ?_
                      have hHf_111 : jHd dC dI ca G0 r0 fd dc H_107 := ⟨yfd_1, ⟨_, hg_r0⟩, hgfd_1, hh_107.2.2.1.sub (L1 := [(r0, 16, 41, .ref yfd_1), (r0, 16, 42, .int dc)]) [8, 9] rfl, hh_107.2.2.2.2.2.2.2.1.sub (L1 := []) [] rfl, hh_107.iv 2 rfl, trivial⟩
                      have hh_112 := hh_107.sub (L1 := [(el_85, 14, 6, .ref ysb_86), (el_85, 14, 7, .ref yse_86), (el_85, 14, 8, .ref ysf_86), (el_85, 14, 5, .int (fq.sn el_85)), (el_85, 14, 9, .int (fq.ck el_85)), (r0, 16, 61, .ref ycs_4), (r0, 16, 62, .ref ycl_4), (r0, 16, 60, .ref yco_4), (r0, 16, 41, .ref yfd_1), (r0, 16, 42, .int dc)]) [0, 1, 2, 3, 4, 5, 6, 7, 8, 9] rfl (M1 := [(ysb_86, 190, 40, ca 1, (fq.sb el_85)), (yse_86, 191, 40, ca 1, (fq.se el_85)), (ysf_86, 192, 40, ca 1, (fq.sf el_85)), (ycs_4, 207, 2, ca 1, cs), (ycl_4, 115, 2, ca 1, cl)]) [0, 1, 2, 3, 4] rfl (I1 := [(jFHw, jHw dC dI ca G0 r0 WW), ([(208, 0)], jQc dC dI (ca 4) yco_4 2 co), (jFxd, jXD dC dI ca G0 none fq)]) [0, 1, 3] rfl
                      clear hh_107
                      have hh_113 := hh_112.addI (jHd.ie hHf_111)
                      clear hh_112
                      have hHf_114 : jHc dC dI ca G0 r0 co cs cl H_107 := ⟨ycs_4, ycl_4, yco_4, ⟨_, hg_r0⟩, ⟨hgcs_4, hgcl_4, hgco_4⟩, hh_113.2.2.1.sub (L1 := [(r0, 16, 61, .ref ycs_4), (r0, 16, 62, .ref ycl_4), (r0, 16, 60, .ref yco_4)]) [5, 6, 7] rfl, hh_113.2.2.2.2.2.2.2.1.sub (L1 := [(ycs_4, 207, 2, ca 1, cs), (ycl_4, 115, 2, ca 1, cl)]) [3, 4] rfl, hh_113.iv 2 rfl, trivial⟩
                      have hh_115 := hh_113.sub (L1 := [(el_85, 14, 6, .ref ysb_86), (el_85, 14, 7, .ref yse_86), (el_85, 14, 8, .ref ysf_86), (el_85, 14, 5, .int (fq.sn el_85)), (el_85, 14, 9, .int (fq.ck el_85)), (r0, 16, 61, .ref ycs_4), (r0, 16, 62, .ref ycl_4), (r0, 16, 60, .ref yco_4), (r0, 16, 41, .ref yfd_1), (r0, 16, 42, .int dc)]) [0, 1, 2, 3, 4, 5, 6, 7, 8, 9] rfl (M1 := [(ysb_86, 190, 40, ca 1, (fq.sb el_85)), (yse_86, 191, 40, ca 1, (fq.se el_85)), (ysf_86, 192, 40, ca 1, (fq.sf el_85)), (ycs_4, 207, 2, ca 1, cs), (ycl_4, 115, 2, ca 1, cl)]) [0, 1, 2, 3, 4] rfl (I1 := [(jFHd, jHd dC dI ca G0 r0 fd dc), (jFHw, jHw dC dI ca G0 r0 WW), (jFxd, jXD dC dI ca G0 none fq)]) [0, 1, 3] rfl
                      clear hh_113
                      have hh_116 := hh_115.addI (jHc.ie hHf_114)
                      clear hh_115
                      rw [hQ]
                      exact W.aret (v := .ref el_85) hx hb hr (Or.inl ⟨_, rfl⟩) (Or.inr ⟨_, rfl⟩) (fun t ht hW => ⟨⟨.ref el_85, (), rfl, ⟨Or.inr ⟨_, rfl, hg_el_85⟩, by rw [← hi_7_2, jwN_y (by omega) (by omega) (fun e => c_92 ((n4.mp e).symm.trans heo_90.symm)) (fun e => c_106 ((n5.mp e).symm.trans heo_93.symm)) (n6.mpr (hs55.resolve_right (fun q => by omega)).2)]; exact jdRr.of (by omega) heo_84⟩, ⟨hh_116.rt (M1 := []) [] rfl ht, by rw [ht]; exact hh_116.2.2.2.2.2.2.2.2.sub (L1 := [(jFxd, jXD dC dI ca G0 none fq), (jFHd, jHd dC dI ca G0 r0 fd dc), (jFHc, jHc dC dI ca G0 r0 co cs cl), (jFHw, jHw dC dI ca G0 r0 WW)]) [3, 1, 0, 2] rfl⟩⟩, by rw [ht]; try exact hh_116.1.1, fun q h9 hq => by rw [ht]; try exact hh_116.1.2.1 q h9 hq⟩) hh_116.1.2.2 dX14_nextDocument_62
                  · skip
                    refine lv_goto (tgt := 69) hx hb dX14_nextDocument_50 (by decide) ?_
                    obtain ⟨z_117, ez_117⟩ : ∃ y : Int32, y = v2_7 + 1 := ⟨_, rfl⟩
                    refine lv_iinc (v := z_117) (lv' := [(2, .int z_117), (3, .ref el_85), (0, .ref r0), (1, .ref nv_8)]) hx hb dX14_nextDocument_69 hl (k := 3) rfl (by rw [ez_117]; rfl) (by decide) rfl (fun ls hl => ?_)
                    have hz_117 : z_117.toInt = v2_7.toInt + 1 := by rw [ez_117]; exact jb_iadd2 (rfl) (by decide) (by omega)
                    refine lv_goto (tgt := 4) hx hb dX14_nextDocument_72 (by decide) ?_
                    exact L4 (some nv_8) z_117 _ _ (hh_87.sub (L1 := [(r0, 16, 61, .ref ycs_4), (r0, 16, 62, .ref ycl_4), (r0, 16, 60, .ref yco_4), (r0, 16, 41, .ref yfd_1), (r0, 16, 42, .int dc)]) [5, 6, 7, 8, 9] rfl (M1 := [(ycs_4, 207, 2, ca 1, cs), (ycl_4, 115, 2, ca 1, cl)]) [3, 4] rfl (I1 := [([(208, 0)], jQc dC dI (ca 4) yco_4 2 co), ([(201, 0)], jQc dC dI (ca 4) yfd_1 3 fd), (jFxd, jXD dC dI ca G0 none fq), (jFHw, jHw dC dI ca G0 r0 WW)]) [0, 1, 2, 3] rfl) (Or.inr ⟨_, rfl, hg_nv_8, hp_nv_8⟩) (by refine ⟨by omega, by omega, ?_⟩; rw [show (dc.toInt - (z_117).toInt).toNat = (dc.toInt - v2_7.toInt).toNat - 1 by omega]; exact (jwN_n (by omega) (Or.inr (Or.inr (n5.mpr (heo_93.symm.trans c_106.symm)))) (by omega)).trans hi_7_2) (by omega) _ (lv_sub hl [2, 3, 0] rfl)
            · simp only [va_rf]
              refine lv_acmp_eq (rx := (some el_85)) (ry := (some el_91)) (tgt := 69) hx hb dX14_nextDocument_37 (by decide) (fun c_118 => ?_) (fun c_118 => ?_)
              · skip
                obtain ⟨z_119, ez_119⟩ : ∃ y : Int32, y = v2_7 + 1 := ⟨_, rfl⟩
                refine lv_iinc (v := z_119) (lv' := [(2, .int z_119), (3, .ref el_85), (0, .ref r0), (1, .ref nv_8)]) hx hb dX14_nextDocument_69 hl (k := 3) rfl (by rw [ez_119]; rfl) (by decide) rfl (fun ls hl => ?_)
                have hz_119 : z_119.toInt = v2_7.toInt + 1 := by rw [ez_119]; exact jb_iadd2 (rfl) (by decide) (by omega)
                refine lv_goto (tgt := 4) hx hb dX14_nextDocument_72 (by decide) ?_
                exact L4 (some nv_8) z_119 _ _ (hh_87.sub (L1 := [(r0, 16, 61, .ref ycs_4), (r0, 16, 62, .ref ycl_4), (r0, 16, 60, .ref yco_4), (r0, 16, 41, .ref yfd_1), (r0, 16, 42, .int dc)]) [5, 6, 7, 8, 9] rfl (M1 := [(ycs_4, 207, 2, ca 1, cs), (ycl_4, 115, 2, ca 1, cl)]) [3, 4] rfl (I1 := [([(208, 0)], jQc dC dI (ca 4) yco_4 2 co), ([(201, 0)], jQc dC dI (ca 4) yfd_1 3 fd), (jFxd, jXD dC dI ca G0 none fq), (jFHw, jHw dC dI ca G0 r0 WW)]) [0, 1, 2, 3] rfl) (Or.inr ⟨_, rfl, hg_nv_8, hp_nv_8⟩) (by refine ⟨by omega, by omega, ?_⟩; rw [show (dc.toInt - (z_119).toInt).toNat = (dc.toInt - v2_7.toInt).toNat - 1 by omega]; exact (jwN_n (by omega) (Or.inr (Or.inl (n4.mpr (heo_90.symm.trans c_118.symm)))) (by omega)).trans hi_7_2) (by omega) _ (lv_sub hl [2, 3, 0] rfl)
              · skip
                refine lv_aload_n hx hb dX14_nextDocument_40 rfl (lv_at hl 0 rfl) ?_
                refine lv_aload_n hx hb dX14_nextDocument_41 rfl (lv_at hl 1 rfl) ?_
                refine j7_read hx hb hown hK (C := RX14) (T := TX14) (N := 74) rfl hly_16_60 hlk_129 (hh_87.at 7 rfl) dX14_nextDocument_42 ?_
                refine lv_iconst (v := 1) hx hb dX14_nextDocument_45 (by decide) ?_
                refine j7_qaldI hx hb hK2 hh_87 hB208 0 rfl (by decide) hgco_4 (x := 1) ((by decide)) (by omega) (hh_87.iv 0 rfl) dX14_nextDocument_46 (fun o_120 ho_120 heo_120 => ?_)
                rcases ho_120 with rfl | ⟨el_121, rfl, hg_el_121⟩
                · simp only [va_rf]
                  refine lv_acmp_ne (rx := (some el_85)) (ry := none) (tgt := 53) hx hb dX14_nextDocument_47 (by decide) (fun c_122 => ?_) (fun c_122 => ?_)
                  · skip
                    refine lv_aload_n hx hb dX14_nextDocument_53 rfl (lv_at hl 1 rfl) ?_
                    refine lv_aload_n hx hb dX14_nextDocument_54 rfl (lv_at hl 0 rfl) ?_
                    refine va_calli (A0 := jA base) (H0 := s.heap) (va_runV (As := [.ref el_85]) (rest := []) ⟨hx, hb, hml, hown, hts⟩ (uX14_isWaitedForT l dC dI ca base B hB hAp hB14 hB16 hB202 G0 H_7 r0 el_85 WW) (cwV 1 hts (jgV (jWr_90 _ (List.mem_of_getElem? (i := 0) rfl)) (jWr_90 _ (List.mem_of_getElem? (i := 1) rfl)) (jWr_90 _ (List.mem_of_getElem? (i := 2) rfl)) (jWr_1 _ (List.mem_of_getElem? (i := 5) rfl)) (jWr_90 _ (List.mem_of_getElem? (i := 3) rfl))) rfl rfl rfl (by decide +kernel) ⟨by rw [← hR]; exact Nat.le_of_ble_eq_true rfl, by rw [← hR]; exact Nat.le_of_ble_eq_true rfl⟩) ⟨fun a U g mk q => by obtain ⟨q0, q1, q2, qK, q10, q11, q12, q13, q14, q15⟩ := q; exact ⟨q0, q1, q2, jG.calling g mk a qK, (va_K.moved (Vm.Alike.refl U.vm) q10), q11, q12, q13, q14, q15⟩, hh_87.recv (C := RX14) (T := TX14) (N := 74) hB16 rfl (by decide) hg_r0 hK, fun U hU hW => ⟨rfl, hU, hh_87.2.1, hG.step hW hU hh_87.1, va_K.moved hW.alike hK2, hg_el_85, hg_r0, jP.nil, (hh_87.2.2.2.2.2.2.2.2.sub (L1 := [(jFHw, jHw dC dI ca G0 r0 WW)]) [3] rfl), trivial⟩⟩ rfl rfl hl.1 rfl (lv_room (Nat.le_of_ble_eq_true rfl)) dX14_nextDocument_55 ⟨Nat.zero_le _, Nat.zero_le _⟩) hh_87.1 (fun q _ h => h) (fun q h => h) (fun r_124 u_123 t_123 H_123 locs_123 ht_123 hvm_123 hr_124 hb_123 hz_123 hk_123 hS_123 => ?_)
                    rw [ht_123] at hb_123
                    obtain ⟨hb_123, hbE_123⟩ := hb_123
                    obtain ⟨hb_1231, hb_1232, hb_1233, hb_1234, hb_1235⟩ := hb_123
                    have hh_123 : jSt (dC, dI) B base G0 G0 EX14_nextDocumentT s.heap 0 0 [(el_85, 14, 6, .ref ysb_86), (el_85, 14, 7, .ref yse_86), (el_85, 14, 8, .ref ysf_86), (el_85, 14, 5, .int (fq.sn el_85)), (el_85, 14, 9, .int (fq.ck el_85)), (r0, 16, 61, .ref ycs_4), (r0, 16, 62, .ref ycl_4), (r0, 16, 60, .ref yco_4), (r0, 16, 41, .ref yfd_1), (r0, 16, 42, .int dc)] [(ysb_86, 190, 40, ca 1, (fq.sb el_85)), (yse_86, 191, 40, ca 1, (fq.se el_85)), (ysf_86, 192, 40, ca 1, (fq.sf el_85)), (ycs_4, 207, 2, ca 1, cs), (ycl_4, 115, 2, ca 1, cl)] [(jFHw, jHw dC dI ca G0 r0 WW), ([(208, 0)], jQc dC dI (ca 4) yco_4 2 co), ([(201, 0)], jQc dC dI (ca 4) yfd_1 3 fd), (jFxd, jXD dC dI ca G0 none fq)] H_123 locs_123 := (((hh_87.call hb_1231 hb_1232 hb_1233 hb_1234 hS_123 rfl (L1 := [(el_85, 14, 6, .ref ysb_86), (el_85, 14, 7, .ref yse_86), (el_85, 14, 8, .ref ysf_86), (el_85, 14, 5, .int (fq.sn el_85)), (el_85, 14, 9, .int (fq.ck el_85)), (r0, 16, 61, .ref ycs_4), (r0, 16, 62, .ref ycl_4), (r0, 16, 60, .ref yco_4), (r0, 16, 41, .ref yfd_1), (r0, 16, 42, .int dc)]) [0, 1, 2, 3, 4, 5, 6, 7, 8, 9] rfl rfl (M1 := [(ysb_86, 190, 40, ca 1, (fq.sb el_85)), (yse_86, 191, 40, ca 1, (fq.se el_85)), (ysf_86, 192, 40, ca 1, (fq.sf el_85)), (ycs_4, 207, 2, ca 1, cs), (ycl_4, 115, 2, ca 1, cl)]) [0, 1, 2, 3, 4] rfl rfl (I1 := [([(208, 0)], jQc dC dI (ca 4) yco_4 2 co), ([(201, 0)], jQc dC dI (ca 4) yfd_1 3 fd), (jFxd, jXD dC dI ca G0 none fq)]) [0, 1, 2] rfl rfl).more hb_1235)).addIs hbE_123
                    clear hh_87 ht_123 hvm_123 hz_123 hk_123 hS_123 hb_1231 hb_1232 hb_1233 hb_1234 hb_1235
                    clear  hbE_123
                    obtain ⟨hr_124b, hr_124p⟩ := hr_124
                    have hs55 := hr_124p
                    have hr_124' := jb_01 hr_124b
                    refine lv_if_eq (tgt := 63) hx hb dX14_nextDocument_58 (by decide) (fun c_125 => ?_) (fun c_125 => ?_)
                    · skip
                      have c_125' : r_124.toInt = 0 := jb_eq (rfl) ((by decide)) c_125
                      first | (have hr_124pq := hr_124p.resolve_left (by omega); clear hr_124p) | (have hr_124pq := hr_124p.resolve_right (by omega); clear hr_124p) | try clear hr_124p
                      refine lv_aload_n hx hb dX14_nextDocument_63 rfl (lv_at hl 2 rfl) ?_
                      refine lv_ifnonnull (tgt := 69) hx hb dX14_nextDocument_64 (by decide) ?_
                      obtain ⟨z_126, ez_126⟩ : ∃ y : Int32, y = v2_7 + 1 := ⟨_, rfl⟩
                      refine lv_iinc (v := z_126) (lv' := [(2, .int z_126), (3, .ref el_85), (0, .ref r0), (1, .ref nv_8)]) hx hb dX14_nextDocument_69 hl (k := 3) rfl (by rw [ez_126]; rfl) (by decide) rfl (fun ls hl => ?_)
                      have hz_126 : z_126.toInt = v2_7.toInt + 1 := by rw [ez_126]; exact jb_iadd2 (rfl) (by decide) (by omega)
                      refine lv_goto (tgt := 4) hx hb dX14_nextDocument_72 (by decide) ?_
                      exact L4 (some nv_8) z_126 _ _ (hh_123.sub (L1 := [(r0, 16, 61, .ref ycs_4), (r0, 16, 62, .ref ycl_4), (r0, 16, 60, .ref yco_4), (r0, 16, 41, .ref yfd_1), (r0, 16, 42, .int dc)]) [5, 6, 7, 8, 9] rfl (M1 := [(ycs_4, 207, 2, ca 1, cs), (ycl_4, 115, 2, ca 1, cl)]) [3, 4] rfl (I1 := [([(208, 0)], jQc dC dI (ca 4) yco_4 2 co), ([(201, 0)], jQc dC dI (ca 4) yfd_1 3 fd), (jFxd, jXD dC dI ca G0 none fq), (jFHw, jHw dC dI ca G0 r0 WW)]) [1, 2, 3, 0] rfl) (Or.inr ⟨_, rfl, hg_nv_8, hp_nv_8⟩) (by refine ⟨by omega, by omega, ?_⟩; rw [show (dc.toInt - (z_126).toInt).toNat = (dc.toInt - v2_7.toInt).toNat - 1 by omega]; exact (jwN_f (by omega) (by omega) (fun e => c_118 ((n4.mp e).symm.trans heo_90.symm)) (fun e => c_122 ((n5.mp e).symm.trans heo_120.symm)) (fun e => (hs55.resolve_left (fun q => by omega)).2 (n6.mp e)) (by omega) (by obtain ⟨d9, k1, k2, k3⟩ := hp_nv_8; exact (if_neg (by show ¬ jrNu fd _ < 0; rw [hp0.nu k2 k3]; omega)).symm)).trans hi_7_2) (by omega) _ (lv_sub hl [2, 3, 0] rfl)
                    · skip
                      have c_125' : r_124.toInt ≠ 0 := jb_eq_n (rfl) ((by decide)) c_125
                      first | (have hr_124pq := hr_124p.resolve_left (by omega); clear hr_124p) | (have hr_124pq := hr_124p.resolve_right (by omega); clear hr_124p) | try clear hr_124p
                      refine lv_aload_n hx hb dX14_nextDocument_61 rfl (lv_at hl 0 rfl) ?_
                      have hHf_127 : jHd dC dI ca G0 r0 fd dc H_123 := ⟨yfd_1, ⟨_, hg_r0⟩, hgfd_1, hh_123.2.2.1.sub (L1 := [(r0, 16, 41, .ref yfd_1), (r0, 16, 42, .int dc)]) [8, 9] rfl, hh_123.2.2.2.2.2.2.2.1.sub (L1 := []) [] rfl, hh_123.iv 2 rfl, trivial⟩
                      have hh_128 := hh_123.sub (L1 := [(el_85, 14, 6, .ref ysb_86), (el_85, 14, 7, .ref yse_86), (el_85, 14, 8, .ref ysf_86), (el_85, 14, 5, .int (fq.sn el_85)), (el_85, 14, 9, .int (fq.ck el_85)), (r0, 16, 61, .ref ycs_4), (r0, 16, 62, .ref ycl_4), (r0, 16, 60, .ref yco_4), (r0, 16, 41, .ref yfd_1), (r0, 16, 42, .int dc)]) [0, 1, 2, 3, 4, 5, 6, 7, 8, 9] rfl (M1 := [(ysb_86, 190, 40, ca 1, (fq.sb el_85)), (yse_86, 191, 40, ca 1, (fq.se el_85)), (ysf_86, 192, 40, ca 1, (fq.sf el_85)), (ycs_4, 207, 2, ca 1, cs), (ycl_4, 115, 2, ca 1, cl)]) [0, 1, 2, 3, 4] rfl (I1 := [(jFHw, jHw dC dI ca G0 r0 WW), ([(208, 0)], jQc dC dI (ca 4) yco_4 2 co), (jFxd, jXD dC dI ca G0 none fq)]) [0, 1, 3] rfl
                      clear hh_123
                      have hh_129 := hh_128.addI (jHd.ie hHf_127)
                      clear hh_128
                      have hHf_130 : jHc dC dI ca G0 r0 co cs cl H_123 := ⟨ycs_4, ycl_4, yco_4, ⟨_, hg_r0⟩, ⟨hgcs_4, hgcl_4, hgco_4⟩, hh_129.2.2.1.sub (L1 := [(r0, 16, 61, .ref ycs_4), (r0, 16, 62, .ref ycl_4), (r0, 16, 60, .ref yco_4)]) [5, 6, 7] rfl, hh_129.2.2.2.2.2.2.2.1.sub (L1 := [(ycs_4, 207, 2, ca 1, cs), (ycl_4, 115, 2, ca 1, cl)]) [3, 4] rfl, hh_129.iv 2 rfl, trivial⟩
                      have hh_131 := hh_129.sub (L1 := [(el_85, 14, 6, .ref ysb_86), (el_85, 14, 7, .ref yse_86), (el_85, 14, 8, .ref ysf_86), (el_85, 14, 5, .int (fq.sn el_85)), (el_85, 14, 9, .int (fq.ck el_85)), (r0, 16, 61, .ref ycs_4), (r0, 16, 62, .ref ycl_4), (r0, 16, 60, .ref yco_4), (r0, 16, 41, .ref yfd_1), (r0, 16, 42, .int dc)]) [0, 1, 2, 3, 4, 5, 6, 7, 8, 9] rfl (M1 := [(ysb_86, 190, 40, ca 1, (fq.sb el_85)), (yse_86, 191, 40, ca 1, (fq.se el_85)), (ysf_86, 192, 40, ca 1, (fq.sf el_85)), (ycs_4, 207, 2, ca 1, cs), (ycl_4, 115, 2, ca 1, cl)]) [0, 1, 2, 3, 4] rfl (I1 := [(jFHd, jHd dC dI ca G0 r0 fd dc), (jFHw, jHw dC dI ca G0 r0 WW), (jFxd, jXD dC dI ca G0 none fq)]) [0, 1, 3] rfl
                      clear hh_129
                      have hh_132 := hh_131.addI (jHc.ie hHf_130)
                      clear hh_131
                      rw [hQ]
                      exact W.aret (v := .ref el_85) hx hb hr (Or.inl ⟨_, rfl⟩) (Or.inr ⟨_, rfl⟩) (fun t ht hW => ⟨⟨.ref el_85, (), rfl, ⟨Or.inr ⟨_, rfl, hg_el_85⟩, by rw [← hi_7_2, jwN_y (by omega) (by omega) (fun e => c_118 ((n4.mp e).symm.trans heo_90.symm)) (fun e => c_122 ((n5.mp e).symm.trans heo_120.symm)) (n6.mpr (hs55.resolve_right (fun q => by omega)).2)]; exact jdRr.of (by omega) heo_84⟩, ⟨hh_132.rt (M1 := []) [] rfl ht, by rw [ht]; exact hh_132.2.2.2.2.2.2.2.2.sub (L1 := [(jFxd, jXD dC dI ca G0 none fq), (jFHd, jHd dC dI ca G0 r0 fd dc), (jFHc, jHc dC dI ca G0 r0 co cs cl), (jFHw, jHw dC dI ca G0 r0 WW)]) [3, 1, 0, 2] rfl⟩⟩, by rw [ht]; try exact hh_132.1.1, fun q h9 hq => by rw [ht]; try exact hh_132.1.2.1 q h9 hq⟩) hh_132.1.2.2 dX14_nextDocument_62
                  · skip
                    cases c_122
                · simp only [va_rf]
                  refine lv_acmp_ne (rx := (some el_85)) (ry := (some el_121)) (tgt := 53) hx hb dX14_nextDocument_47 (by decide) (fun c_133 => ?_) (fun c_133 => ?_)
                  · skip
                    refine lv_aload_n hx hb dX14_nextDocument_53 rfl (lv_at hl 1 rfl) ?_
                    refine lv_aload_n hx hb dX14_nextDocument_54 rfl (lv_at hl 0 rfl) ?_
                    refine va_calli (A0 := jA base) (H0 := s.heap) (va_runV (As := [.ref el_85]) (rest := []) ⟨hx, hb, hml, hown, hts⟩ (uX14_isWaitedForT l dC dI ca base B hB hAp hB14 hB16 hB202 G0 H_7 r0 el_85 WW) (cwV 1 hts (jgV (jWr_90 _ (List.mem_of_getElem? (i := 0) rfl)) (jWr_90 _ (List.mem_of_getElem? (i := 1) rfl)) (jWr_90 _ (List.mem_of_getElem? (i := 2) rfl)) (jWr_1 _ (List.mem_of_getElem? (i := 5) rfl)) (jWr_90 _ (List.mem_of_getElem? (i := 3) rfl))) rfl rfl rfl (by decide +kernel) ⟨by rw [← hR]; exact Nat.le_of_ble_eq_true rfl, by rw [← hR]; exact Nat.le_of_ble_eq_true rfl⟩) ⟨fun a U g mk q => by obtain ⟨q0, q1, q2, qK, q10, q11, q12, q13, q14, q15⟩ := q; exact ⟨q0, q1, q2, jG.calling g mk a qK, (va_K.moved (Vm.Alike.refl U.vm) q10), q11, q12, q13, q14, q15⟩, hh_87.recv (C := RX14) (T := TX14) (N := 74) hB16 rfl (by decide) hg_r0 hK, fun U hU hW => ⟨rfl, hU, hh_87.2.1, hG.step hW hU hh_87.1, va_K.moved hW.alike hK2, hg_el_85, hg_r0, jP.nil, (hh_87.2.2.2.2.2.2.2.2.sub (L1 := [(jFHw, jHw dC dI ca G0 r0 WW)]) [3] rfl), trivial⟩⟩ rfl rfl hl.1 rfl (lv_room (Nat.le_of_ble_eq_true rfl)) dX14_nextDocument_55 ⟨Nat.zero_le _, Nat.zero_le _⟩) hh_87.1 (fun q _ h => h) (fun q h => h) (fun r_135 u_134 t_134 H_134 locs_134 ht_134 hvm_134 hr_135 hb_134 hz_134 hk_134 hS_134 => ?_)
                    rw [ht_134] at hb_134
                    obtain ⟨hb_134, hbE_134⟩ := hb_134
                    obtain ⟨hb_1341, hb_1342, hb_1343, hb_1344, hb_1345⟩ := hb_134
                    have hh_134 : jSt (dC, dI) B base G0 G0 EX14_nextDocumentT s.heap 0 0 [(el_85, 14, 6, .ref ysb_86), (el_85, 14, 7, .ref yse_86), (el_85, 14, 8, .ref ysf_86), (el_85, 14, 5, .int (fq.sn el_85)), (el_85, 14, 9, .int (fq.ck el_85)), (r0, 16, 61, .ref ycs_4), (r0, 16, 62, .ref ycl_4), (r0, 16, 60, .ref yco_4), (r0, 16, 41, .ref yfd_1), (r0, 16, 42, .int dc)] [(ysb_86, 190, 40, ca 1, (fq.sb el_85)), (yse_86, 191, 40, ca 1, (fq.se el_85)), (ysf_86, 192, 40, ca 1, (fq.sf el_85)), (ycs_4, 207, 2, ca 1, cs), (ycl_4, 115, 2, ca 1, cl)] [(jFHw, jHw dC dI ca G0 r0 WW), ([(208, 0)], jQc dC dI (ca 4) yco_4 2 co), ([(201, 0)], jQc dC dI (ca 4) yfd_1 3 fd), (jFxd, jXD dC dI ca G0 none fq)] H_134 locs_134 := (((hh_87.call hb_1341 hb_1342 hb_1343 hb_1344 hS_134 rfl (L1 := [(el_85, 14, 6, .ref ysb_86), (el_85, 14, 7, .ref yse_86), (el_85, 14, 8, .ref ysf_86), (el_85, 14, 5, .int (fq.sn el_85)), (el_85, 14, 9, .int (fq.ck el_85)), (r0, 16, 61, .ref ycs_4), (r0, 16, 62, .ref ycl_4), (r0, 16, 60, .ref yco_4), (r0, 16, 41, .ref yfd_1), (r0, 16, 42, .int dc)]) [0, 1, 2, 3, 4, 5, 6, 7, 8, 9] rfl rfl (M1 := [(ysb_86, 190, 40, ca 1, (fq.sb el_85)), (yse_86, 191, 40, ca 1, (fq.se el_85)), (ysf_86, 192, 40, ca 1, (fq.sf el_85)), (ycs_4, 207, 2, ca 1, cs), (ycl_4, 115, 2, ca 1, cl)]) [0, 1, 2, 3, 4] rfl rfl (I1 := [([(208, 0)], jQc dC dI (ca 4) yco_4 2 co), ([(201, 0)], jQc dC dI (ca 4) yfd_1 3 fd), (jFxd, jXD dC dI ca G0 none fq)]) [0, 1, 2] rfl rfl).more hb_1345)).addIs hbE_134
                    clear hh_87 ht_134 hvm_134 hz_134 hk_134 hS_134 hb_1341 hb_1342 hb_1343 hb_1344 hb_1345
                    clear  hbE_134
                    obtain ⟨hr_135b, hr_135p⟩ := hr_135
                    have hs55 := hr_135p
                    have hr_135' := jb_01 hr_135b
                    refine lv_if_eq (tgt := 63) hx hb dX14_nextDocument_58 (by decide) (fun c_136 => ?_) (fun c_136 => ?_)
                    · skip
                      have c_136' : r_135.toInt = 0 := jb_eq (rfl) ((by decide)) c_136
                      first | (have hr_135pq := hr_135p.resolve_left (by omega); clear hr_135p) | (have hr_135pq := hr_135p.resolve_right (by omega); clear hr_135p) | try clear hr_135p
                      refine lv_aload_n hx hb dX14_nextDocument_63 rfl (lv_at hl 2 rfl) ?_
                      refine lv_ifnonnull (tgt := 69) hx hb dX14_nextDocument_64 (by decide) ?_
                      obtain ⟨z_137, ez_137⟩ : ∃ y : Int32, y = v2_7 + 1 := ⟨_, rfl⟩
                      refine lv_iinc (v := z_137) (lv' := [(2, .int z_137), (3, .ref el_85), (0, .ref r0), (1, .ref nv_8)]) hx hb dX14_nextDocument_69 hl (k := 3) rfl (by rw [ez_137]; rfl) (by decide) rfl (fun ls hl => ?_)
                      have hz_137 : z_137.toInt = v2_7.toInt + 1 := by rw [ez_137]; exact jb_iadd2 (rfl) (by decide) (by omega)
                      refine lv_goto (tgt := 4) hx hb dX14_nextDocument_72 (by decide) ?_
                      exact L4 (some nv_8) z_137 _ _ (hh_134.sub (L1 := [(r0, 16, 61, .ref ycs_4), (r0, 16, 62, .ref ycl_4), (r0, 16, 60, .ref yco_4), (r0, 16, 41, .ref yfd_1), (r0, 16, 42, .int dc)]) [5, 6, 7, 8, 9] rfl (M1 := [(ycs_4, 207, 2, ca 1, cs), (ycl_4, 115, 2, ca 1, cl)]) [3, 4] rfl (I1 := [([(208, 0)], jQc dC dI (ca 4) yco_4 2 co), ([(201, 0)], jQc dC dI (ca 4) yfd_1 3 fd), (jFxd, jXD dC dI ca G0 none fq), (jFHw, jHw dC dI ca G0 r0 WW)]) [1, 2, 3, 0] rfl) (Or.inr ⟨_, rfl, hg_nv_8, hp_nv_8⟩) (by refine ⟨by omega, by omega, ?_⟩; rw [show (dc.toInt - (z_137).toInt).toNat = (dc.toInt - v2_7.toInt).toNat - 1 by omega]; exact (jwN_f (by omega) (by omega) (fun e => c_118 ((n4.mp e).symm.trans heo_90.symm)) (fun e => c_133 ((n5.mp e).symm.trans heo_120.symm)) (fun e => (hs55.resolve_left (fun q => by omega)).2 (n6.mp e)) (by omega) (by obtain ⟨d9, k1, k2, k3⟩ := hp_nv_8; exact (if_neg (by show ¬ jrNu fd _ < 0; rw [hp0.nu k2 k3]; omega)).symm)).trans hi_7_2) (by omega) _ (lv_sub hl [2, 3, 0] rfl)
                    · skip
                      have c_136' : r_135.toInt ≠ 0 := jb_eq_n (rfl) ((by decide)) c_136
                      first | (have hr_135pq := hr_135p.resolve_left (by omega); clear hr_135p) | (have hr_135pq := hr_135p.resolve_right (by omega); clear hr_135p) | try clear hr_135p
                      refine lv_aload_n hx hb dX14_nextDocument_61 rfl (lv_at hl 0 rfl) ?_
                      have hHf_138 : jHd dC dI ca G0 r0 fd dc H_134 := ⟨yfd_1, ⟨_, hg_r0⟩, hgfd_1, hh_134.2.2.1.sub (L1 := [(r0, 16, 41, .ref yfd_1), (r0, 16, 42, .int dc)]) [8, 9] rfl, hh_134.2.2.2.2.2.2.2.1.sub (L1 := []) [] rfl, hh_134.iv 2 rfl, trivial⟩
                      have hh_139 := hh_134.sub (L1 := [(el_85, 14, 6, .ref ysb_86), (el_85, 14, 7, .ref yse_86), (el_85, 14, 8, .ref ysf_86), (el_85, 14, 5, .int (fq.sn el_85)), (el_85, 14, 9, .int (fq.ck el_85)), (r0, 16, 61, .ref ycs_4), (r0, 16, 62, .ref ycl_4), (r0, 16, 60, .ref yco_4), (r0, 16, 41, .ref yfd_1), (r0, 16, 42, .int dc)]) [0, 1, 2, 3, 4, 5, 6, 7, 8, 9] rfl (M1 := [(ysb_86, 190, 40, ca 1, (fq.sb el_85)), (yse_86, 191, 40, ca 1, (fq.se el_85)), (ysf_86, 192, 40, ca 1, (fq.sf el_85)), (ycs_4, 207, 2, ca 1, cs), (ycl_4, 115, 2, ca 1, cl)]) [0, 1, 2, 3, 4] rfl (I1 := [(jFHw, jHw dC dI ca G0 r0 WW), ([(208, 0)], jQc dC dI (ca 4) yco_4 2 co), (jFxd, jXD dC dI ca G0 none fq)]) [0, 1, 3] rfl
                      clear hh_134
                      have hh_140 := hh_139.addI (jHd.ie hHf_138)
                      clear hh_139
                      have hHf_141 : jHc dC dI ca G0 r0 co cs cl H_134 := ⟨ycs_4, ycl_4, yco_4, ⟨_, hg_r0⟩, ⟨hgcs_4, hgcl_4, hgco_4⟩, hh_140.2.2.1.sub (L1 := [(r0, 16, 61, .ref ycs_4), (r0, 16, 62, .ref ycl_4), (r0, 16, 60, .ref yco_4)]) [5, 6, 7] rfl, hh_140.2.2.2.2.2.2.2.1.sub (L1 := [(ycs_4, 207, 2, ca 1, cs), (ycl_4, 115, 2, ca 1, cl)]) [3, 4] rfl, hh_140.iv 2 rfl, trivial⟩
                      have hh_142 := hh_140.sub (L1 := [(el_85, 14, 6, .ref ysb_86), (el_85, 14, 7, .ref yse_86), (el_85, 14, 8, .ref ysf_86), (el_85, 14, 5, .int (fq.sn el_85)), (el_85, 14, 9, .int (fq.ck el_85)), (r0, 16, 61, .ref ycs_4), (r0, 16, 62, .ref ycl_4), (r0, 16, 60, .ref yco_4), (r0, 16, 41, .ref yfd_1), (r0, 16, 42, .int dc)]) [0, 1, 2, 3, 4, 5, 6, 7, 8, 9] rfl (M1 := [(ysb_86, 190, 40, ca 1, (fq.sb el_85)), (yse_86, 191, 40, ca 1, (fq.se el_85)), (ysf_86, 192, 40, ca 1, (fq.sf el_85)), (ycs_4, 207, 2, ca 1, cs), (ycl_4, 115, 2, ca 1, cl)]) [0, 1, 2, 3, 4] rfl (I1 := [(jFHd, jHd dC dI ca G0 r0 fd dc), (jFHw, jHw dC dI ca G0 r0 WW), (jFxd, jXD dC dI ca G0 none fq)]) [0, 1, 3] rfl
                      clear hh_140
                      have hh_143 := hh_142.addI (jHc.ie hHf_141)
                      clear hh_142
                      rw [hQ]
                      exact W.aret (v := .ref el_85) hx hb hr (Or.inl ⟨_, rfl⟩) (Or.inr ⟨_, rfl⟩) (fun t ht hW => ⟨⟨.ref el_85, (), rfl, ⟨Or.inr ⟨_, rfl, hg_el_85⟩, by rw [← hi_7_2, jwN_y (by omega) (by omega) (fun e => c_118 ((n4.mp e).symm.trans heo_90.symm)) (fun e => c_133 ((n5.mp e).symm.trans heo_120.symm)) (n6.mpr (hs55.resolve_right (fun q => by omega)).2)]; exact jdRr.of (by omega) heo_84⟩, ⟨hh_143.rt (M1 := []) [] rfl ht, by rw [ht]; exact hh_143.2.2.2.2.2.2.2.2.sub (L1 := [(jFxd, jXD dC dI ca G0 none fq), (jFHd, jHd dC dI ca G0 r0 fd dc), (jFHc, jHc dC dI ca G0 r0 co cs cl), (jFHw, jHw dC dI ca G0 r0 WW)]) [3, 1, 0, 2] rfl⟩⟩, by rw [ht]; try exact hh_143.1.1, fun q h9 hq => by rw [ht]; try exact hh_143.1.2.1 q h9 hq⟩) hh_143.1.2.2 dX14_nextDocument_62
                  · skip
                    refine lv_goto (tgt := 69) hx hb dX14_nextDocument_50 (by decide) ?_
                    obtain ⟨z_144, ez_144⟩ : ∃ y : Int32, y = v2_7 + 1 := ⟨_, rfl⟩
                    refine lv_iinc (v := z_144) (lv' := [(2, .int z_144), (3, .ref el_85), (0, .ref r0), (1, .ref nv_8)]) hx hb dX14_nextDocument_69 hl (k := 3) rfl (by rw [ez_144]; rfl) (by decide) rfl (fun ls hl => ?_)
                    have hz_144 : z_144.toInt = v2_7.toInt + 1 := by rw [ez_144]; exact jb_iadd2 (rfl) (by decide) (by omega)
                    refine lv_goto (tgt := 4) hx hb dX14_nextDocument_72 (by decide) ?_
                    exact L4 (some nv_8) z_144 _ _ (hh_87.sub (L1 := [(r0, 16, 61, .ref ycs_4), (r0, 16, 62, .ref ycl_4), (r0, 16, 60, .ref yco_4), (r0, 16, 41, .ref yfd_1), (r0, 16, 42, .int dc)]) [5, 6, 7, 8, 9] rfl (M1 := [(ycs_4, 207, 2, ca 1, cs), (ycl_4, 115, 2, ca 1, cl)]) [3, 4] rfl (I1 := [([(208, 0)], jQc dC dI (ca 4) yco_4 2 co), ([(201, 0)], jQc dC dI (ca 4) yfd_1 3 fd), (jFxd, jXD dC dI ca G0 none fq), (jFHw, jHw dC dI ca G0 r0 WW)]) [0, 1, 2, 3] rfl) (Or.inr ⟨_, rfl, hg_nv_8, hp_nv_8⟩) (by refine ⟨by omega, by omega, ?_⟩; rw [show (dc.toInt - (z_144).toInt).toNat = (dc.toInt - v2_7.toInt).toNat - 1 by omega]; exact (jwN_n (by omega) (Or.inr (Or.inr (n5.mpr (heo_120.symm.trans c_133.symm)))) (by omega)).trans hi_7_2) (by omega) _ (lv_sub hl [2, 3, 0] rfl)
  exact L4 (dc.toInt - (0 : Int32).toInt : Int).toNat.succ none 0 _ _ hh_6 (Or.inl rfl) (by refine ⟨by omega, by omega, ?_⟩; rw [hk0, Int.sub_zero]; show _ = jwN S9 Z9 S9.1.toNat 0 (-1); rw [hp0.n]; rfl) (by omega) _ (lv_sub hl [2, 1, 0] rfl)
end
