section
def EX14_nextDocumentK : List (Nat × Nat) := []
set_option maxHeartbeats 4000000 in
set_option maxRecDepth 20000 in
theorem uX14_nextDocumentK (l : Launch) (dC : Nat → ClassId) (dI : Nat → Nat → Nat) (ca : Nat → ClassId) (base : Nat) (B : jF) (hB : jBok B) (hAp : jAp (dC, dI)) (hB14 : ∀ n G a H, B 14 n G a H ↔ jOb (dC, dI) 14 11 (F14 n G) a H) (hB16 : ∀ n G a H, B 16 n G a H ↔ jOb (dC, dI) 16 74 (F16 n G) a H) (hB201 : ∀ n G a H, B 201 n G a H ↔ jAq (dC, dI) (ca 4) (jQs 14 0) n G a H) (hB202 : ∀ n G a H, B 202 n G a H ↔ jAq (dC, dI) (ca 4) (jQn 14 0) n G a H) (hB208 : ∀ n G a H, B 208 n G a H ↔ jAq (dC, dI) (ca 4) (jQn 14 0) n G a H) (G0 : jT) (H0 : Heap) (r0 : Nat) (dd : Nat) (dc : Int32) (co : Nat) (cs : Nat) (ol : Nat) (nw : Nat) (td : Nat) (sn ck : Nat → Int32) (fd fo : Nat → Option Nat) (fs : Nat → Int32) : Met l yX14_nextDocument (jw yX14_nextDocument cX14_nextDocument 4 (some (.object "ProofServerModel$Document"))) ({ frames := 1, cells := 0, slots := 0, locals := 22 }) (va_Pc [.ref r0] (fun U => U.heap = H0 ∧ jX B base G0 [] H0 ∧ jG dC dI ca base U ∧ jK2 dC dI ca U ∧ G0 r0 = some (16, 0) ∧ G0 dd = some (201, 3) ∧ G0 co = some (208, 2) ∧ G0 cs = some (207, 2) ∧ G0 ol = some (14, 0) ∧ G0 nw = some (14, 0) ∧ G0 td = some (14, 0) ∧ jP (dC, dI) G0 H0 [(r0, 16, 41, .ref dd), (r0, 16, 42, .int dc), (r0, 16, 60, .ref co), (r0, 16, 61, .ref cs), (r0, 16, 46, .ref ol), (r0, 16, 47, .ref nw), (r0, 16, 71, .ref td)] ∧ jMc (dC, dI) G0 H0 [(cs, 207, 2, ca 1, fs)] ∧ jIs (dC, dI) G0 H0 [(jFs, jDY dC dI ca G0 none sn), (jF9, jVl dC dI G0 9 ck), ([(201, 0)], jQc dC dI (ca 4) dd 3 fd), ([(208, 0)], jQc dC dI (ca 4) co 2 fo)] ∧ jPu sn ck fd fo fs dc.toInt ol nw td)) (jQx (S := Unit) (fun v u => jRp G0 14 0 (fun x => ∃ d : Nat, d < 3 ∧ (d : Int) < dc.toInt ∧ fd d = some x ∧ (ck x).toInt ≠ (sn x).toInt) v) (fun u t => jRt (dC, dI) B base G0 EX14_nextDocumentK H0 [] t.heap) (jA base)) 0 0 (jA base) := by
  refine Met.ofW (cc := cX14_nextDocument) (maxL := 4) (ret := (some (.object "ProofServerModel$Document"))) (by decide) rfl ?_
  intro p e s m args below meth c s₁ Bd hml hv
  obtain ⟨rfl, hH0, hX, hG, hK2, hg_r0, hg_dd, hg_co, hg_cs, hg_ol, hg_nw, hg_td, hP0, hM0, hI0, hp0⟩ := hv
  have hK := hG.1
  have hx := Bd.exec
  have hb := Bd.bytes
  have hr := Bd.returns
  have hts := atoms_spec (ws := (jw yX14_nextDocument cX14_nextDocument 4 (some (.object "ProofServerModel$Document")))) Bd.pre
  have htw : ∀ w ∈ jWl, w.before _ s = true := fun w h => hts w (List.mem_cons_of_mem _ h)
  have hown : s.vm.findClass RX14 = some m.cls := findClass_of_methodNamed Bd.named
  have hlocks := Bd.notSynchronized
  obtain ⟨Q, hQ⟩ : ∃ Q, Q = MQ below (jQx (S := Unit) (fun v u => jRp G0 14 0 (fun x => ∃ d : Nat, d < 3 ∧ (d : Int) < dc.toInt ∧ fd d = some x ∧ (ck x).toInt ≠ (sn x).toInt) v) (fun u t => jRt (dC, dI) B base G0 EX14_nextDocumentK H0 [] t.heap) (jA base)) ([.ref r0] : List Value).toArray s 0 0 (jA base) := ⟨_, rfl⟩
  rw [← hQ]
  have hl := lv_entry ([.ref r0]) (n := 4) (Nat.le_of_ble_eq_true rfl)
  rw [lg_entry_eq]
  generalize (lg_sl ([.ref r0]) ++ List.replicate (4 - (lg_sl ([.ref r0])).length) Slot.unset).toArray = ls at hl ⊢
  have hl : lv_has ls 4 [(0, .ref r0)] := hl
  generalize hR : (headSpec (jw yX14_nextDocument cX14_nextDocument 4 (some (.object "ProofServerModel$Document"))) ({ frames := 1, cells := 0, slots := 0, locals := 22 })).room = R
  subst hH0
  have hh : jSt (dC, dI) B base G0 G0 EX14_nextDocumentK s.heap 0 0 [(r0, 16, 41, .ref dd), (r0, 16, 42, .int dc), (r0, 16, 60, .ref co), (r0, 16, 61, .ref cs), (r0, 16, 46, .ref ol), (r0, 16, 47, .ref nw), (r0, 16, 71, .ref td)] [(cs, 207, 2, ca 1, fs)] [(jFs, jDY dC dI ca G0 none sn), (jF9, jVl dC dI G0 9 ck), ([(201, 0)], jQc dC dI (ca 4) dd 3 fd), ([(208, 0)], jQc dC dI (ca 4) co 2 fo)] s.heap [] := jSt.start hX hP0 hM0 hI0
  clear hX hP0
  have hk0 : (0 : Int32).toInt = 0 := by decide
  have hk1 : (1 : Int32).toInt = 1 := by decide
  have hly_14_5 := htw (u_lay RX12 TX12 5) (jWc_wsX120 _ (u_in_lay (by decide)))
  have hly_14_9 := htw (u_lay RX12 TX12 9) (jWc_wsX120 _ (u_in_lay (by decide)))
  have hly_16_41 := htw (u_lay RX14 TX14 41) (jWc_wsX140 _ (u_in_lay (by decide)))
  have hly_16_42 := htw (u_lay RX14 TX14 42) (jWc_wsX140 _ (u_in_lay (by decide)))
  have hly_16_60 := htw (u_lay RX14 TX14 60) (jWc_wsX140 _ (u_in_lay (by decide)))
  have hlk_505 := (htw (.fieldLink RX14 505 "ProofServerModel" "documentCount" "I") (jWr_57 _ (List.mem_of_getElem? (i := 5) rfl)))
  have hlk_74 := (htw (.fieldLink RX14 74 "ProofServerModel" "documents" "[LProofServerModel$Document;") (jWr_11 _ (List.mem_of_getElem? (i := 19) rfl)))
  have hlk_531 := (va_Nw.use (A := ([.ref r0] : List Value).toArray) rfl (hG.2.1 RX14 531 "ProofServerModel$Document" "checked" "I" "ProofServerModel" (List.mem_of_getElem? (i := 1744) (by decide +kernel))))
  have hlk_587 := (va_Nw.use (A := ([.ref r0] : List Value).toArray) rfl (hG.2.1 RX14 587 "ProofServerModel$Document" "sentences" "I" "ProofServerModel" (List.mem_of_getElem? (i := 1737) (by decide +kernel))))
  have hlk_129 := (htw (.fieldLink RX14 129 "ProofServerModel" "checkOf" "[LProofServerModel$Document;") (jWr_12 _ (List.mem_of_getElem? (i := 15) rfl)))
  obtain ⟨sx_1, esx_1, hsx_1⟩ := hh.sat (C := RX14) (T := TX14) (N := 74) hB16 rfl (by decide) hg_r0 (i := 42) (by decide) rfl 1 rfl
  cases esx_1
  refine lv_null hx hb dX14_nextDocument_0 ?_
  refine j7_nst_n (lv' := [(1, .null), (0, .ref r0)]) hx hb dX14_nextDocument_1 rfl hl (by decide) rfl (fun ls hl => ?_)
  refine lv_iconst (v := 0) hx hb dX14_nextDocument_2 (by decide) ?_
  refine lv_istore_n (lv' := [(2, .int 0), (1, .null), (0, .ref r0)]) hx hb dX14_nextDocument_3 rfl hl (by decide) rfl (fun ls hl => ?_)
  have L4 : ∀ (N : Nat) (v1_2 : Option Nat) (v2_2 : Int32) (H_2 : Heap) (locs_2 : List Loc), jSt (dC, dI) B base G0 G0 EX14_nextDocumentK s.heap 0 0 [(r0, 16, 41, .ref dd), (r0, 16, 42, .int dc), (r0, 16, 60, .ref co), (r0, 16, 61, .ref cs), (r0, 16, 46, .ref ol), (r0, 16, 47, .ref nw), (r0, 16, 71, .ref td)] [(cs, 207, 2, ca 1, fs)] [(jFs, jDY dC dI ca G0 none sn), (jF9, jVl dC dI G0 9 ck), ([(201, 0)], jQc dC dI (ca 4) dd 3 fd), ([(208, 0)], jQc dC dI (ca 4) co 2 fo)] H_2 locs_2 → (v1_2 = none ∨ ∃ x, v1_2 = some x ∧ G0 x = some (14, 0) ∧ ∃ d : Nat, d < 3 ∧ (d : Int) < dc.toInt ∧ fd d = some x ∧ (ck x).toInt ≠ (sn x).toInt) → (0 ≤ v2_2.toInt ∧ v2_2.toInt ≤ dc.toInt) → (dc.toInt - v2_2.toInt : Int) < N → ∀ ls : Array Slot, lv_has ls 4 [(0, .ref r0), (1, va_rf v1_2), (2, .int v2_2)] → W p l e R s m ([.ref r0] : List Value).toArray below meth c H_2 locs_2 0 0 Q (F0 m 4 ls []) := by
    intro N
    induction N with
    | zero => intro v1_2 v2_2 H_2 locs_2 hh_2 hq_v1_2 hi_2 hm; exact absurd hm (by omega)
    | succ N L4 =>
      intro v1_2 v2_2 H_2 locs_2 hh_2 hq_v1_2 hi_2 hm_2 ls hl
      obtain ⟨hi_2_0, hi_2_1⟩ := hi_2
      rcases hq_v1_2 with rfl | ⟨nv_3, rfl, hg_nv_3, hp_nv_3⟩
      · have hl : lv_has ls 4 [(0, .ref r0), (1, .null), (2, .int v2_2)] := hl
        refine lv_iload_n hx hb dX14_nextDocument_4 rfl (lv_at hl 2 rfl) ?_
        refine lv_aload_n hx hb dX14_nextDocument_5 rfl (lv_at hl 0 rfl) ?_
        refine j7_read hx hb hown hK (C := RX14) (T := TX14) (N := 74) rfl hly_16_42 hlk_505 (hh_2.at 1 rfl) dX14_nextDocument_6 ?_
        refine lv_icmp_ge (tgt := 75) hx hb dX14_nextDocument_9 (by decide) (fun c_4 => ?_) (fun c_4 => ?_)
        · skip
          have c_4' : v2_2.toInt ≥ dc.toInt := jb_ge (rfl) (rfl) c_4
          refine j7_nld_n hx hb dX14_nextDocument_75 rfl (lv_at hl 1 rfl) ?_
          rw [hQ]
          exact W.aret (v := .null) hx hb hr (Or.inl ⟨_, rfl⟩) (Or.inl rfl) (fun t ht hW => ⟨⟨.null, (), rfl, Or.inl rfl, hh_2.rt (M1 := []) [] rfl ht⟩, by rw [ht]; try exact hh_2.1.1, fun q h9 hq => by rw [ht]; try exact hh_2.1.2.1 q h9 hq⟩) hh_2.1.2.2 dX14_nextDocument_76
        · skip
          have c_4' : v2_2.toInt < dc.toInt := jb_ge_n (rfl) (rfl) c_4
          refine lv_aload_n hx hb dX14_nextDocument_12 rfl (lv_at hl 0 rfl) ?_
          refine j7_read hx hb hown hK (C := RX14) (T := TX14) (N := 74) rfl hly_16_41 hlk_74 (hh_2.at 0 rfl) dX14_nextDocument_13 ?_
          refine lv_iload_n hx hb dX14_nextDocument_16 rfl (lv_at hl 2 rfl) ?_
          refine j7_qaldI hx hb hK2 hh_2 hB201 0 rfl (by decide) hg_dd (x := v2_2.toInt) (rfl) (by omega) (hh_2.iv 2 rfl) dX14_nextDocument_17 (fun o_5 ho_5 heo_5 => ?_)
          obtain ⟨el_6, rfl, hg_el_6⟩ := ho_5
          simp only [va_rf]
          refine lv_astore_n (lv' := [(3, .ref el_6), (0, .ref r0), (1, .null), (2, .int v2_2)]) hx hb dX14_nextDocument_18 rfl hl (by decide) rfl (fun ls hl => ?_)
          obtain ⟨yb_7, ye_7, fb_7, fe_7, hg_yb_7, hg_ye_7, hP_7, hM_7, hs_7, h0_7, h4_7⟩ := jDY.at (hh_2.iv 0 rfl) hg_el_6 (fun q => by cases q)
          have hh_8 := (hh_2.more hP_7).moreM hM_7
          clear hh_2 hP_7 hM_7
          have hh_9 := hh_8.more (jVl.at (hh_8.iv 1 rfl) hg_el_6)
          clear hh_8
          refine lv_aload_n hx hb dX14_nextDocument_19 rfl (lv_at hl 0 rfl) ?_
          refine j7_readN hx hb hown hK (C := RX12) (T := TX12) (N := 11) rfl hly_14_9 hlk_531 (hh_9.at 0 rfl) dX14_nextDocument_20 ?_
          refine lv_aload_n hx hb dX14_nextDocument_23 rfl (lv_at hl 0 rfl) ?_
          refine j7_readN hx hb hown hK (C := RX12) (T := TX12) (N := 11) rfl hly_14_5 hlk_587 (hh_9.at 3 rfl) dX14_nextDocument_24 ?_
          refine lv_icmp_eq (tgt := 69) hx hb dX14_nextDocument_27 (by decide) (fun c_10 => ?_) (fun c_10 => ?_)
          · skip
            have c_10' : (ck el_6).toInt = (sn el_6).toInt := jb_eq (rfl) (rfl) c_10
            obtain ⟨z_11, ez_11⟩ : ∃ y : Int32, y = v2_2 + 1 := ⟨_, rfl⟩
            refine lv_iinc (v := z_11) (lv' := [(2, .int z_11), (3, .ref el_6), (0, .ref r0), (1, .null)]) hx hb dX14_nextDocument_69 hl (k := 3) rfl (by rw [ez_11]; rfl) (by decide) rfl (fun ls hl => ?_)
            have hz_11 : z_11.toInt = v2_2.toInt + 1 := by rw [ez_11]; exact jb_iadd2 (rfl) (by decide) (by omega)
            refine lv_goto (tgt := 4) hx hb dX14_nextDocument_72 (by decide) ?_
            exact L4 none z_11 _ _ (hh_9.sub (L1 := [(r0, 16, 41, .ref dd), (r0, 16, 42, .int dc), (r0, 16, 60, .ref co), (r0, 16, 61, .ref cs), (r0, 16, 46, .ref ol), (r0, 16, 47, .ref nw), (r0, 16, 71, .ref td)]) [4, 5, 6, 7, 8, 9, 10] rfl (M1 := [(cs, 207, 2, ca 1, fs)]) [2] rfl (I1 := [(jFs, jDY dC dI ca G0 none sn), (jF9, jVl dC dI G0 9 ck), ([(201, 0)], jQc dC dI (ca 4) dd 3 fd), ([(208, 0)], jQc dC dI (ca 4) co 2 fo)]) [0, 1, 2, 3] rfl) (Or.inl rfl) (by first | omega | (refine ⟨?_, ?_⟩ <;> (first | omega | rfl | assumption | decide | exact Or.inl rfl | exact Or.inr rfl | (simp only; omega)))) (by omega) _ (lv_sub hl [2, 3, 0] rfl)
          · skip
            have c_10' : (ck el_6).toInt ≠ (sn el_6).toInt := jb_eq_n (rfl) (rfl) c_10
            refine lv_aload_n hx hb dX14_nextDocument_30 rfl (lv_at hl 0 rfl) ?_
            refine lv_aload_n hx hb dX14_nextDocument_31 rfl (lv_at hl 1 rfl) ?_
            refine j7_read hx hb hown hK (C := RX14) (T := TX14) (N := 74) rfl hly_16_60 hlk_129 (hh_9.at 6 rfl) dX14_nextDocument_32 ?_
            refine lv_iconst (v := 0) hx hb dX14_nextDocument_35 (by decide) ?_
            refine j7_qaldI hx hb hK2 hh_9 hB208 0 rfl (by decide) hg_co (x := 0) ((by decide)) (by omega) (hh_9.iv 3 rfl) dX14_nextDocument_36 (fun o_12 ho_12 heo_12 => ?_)
            rcases ho_12 with rfl | ⟨el_13, rfl, hg_el_13⟩
            · simp only [va_rf]
              refine lv_acmp_eq (rx := (some el_6)) (ry := none) (tgt := 69) hx hb dX14_nextDocument_37 (by decide) (fun c_14 => ?_) (fun c_14 => ?_)
              · skip
                cases c_14
              · skip
                refine lv_aload_n hx hb dX14_nextDocument_40 rfl (lv_at hl 0 rfl) ?_
                refine lv_aload_n hx hb dX14_nextDocument_41 rfl (lv_at hl 1 rfl) ?_
                refine j7_read hx hb hown hK (C := RX14) (T := TX14) (N := 74) rfl hly_16_60 hlk_129 (hh_9.at 6 rfl) dX14_nextDocument_42 ?_
                refine lv_iconst (v := 1) hx hb dX14_nextDocument_45 (by decide) ?_
                refine j7_qaldI hx hb hK2 hh_9 hB208 0 rfl (by decide) hg_co (x := 1) ((by decide)) (by omega) (hh_9.iv 3 rfl) dX14_nextDocument_46 (fun o_15 ho_15 heo_15 => ?_)
                rcases ho_15 with rfl | ⟨el_16, rfl, hg_el_16⟩
                · simp only [va_rf]
                  refine lv_acmp_ne (rx := (some el_6)) (ry := none) (tgt := 53) hx hb dX14_nextDocument_47 (by decide) (fun c_17 => ?_) (fun c_17 => ?_)
                  · skip
                    refine lv_aload_n hx hb dX14_nextDocument_53 rfl (lv_at hl 1 rfl) ?_
                    refine lv_aload_n hx hb dX14_nextDocument_54 rfl (lv_at hl 0 rfl) ?_
                    refine va_calli (A0 := jA base) (H0 := s.heap) (va_runV (As := [.ref el_6]) (rest := []) ⟨hx, hb, hml, hown, hts⟩ (uX14_isWaitedFor l dC dI ca base B hB hAp hB14 hB16 hB202 G0 H_2 r0 el_6) (cwV 1 hts (jgV (jWr_90 _ (List.mem_of_getElem? (i := 0) rfl)) (jWr_90 _ (List.mem_of_getElem? (i := 1) rfl)) (jWr_90 _ (List.mem_of_getElem? (i := 2) rfl)) (jWr_1 _ (List.mem_of_getElem? (i := 5) rfl)) (jWr_90 _ (List.mem_of_getElem? (i := 3) rfl))) rfl rfl rfl (by decide +kernel) ⟨by rw [← hR]; exact Nat.le_of_ble_eq_true rfl, by rw [← hR]; exact Nat.le_of_ble_eq_true rfl⟩) ⟨fun a U g mk q => by obtain ⟨q0, q1, q2, qK, q10, q11, q12, q13, q14⟩ := q; exact ⟨q0, q1, q2, jG.calling g mk a qK, (va_K.moved (Vm.Alike.refl U.vm) q10), q11, q12, q13, q14⟩, hh_9.recv (C := RX14) (T := TX14) (N := 74) hB16 rfl (by decide) hg_r0 hK, fun U hU hW => ⟨rfl, hU, hh_9.2.1, hG.step hW hU hh_9.1, va_K.moved hW.alike hK2, hg_el_6, hg_r0, jP.nil, trivial⟩⟩ rfl rfl hl.1 rfl (lv_room (Nat.le_of_ble_eq_true rfl)) dX14_nextDocument_55 ⟨Nat.zero_le _, Nat.zero_le _⟩) hh_9.1 (fun q _ h => h) (fun q h => h) (fun r_19 u_18 t_18 H_18 locs_18 ht_18 hvm_18 hr_19 hb_18 hz_18 hk_18 hS_18 => ?_)
                    rw [ht_18] at hb_18
                    obtain ⟨hb_181, hb_182, hb_183, hb_184, hb_185⟩ := hb_18
                    have hh_18 : jSt (dC, dI) B base G0 G0 EX14_nextDocumentK s.heap 0 0 [(el_6, 14, 9, .int (ck el_6)), (el_6, 14, 6, .ref yb_7), (el_6, 14, 7, .ref ye_7), (el_6, 14, 5, .int (sn el_6)), (r0, 16, 41, .ref dd), (r0, 16, 42, .int dc), (r0, 16, 60, .ref co), (r0, 16, 61, .ref cs), (r0, 16, 46, .ref ol), (r0, 16, 47, .ref nw), (r0, 16, 71, .ref td)] [(yb_7, 190, 40, ca 1, fb_7), (ye_7, 191, 40, ca 1, fe_7), (cs, 207, 2, ca 1, fs)] [(jFs, jDY dC dI ca G0 none sn), (jF9, jVl dC dI G0 9 ck), ([(201, 0)], jQc dC dI (ca 4) dd 3 fd), ([(208, 0)], jQc dC dI (ca 4) co 2 fo)] H_18 locs_18 := ((hh_9.call hb_181 hb_182 hb_183 hb_184 hS_18 rfl (L1 := [(el_6, 14, 9, .int (ck el_6)), (el_6, 14, 6, .ref yb_7), (el_6, 14, 7, .ref ye_7), (el_6, 14, 5, .int (sn el_6)), (r0, 16, 41, .ref dd), (r0, 16, 42, .int dc), (r0, 16, 60, .ref co), (r0, 16, 61, .ref cs), (r0, 16, 46, .ref ol), (r0, 16, 47, .ref nw), (r0, 16, 71, .ref td)]) [0, 1, 2, 3, 4, 5, 6, 7, 8, 9, 10] rfl rfl (M1 := [(yb_7, 190, 40, ca 1, fb_7), (ye_7, 191, 40, ca 1, fe_7), (cs, 207, 2, ca 1, fs)]) [0, 1, 2] rfl rfl (I1 := [(jFs, jDY dC dI ca G0 none sn), (jF9, jVl dC dI G0 9 ck), ([(201, 0)], jQc dC dI (ca 4) dd 3 fd), ([(208, 0)], jQc dC dI (ca 4) co 2 fo)]) [0, 1, 2, 3] rfl rfl).more hb_185)
                    clear hh_9 ht_18 hvm_18 hz_18 hk_18 hS_18 hb_181 hb_182 hb_183 hb_184 hb_185
                    obtain ⟨hr_19b, hr_19p⟩ := hr_19
                    have hr_19' := jb_01 hr_19b
                    refine lv_if_eq (tgt := 63) hx hb dX14_nextDocument_58 (by decide) (fun c_20 => ?_) (fun c_20 => ?_)
                    · skip
                      have c_20' : r_19.toInt = 0 := jb_eq (rfl) ((by decide)) c_20
                      refine j7_nld_n hx hb dX14_nextDocument_63 rfl (lv_at hl 2 rfl) ?_
                      refine lv_ifnonnullN hx hb dX14_nextDocument_64 ?_
                      refine lv_aload_n hx hb dX14_nextDocument_67 rfl (lv_at hl 0 rfl) ?_
                      refine lv_astore_n (lv' := [(1, .ref el_6), (3, .ref el_6), (0, .ref r0), (2, .int v2_2)]) hx hb dX14_nextDocument_68 rfl hl (by decide) rfl (fun ls hl => ?_)
                      obtain ⟨z_21, ez_21⟩ : ∃ y : Int32, y = v2_2 + 1 := ⟨_, rfl⟩
                      refine lv_iinc (v := z_21) (lv' := [(2, .int z_21), (1, .ref el_6), (3, .ref el_6), (0, .ref r0)]) hx hb dX14_nextDocument_69 hl (k := 3) rfl (by rw [ez_21]; rfl) (by decide) rfl (fun ls hl => ?_)
                      have hz_21 : z_21.toInt = v2_2.toInt + 1 := by rw [ez_21]; exact jb_iadd2 (rfl) (by decide) (by omega)
                      refine lv_goto (tgt := 4) hx hb dX14_nextDocument_72 (by decide) ?_
                      exact L4 (some el_6) z_21 _ _ (hh_18.sub (L1 := [(r0, 16, 41, .ref dd), (r0, 16, 42, .int dc), (r0, 16, 60, .ref co), (r0, 16, 61, .ref cs), (r0, 16, 46, .ref ol), (r0, 16, 47, .ref nw), (r0, 16, 71, .ref td)]) [4, 5, 6, 7, 8, 9, 10] rfl (M1 := [(cs, 207, 2, ca 1, fs)]) [2] rfl (I1 := [(jFs, jDY dC dI ca G0 none sn), (jF9, jVl dC dI G0 9 ck), ([(201, 0)], jQc dC dI (ca 4) dd 3 fd), ([(208, 0)], jQc dC dI (ca 4) co 2 fo)]) [0, 1, 2, 3] rfl) (Or.inr ⟨_, rfl, hg_el_6, ⟨v2_2.toInt.toNat, by omega, by omega, heo_5.symm, by omega⟩⟩) (by first | omega | (refine ⟨?_, ?_⟩ <;> (first | omega | rfl | assumption | decide | exact Or.inl rfl | exact Or.inr rfl | (simp only; omega)))) (by omega) _ (lv_sub hl [3, 1, 0] rfl)
                    · skip
                      have c_20' : r_19.toInt ≠ 0 := jb_eq_n (rfl) ((by decide)) c_20
                      refine lv_aload_n hx hb dX14_nextDocument_61 rfl (lv_at hl 0 rfl) ?_
                      rw [hQ]
                      exact W.aret (v := .ref el_6) hx hb hr (Or.inl ⟨_, rfl⟩) (Or.inr ⟨_, rfl⟩) (fun t ht hW => ⟨⟨.ref el_6, (), rfl, Or.inr ⟨_, rfl, hg_el_6, ⟨v2_2.toInt.toNat, by omega, by omega, heo_5.symm, by omega⟩⟩, hh_18.rt (M1 := []) [] rfl ht⟩, by rw [ht]; try exact hh_18.1.1, fun q h9 hq => by rw [ht]; try exact hh_18.1.2.1 q h9 hq⟩) hh_18.1.2.2 dX14_nextDocument_62
                  · skip
                    cases c_17
                · simp only [va_rf]
                  refine lv_acmp_ne (rx := (some el_6)) (ry := (some el_16)) (tgt := 53) hx hb dX14_nextDocument_47 (by decide) (fun c_22 => ?_) (fun c_22 => ?_)
                  · skip
                    refine lv_aload_n hx hb dX14_nextDocument_53 rfl (lv_at hl 1 rfl) ?_
                    refine lv_aload_n hx hb dX14_nextDocument_54 rfl (lv_at hl 0 rfl) ?_
                    refine va_calli (A0 := jA base) (H0 := s.heap) (va_runV (As := [.ref el_6]) (rest := []) ⟨hx, hb, hml, hown, hts⟩ (uX14_isWaitedFor l dC dI ca base B hB hAp hB14 hB16 hB202 G0 H_2 r0 el_6) (cwV 1 hts (jgV (jWr_90 _ (List.mem_of_getElem? (i := 0) rfl)) (jWr_90 _ (List.mem_of_getElem? (i := 1) rfl)) (jWr_90 _ (List.mem_of_getElem? (i := 2) rfl)) (jWr_1 _ (List.mem_of_getElem? (i := 5) rfl)) (jWr_90 _ (List.mem_of_getElem? (i := 3) rfl))) rfl rfl rfl (by decide +kernel) ⟨by rw [← hR]; exact Nat.le_of_ble_eq_true rfl, by rw [← hR]; exact Nat.le_of_ble_eq_true rfl⟩) ⟨fun a U g mk q => by obtain ⟨q0, q1, q2, qK, q10, q11, q12, q13, q14⟩ := q; exact ⟨q0, q1, q2, jG.calling g mk a qK, (va_K.moved (Vm.Alike.refl U.vm) q10), q11, q12, q13, q14⟩, hh_9.recv (C := RX14) (T := TX14) (N := 74) hB16 rfl (by decide) hg_r0 hK, fun U hU hW => ⟨rfl, hU, hh_9.2.1, hG.step hW hU hh_9.1, va_K.moved hW.alike hK2, hg_el_6, hg_r0, jP.nil, trivial⟩⟩ rfl rfl hl.1 rfl (lv_room (Nat.le_of_ble_eq_true rfl)) dX14_nextDocument_55 ⟨Nat.zero_le _, Nat.zero_le _⟩) hh_9.1 (fun q _ h => h) (fun q h => h) (fun r_24 u_23 t_23 H_23 locs_23 ht_23 hvm_23 hr_24 hb_23 hz_23 hk_23 hS_23 => ?_)
                    rw [ht_23] at hb_23
                    obtain ⟨hb_231, hb_232, hb_233, hb_234, hb_235⟩ := hb_23
                    have hh_23 : jSt (dC, dI) B base G0 G0 EX14_nextDocumentK s.heap 0 0 [(el_6, 14, 9, .int (ck el_6)), (el_6, 14, 6, .ref yb_7), (el_6, 14, 7, .ref ye_7), (el_6, 14, 5, .int (sn el_6)), (r0, 16, 41, .ref dd), (r0, 16, 42, .int dc), (r0, 16, 60, .ref co), (r0, 16, 61, .ref cs), (r0, 16, 46, .ref ol), (r0, 16, 47, .ref nw), (r0, 16, 71, .ref td)] [(yb_7, 190, 40, ca 1, fb_7), (ye_7, 191, 40, ca 1, fe_7), (cs, 207, 2, ca 1, fs)] [(jFs, jDY dC dI ca G0 none sn), (jF9, jVl dC dI G0 9 ck), ([(201, 0)], jQc dC dI (ca 4) dd 3 fd), ([(208, 0)], jQc dC dI (ca 4) co 2 fo)] H_23 locs_23 := ((hh_9.call hb_231 hb_232 hb_233 hb_234 hS_23 rfl (L1 := [(el_6, 14, 9, .int (ck el_6)), (el_6, 14, 6, .ref yb_7), (el_6, 14, 7, .ref ye_7), (el_6, 14, 5, .int (sn el_6)), (r0, 16, 41, .ref dd), (r0, 16, 42, .int dc), (r0, 16, 60, .ref co), (r0, 16, 61, .ref cs), (r0, 16, 46, .ref ol), (r0, 16, 47, .ref nw), (r0, 16, 71, .ref td)]) [0, 1, 2, 3, 4, 5, 6, 7, 8, 9, 10] rfl rfl (M1 := [(yb_7, 190, 40, ca 1, fb_7), (ye_7, 191, 40, ca 1, fe_7), (cs, 207, 2, ca 1, fs)]) [0, 1, 2] rfl rfl (I1 := [(jFs, jDY dC dI ca G0 none sn), (jF9, jVl dC dI G0 9 ck), ([(201, 0)], jQc dC dI (ca 4) dd 3 fd), ([(208, 0)], jQc dC dI (ca 4) co 2 fo)]) [0, 1, 2, 3] rfl rfl).more hb_235)
                    clear hh_9 ht_23 hvm_23 hz_23 hk_23 hS_23 hb_231 hb_232 hb_233 hb_234 hb_235
                    obtain ⟨hr_24b, hr_24p⟩ := hr_24
                    have hr_24' := jb_01 hr_24b
                    refine lv_if_eq (tgt := 63) hx hb dX14_nextDocument_58 (by decide) (fun c_25 => ?_) (fun c_25 => ?_)
                    · skip
                      have c_25' : r_24.toInt = 0 := jb_eq (rfl) ((by decide)) c_25
                      refine j7_nld_n hx hb dX14_nextDocument_63 rfl (lv_at hl 2 rfl) ?_
                      refine lv_ifnonnullN hx hb dX14_nextDocument_64 ?_
                      refine lv_aload_n hx hb dX14_nextDocument_67 rfl (lv_at hl 0 rfl) ?_
                      refine lv_astore_n (lv' := [(1, .ref el_6), (3, .ref el_6), (0, .ref r0), (2, .int v2_2)]) hx hb dX14_nextDocument_68 rfl hl (by decide) rfl (fun ls hl => ?_)
                      obtain ⟨z_26, ez_26⟩ : ∃ y : Int32, y = v2_2 + 1 := ⟨_, rfl⟩
                      refine lv_iinc (v := z_26) (lv' := [(2, .int z_26), (1, .ref el_6), (3, .ref el_6), (0, .ref r0)]) hx hb dX14_nextDocument_69 hl (k := 3) rfl (by rw [ez_26]; rfl) (by decide) rfl (fun ls hl => ?_)
                      have hz_26 : z_26.toInt = v2_2.toInt + 1 := by rw [ez_26]; exact jb_iadd2 (rfl) (by decide) (by omega)
                      refine lv_goto (tgt := 4) hx hb dX14_nextDocument_72 (by decide) ?_
                      exact L4 (some el_6) z_26 _ _ (hh_23.sub (L1 := [(r0, 16, 41, .ref dd), (r0, 16, 42, .int dc), (r0, 16, 60, .ref co), (r0, 16, 61, .ref cs), (r0, 16, 46, .ref ol), (r0, 16, 47, .ref nw), (r0, 16, 71, .ref td)]) [4, 5, 6, 7, 8, 9, 10] rfl (M1 := [(cs, 207, 2, ca 1, fs)]) [2] rfl (I1 := [(jFs, jDY dC dI ca G0 none sn), (jF9, jVl dC dI G0 9 ck), ([(201, 0)], jQc dC dI (ca 4) dd 3 fd), ([(208, 0)], jQc dC dI (ca 4) co 2 fo)]) [0, 1, 2, 3] rfl) (Or.inr ⟨_, rfl, hg_el_6, ⟨v2_2.toInt.toNat, by omega, by omega, heo_5.symm, by omega⟩⟩) (by first | omega | (refine ⟨?_, ?_⟩ <;> (first | omega | rfl | assumption | decide | exact Or.inl rfl | exact Or.inr rfl | (simp only; omega)))) (by omega) _ (lv_sub hl [3, 1, 0] rfl)
                    · skip
                      have c_25' : r_24.toInt ≠ 0 := jb_eq_n (rfl) ((by decide)) c_25
                      refine lv_aload_n hx hb dX14_nextDocument_61 rfl (lv_at hl 0 rfl) ?_
                      rw [hQ]
                      exact W.aret (v := .ref el_6) hx hb hr (Or.inl ⟨_, rfl⟩) (Or.inr ⟨_, rfl⟩) (fun t ht hW => ⟨⟨.ref el_6, (), rfl, Or.inr ⟨_, rfl, hg_el_6, ⟨v2_2.toInt.toNat, by omega, by omega, heo_5.symm, by omega⟩⟩, hh_23.rt (M1 := []) [] rfl ht⟩, by rw [ht]; try exact hh_23.1.1, fun q h9 hq => by rw [ht]; try exact hh_23.1.2.1 q h9 hq⟩) hh_23.1.2.2 dX14_nextDocument_62
                  · skip
                    refine lv_goto (tgt := 69) hx hb dX14_nextDocument_50 (by decide) ?_
                    obtain ⟨z_27, ez_27⟩ : ∃ y : Int32, y = v2_2 + 1 := ⟨_, rfl⟩
                    refine lv_iinc (v := z_27) (lv' := [(2, .int z_27), (3, .ref el_6), (0, .ref r0), (1, .null)]) hx hb dX14_nextDocument_69 hl (k := 3) rfl (by rw [ez_27]; rfl) (by decide) rfl (fun ls hl => ?_)
                    have hz_27 : z_27.toInt = v2_2.toInt + 1 := by rw [ez_27]; exact jb_iadd2 (rfl) (by decide) (by omega)
                    refine lv_goto (tgt := 4) hx hb dX14_nextDocument_72 (by decide) ?_
                    exact L4 none z_27 _ _ (hh_9.sub (L1 := [(r0, 16, 41, .ref dd), (r0, 16, 42, .int dc), (r0, 16, 60, .ref co), (r0, 16, 61, .ref cs), (r0, 16, 46, .ref ol), (r0, 16, 47, .ref nw), (r0, 16, 71, .ref td)]) [4, 5, 6, 7, 8, 9, 10] rfl (M1 := [(cs, 207, 2, ca 1, fs)]) [2] rfl (I1 := [(jFs, jDY dC dI ca G0 none sn), (jF9, jVl dC dI G0 9 ck), ([(201, 0)], jQc dC dI (ca 4) dd 3 fd), ([(208, 0)], jQc dC dI (ca 4) co 2 fo)]) [0, 1, 2, 3] rfl) (Or.inl rfl) (by first | omega | (refine ⟨?_, ?_⟩ <;> (first | omega | rfl | assumption | decide | exact Or.inl rfl | exact Or.inr rfl | (simp only; omega)))) (by omega) _ (lv_sub hl [2, 3, 0] rfl)
            · simp only [va_rf]
              refine lv_acmp_eq (rx := (some el_6)) (ry := (some el_13)) (tgt := 69) hx hb dX14_nextDocument_37 (by decide) (fun c_28 => ?_) (fun c_28 => ?_)
              · skip
                obtain ⟨z_29, ez_29⟩ : ∃ y : Int32, y = v2_2 + 1 := ⟨_, rfl⟩
                refine lv_iinc (v := z_29) (lv' := [(2, .int z_29), (3, .ref el_6), (0, .ref r0), (1, .null)]) hx hb dX14_nextDocument_69 hl (k := 3) rfl (by rw [ez_29]; rfl) (by decide) rfl (fun ls hl => ?_)
                have hz_29 : z_29.toInt = v2_2.toInt + 1 := by rw [ez_29]; exact jb_iadd2 (rfl) (by decide) (by omega)
                refine lv_goto (tgt := 4) hx hb dX14_nextDocument_72 (by decide) ?_
                exact L4 none z_29 _ _ (hh_9.sub (L1 := [(r0, 16, 41, .ref dd), (r0, 16, 42, .int dc), (r0, 16, 60, .ref co), (r0, 16, 61, .ref cs), (r0, 16, 46, .ref ol), (r0, 16, 47, .ref nw), (r0, 16, 71, .ref td)]) [4, 5, 6, 7, 8, 9, 10] rfl (M1 := [(cs, 207, 2, ca 1, fs)]) [2] rfl (I1 := [(jFs, jDY dC dI ca G0 none sn), (jF9, jVl dC dI G0 9 ck), ([(201, 0)], jQc dC dI (ca 4) dd 3 fd), ([(208, 0)], jQc dC dI (ca 4) co 2 fo)]) [0, 1, 2, 3] rfl) (Or.inl rfl) (by first | omega | (refine ⟨?_, ?_⟩ <;> (first | omega | rfl | assumption | decide | exact Or.inl rfl | exact Or.inr rfl | (simp only; omega)))) (by omega) _ (lv_sub hl [2, 3, 0] rfl)
              · skip
                refine lv_aload_n hx hb dX14_nextDocument_40 rfl (lv_at hl 0 rfl) ?_
                refine lv_aload_n hx hb dX14_nextDocument_41 rfl (lv_at hl 1 rfl) ?_
                refine j7_read hx hb hown hK (C := RX14) (T := TX14) (N := 74) rfl hly_16_60 hlk_129 (hh_9.at 6 rfl) dX14_nextDocument_42 ?_
                refine lv_iconst (v := 1) hx hb dX14_nextDocument_45 (by decide) ?_
                refine j7_qaldI hx hb hK2 hh_9 hB208 0 rfl (by decide) hg_co (x := 1) ((by decide)) (by omega) (hh_9.iv 3 rfl) dX14_nextDocument_46 (fun o_30 ho_30 heo_30 => ?_)
                rcases ho_30 with rfl | ⟨el_31, rfl, hg_el_31⟩
                · simp only [va_rf]
                  refine lv_acmp_ne (rx := (some el_6)) (ry := none) (tgt := 53) hx hb dX14_nextDocument_47 (by decide) (fun c_32 => ?_) (fun c_32 => ?_)
                  · skip
                    refine lv_aload_n hx hb dX14_nextDocument_53 rfl (lv_at hl 1 rfl) ?_
                    refine lv_aload_n hx hb dX14_nextDocument_54 rfl (lv_at hl 0 rfl) ?_
                    refine va_calli (A0 := jA base) (H0 := s.heap) (va_runV (As := [.ref el_6]) (rest := []) ⟨hx, hb, hml, hown, hts⟩ (uX14_isWaitedFor l dC dI ca base B hB hAp hB14 hB16 hB202 G0 H_2 r0 el_6) (cwV 1 hts (jgV (jWr_90 _ (List.mem_of_getElem? (i := 0) rfl)) (jWr_90 _ (List.mem_of_getElem? (i := 1) rfl)) (jWr_90 _ (List.mem_of_getElem? (i := 2) rfl)) (jWr_1 _ (List.mem_of_getElem? (i := 5) rfl)) (jWr_90 _ (List.mem_of_getElem? (i := 3) rfl))) rfl rfl rfl (by decide +kernel) ⟨by rw [← hR]; exact Nat.le_of_ble_eq_true rfl, by rw [← hR]; exact Nat.le_of_ble_eq_true rfl⟩) ⟨fun a U g mk q => by obtain ⟨q0, q1, q2, qK, q10, q11, q12, q13, q14⟩ := q; exact ⟨q0, q1, q2, jG.calling g mk a qK, (va_K.moved (Vm.Alike.refl U.vm) q10), q11, q12, q13, q14⟩, hh_9.recv (C := RX14) (T := TX14) (N := 74) hB16 rfl (by decide) hg_r0 hK, fun U hU hW => ⟨rfl, hU, hh_9.2.1, hG.step hW hU hh_9.1, va_K.moved hW.alike hK2, hg_el_6, hg_r0, jP.nil, trivial⟩⟩ rfl rfl hl.1 rfl (lv_room (Nat.le_of_ble_eq_true rfl)) dX14_nextDocument_55 ⟨Nat.zero_le _, Nat.zero_le _⟩) hh_9.1 (fun q _ h => h) (fun q h => h) (fun r_34 u_33 t_33 H_33 locs_33 ht_33 hvm_33 hr_34 hb_33 hz_33 hk_33 hS_33 => ?_)
                    rw [ht_33] at hb_33
                    obtain ⟨hb_331, hb_332, hb_333, hb_334, hb_335⟩ := hb_33
                    have hh_33 : jSt (dC, dI) B base G0 G0 EX14_nextDocumentK s.heap 0 0 [(el_6, 14, 9, .int (ck el_6)), (el_6, 14, 6, .ref yb_7), (el_6, 14, 7, .ref ye_7), (el_6, 14, 5, .int (sn el_6)), (r0, 16, 41, .ref dd), (r0, 16, 42, .int dc), (r0, 16, 60, .ref co), (r0, 16, 61, .ref cs), (r0, 16, 46, .ref ol), (r0, 16, 47, .ref nw), (r0, 16, 71, .ref td)] [(yb_7, 190, 40, ca 1, fb_7), (ye_7, 191, 40, ca 1, fe_7), (cs, 207, 2, ca 1, fs)] [(jFs, jDY dC dI ca G0 none sn), (jF9, jVl dC dI G0 9 ck), ([(201, 0)], jQc dC dI (ca 4) dd 3 fd), ([(208, 0)], jQc dC dI (ca 4) co 2 fo)] H_33 locs_33 := ((hh_9.call hb_331 hb_332 hb_333 hb_334 hS_33 rfl (L1 := [(el_6, 14, 9, .int (ck el_6)), (el_6, 14, 6, .ref yb_7), (el_6, 14, 7, .ref ye_7), (el_6, 14, 5, .int (sn el_6)), (r0, 16, 41, .ref dd), (r0, 16, 42, .int dc), (r0, 16, 60, .ref co), (r0, 16, 61, .ref cs), (r0, 16, 46, .ref ol), (r0, 16, 47, .ref nw), (r0, 16, 71, .ref td)]) [0, 1, 2, 3, 4, 5, 6, 7, 8, 9, 10] rfl rfl (M1 := [(yb_7, 190, 40, ca 1, fb_7), (ye_7, 191, 40, ca 1, fe_7), (cs, 207, 2, ca 1, fs)]) [0, 1, 2] rfl rfl (I1 := [(jFs, jDY dC dI ca G0 none sn), (jF9, jVl dC dI G0 9 ck), ([(201, 0)], jQc dC dI (ca 4) dd 3 fd), ([(208, 0)], jQc dC dI (ca 4) co 2 fo)]) [0, 1, 2, 3] rfl rfl).more hb_335)
                    clear hh_9 ht_33 hvm_33 hz_33 hk_33 hS_33 hb_331 hb_332 hb_333 hb_334 hb_335
                    obtain ⟨hr_34b, hr_34p⟩ := hr_34
                    have hr_34' := jb_01 hr_34b
                    refine lv_if_eq (tgt := 63) hx hb dX14_nextDocument_58 (by decide) (fun c_35 => ?_) (fun c_35 => ?_)
                    · skip
                      have c_35' : r_34.toInt = 0 := jb_eq (rfl) ((by decide)) c_35
                      refine j7_nld_n hx hb dX14_nextDocument_63 rfl (lv_at hl 2 rfl) ?_
                      refine lv_ifnonnullN hx hb dX14_nextDocument_64 ?_
                      refine lv_aload_n hx hb dX14_nextDocument_67 rfl (lv_at hl 0 rfl) ?_
                      refine lv_astore_n (lv' := [(1, .ref el_6), (3, .ref el_6), (0, .ref r0), (2, .int v2_2)]) hx hb dX14_nextDocument_68 rfl hl (by decide) rfl (fun ls hl => ?_)
                      obtain ⟨z_36, ez_36⟩ : ∃ y : Int32, y = v2_2 + 1 := ⟨_, rfl⟩
                      refine lv_iinc (v := z_36) (lv' := [(2, .int z_36), (1, .ref el_6), (3, .ref el_6), (0, .ref r0)]) hx hb dX14_nextDocument_69 hl (k := 3) rfl (by rw [ez_36]; rfl) (by decide) rfl (fun ls hl => ?_)
                      have hz_36 : z_36.toInt = v2_2.toInt + 1 := by rw [ez_36]; exact jb_iadd2 (rfl) (by decide) (by omega)
                      refine lv_goto (tgt := 4) hx hb dX14_nextDocument_72 (by decide) ?_
                      exact L4 (some el_6) z_36 _ _ (hh_33.sub (L1 := [(r0, 16, 41, .ref dd), (r0, 16, 42, .int dc), (r0, 16, 60, .ref co), (r0, 16, 61, .ref cs), (r0, 16, 46, .ref ol), (r0, 16, 47, .ref nw), (r0, 16, 71, .ref td)]) [4, 5, 6, 7, 8, 9, 10] rfl (M1 := [(cs, 207, 2, ca 1, fs)]) [2] rfl (I1 := [(jFs, jDY dC dI ca G0 none sn), (jF9, jVl dC dI G0 9 ck), ([(201, 0)], jQc dC dI (ca 4) dd 3 fd), ([(208, 0)], jQc dC dI (ca 4) co 2 fo)]) [0, 1, 2, 3] rfl) (Or.inr ⟨_, rfl, hg_el_6, ⟨v2_2.toInt.toNat, by omega, by omega, heo_5.symm, by omega⟩⟩) (by first | omega | (refine ⟨?_, ?_⟩ <;> (first | omega | rfl | assumption | decide | exact Or.inl rfl | exact Or.inr rfl | (simp only; omega)))) (by omega) _ (lv_sub hl [3, 1, 0] rfl)
                    · skip
                      have c_35' : r_34.toInt ≠ 0 := jb_eq_n (rfl) ((by decide)) c_35
                      refine lv_aload_n hx hb dX14_nextDocument_61 rfl (lv_at hl 0 rfl) ?_
                      rw [hQ]
                      exact W.aret (v := .ref el_6) hx hb hr (Or.inl ⟨_, rfl⟩) (Or.inr ⟨_, rfl⟩) (fun t ht hW => ⟨⟨.ref el_6, (), rfl, Or.inr ⟨_, rfl, hg_el_6, ⟨v2_2.toInt.toNat, by omega, by omega, heo_5.symm, by omega⟩⟩, hh_33.rt (M1 := []) [] rfl ht⟩, by rw [ht]; try exact hh_33.1.1, fun q h9 hq => by rw [ht]; try exact hh_33.1.2.1 q h9 hq⟩) hh_33.1.2.2 dX14_nextDocument_62
                  · skip
                    cases c_32
                · simp only [va_rf]
                  refine lv_acmp_ne (rx := (some el_6)) (ry := (some el_31)) (tgt := 53) hx hb dX14_nextDocument_47 (by decide) (fun c_37 => ?_) (fun c_37 => ?_)
                  · skip
                    refine lv_aload_n hx hb dX14_nextDocument_53 rfl (lv_at hl 1 rfl) ?_
                    refine lv_aload_n hx hb dX14_nextDocument_54 rfl (lv_at hl 0 rfl) ?_
                    refine va_calli (A0 := jA base) (H0 := s.heap) (va_runV (As := [.ref el_6]) (rest := []) ⟨hx, hb, hml, hown, hts⟩ (uX14_isWaitedFor l dC dI ca base B hB hAp hB14 hB16 hB202 G0 H_2 r0 el_6) (cwV 1 hts (jgV (jWr_90 _ (List.mem_of_getElem? (i := 0) rfl)) (jWr_90 _ (List.mem_of_getElem? (i := 1) rfl)) (jWr_90 _ (List.mem_of_getElem? (i := 2) rfl)) (jWr_1 _ (List.mem_of_getElem? (i := 5) rfl)) (jWr_90 _ (List.mem_of_getElem? (i := 3) rfl))) rfl rfl rfl (by decide +kernel) ⟨by rw [← hR]; exact Nat.le_of_ble_eq_true rfl, by rw [← hR]; exact Nat.le_of_ble_eq_true rfl⟩) ⟨fun a U g mk q => by obtain ⟨q0, q1, q2, qK, q10, q11, q12, q13, q14⟩ := q; exact ⟨q0, q1, q2, jG.calling g mk a qK, (va_K.moved (Vm.Alike.refl U.vm) q10), q11, q12, q13, q14⟩, hh_9.recv (C := RX14) (T := TX14) (N := 74) hB16 rfl (by decide) hg_r0 hK, fun U hU hW => ⟨rfl, hU, hh_9.2.1, hG.step hW hU hh_9.1, va_K.moved hW.alike hK2, hg_el_6, hg_r0, jP.nil, trivial⟩⟩ rfl rfl hl.1 rfl (lv_room (Nat.le_of_ble_eq_true rfl)) dX14_nextDocument_55 ⟨Nat.zero_le _, Nat.zero_le _⟩) hh_9.1 (fun q _ h => h) (fun q h => h) (fun r_39 u_38 t_38 H_38 locs_38 ht_38 hvm_38 hr_39 hb_38 hz_38 hk_38 hS_38 => ?_)
                    rw [ht_38] at hb_38
                    obtain ⟨hb_381, hb_382, hb_383, hb_384, hb_385⟩ := hb_38
                    have hh_38 : jSt (dC, dI) B base G0 G0 EX14_nextDocumentK s.heap 0 0 [(el_6, 14, 9, .int (ck el_6)), (el_6, 14, 6, .ref yb_7), (el_6, 14, 7, .ref ye_7), (el_6, 14, 5, .int (sn el_6)), (r0, 16, 41, .ref dd), (r0, 16, 42, .int dc), (r0, 16, 60, .ref co), (r0, 16, 61, .ref cs), (r0, 16, 46, .ref ol), (r0, 16, 47, .ref nw), (r0, 16, 71, .ref td)] [(yb_7, 190, 40, ca 1, fb_7), (ye_7, 191, 40, ca 1, fe_7), (cs, 207, 2, ca 1, fs)] [(jFs, jDY dC dI ca G0 none sn), (jF9, jVl dC dI G0 9 ck), ([(201, 0)], jQc dC dI (ca 4) dd 3 fd), ([(208, 0)], jQc dC dI (ca 4) co 2 fo)] H_38 locs_38 := ((hh_9.call hb_381 hb_382 hb_383 hb_384 hS_38 rfl (L1 := [(el_6, 14, 9, .int (ck el_6)), (el_6, 14, 6, .ref yb_7), (el_6, 14, 7, .ref ye_7), (el_6, 14, 5, .int (sn el_6)), (r0, 16, 41, .ref dd), (r0, 16, 42, .int dc), (r0, 16, 60, .ref co), (r0, 16, 61, .ref cs), (r0, 16, 46, .ref ol), (r0, 16, 47, .ref nw), (r0, 16, 71, .ref td)]) [0, 1, 2, 3, 4, 5, 6, 7, 8, 9, 10] rfl rfl (M1 := [(yb_7, 190, 40, ca 1, fb_7), (ye_7, 191, 40, ca 1, fe_7), (cs, 207, 2, ca 1, fs)]) [0, 1, 2] rfl rfl (I1 := [(jFs, jDY dC dI ca G0 none sn), (jF9, jVl dC dI G0 9 ck), ([(201, 0)], jQc dC dI (ca 4) dd 3 fd), ([(208, 0)], jQc dC dI (ca 4) co 2 fo)]) [0, 1, 2, 3] rfl rfl).more hb_385)
                    clear hh_9 ht_38 hvm_38 hz_38 hk_38 hS_38 hb_381 hb_382 hb_383 hb_384 hb_385
                    obtain ⟨hr_39b, hr_39p⟩ := hr_39
                    have hr_39' := jb_01 hr_39b
                    refine lv_if_eq (tgt := 63) hx hb dX14_nextDocument_58 (by decide) (fun c_40 => ?_) (fun c_40 => ?_)
                    · skip
                      have c_40' : r_39.toInt = 0 := jb_eq (rfl) ((by decide)) c_40
                      refine j7_nld_n hx hb dX14_nextDocument_63 rfl (lv_at hl 2 rfl) ?_
                      refine lv_ifnonnullN hx hb dX14_nextDocument_64 ?_
                      refine lv_aload_n hx hb dX14_nextDocument_67 rfl (lv_at hl 0 rfl) ?_
                      refine lv_astore_n (lv' := [(1, .ref el_6), (3, .ref el_6), (0, .ref r0), (2, .int v2_2)]) hx hb dX14_nextDocument_68 rfl hl (by decide) rfl (fun ls hl => ?_)
                      obtain ⟨z_41, ez_41⟩ : ∃ y : Int32, y = v2_2 + 1 := ⟨_, rfl⟩
                      refine lv_iinc (v := z_41) (lv' := [(2, .int z_41), (1, .ref el_6), (3, .ref el_6), (0, .ref r0)]) hx hb dX14_nextDocument_69 hl (k := 3) rfl (by rw [ez_41]; rfl) (by decide) rfl (fun ls hl => ?_)
                      have hz_41 : z_41.toInt = v2_2.toInt + 1 := by rw [ez_41]; exact jb_iadd2 (rfl) (by decide) (by omega)
                      refine lv_goto (tgt := 4) hx hb dX14_nextDocument_72 (by decide) ?_
                      exact L4 (some el_6) z_41 _ _ (hh_38.sub (L1 := [(r0, 16, 41, .ref dd), (r0, 16, 42, .int dc), (r0, 16, 60, .ref co), (r0, 16, 61, .ref cs), (r0, 16, 46, .ref ol), (r0, 16, 47, .ref nw), (r0, 16, 71, .ref td)]) [4, 5, 6, 7, 8, 9, 10] rfl (M1 := [(cs, 207, 2, ca 1, fs)]) [2] rfl (I1 := [(jFs, jDY dC dI ca G0 none sn), (jF9, jVl dC dI G0 9 ck), ([(201, 0)], jQc dC dI (ca 4) dd 3 fd), ([(208, 0)], jQc dC dI (ca 4) co 2 fo)]) [0, 1, 2, 3] rfl) (Or.inr ⟨_, rfl, hg_el_6, ⟨v2_2.toInt.toNat, by omega, by omega, heo_5.symm, by omega⟩⟩) (by first | omega | (refine ⟨?_, ?_⟩ <;> (first | omega | rfl | assumption | decide | exact Or.inl rfl | exact Or.inr rfl | (simp only; omega)))) (by omega) _ (lv_sub hl [3, 1, 0] rfl)
                    · skip
                      have c_40' : r_39.toInt ≠ 0 := jb_eq_n (rfl) ((by decide)) c_40
                      refine lv_aload_n hx hb dX14_nextDocument_61 rfl (lv_at hl 0 rfl) ?_
                      rw [hQ]
                      exact W.aret (v := .ref el_6) hx hb hr (Or.inl ⟨_, rfl⟩) (Or.inr ⟨_, rfl⟩) (fun t ht hW => ⟨⟨.ref el_6, (), rfl, Or.inr ⟨_, rfl, hg_el_6, ⟨v2_2.toInt.toNat, by omega, by omega, heo_5.symm, by omega⟩⟩, hh_38.rt (M1 := []) [] rfl ht⟩, by rw [ht]; try exact hh_38.1.1, fun q h9 hq => by rw [ht]; try exact hh_38.1.2.1 q h9 hq⟩) hh_38.1.2.2 dX14_nextDocument_62
                  · skip
                    refine lv_goto (tgt := 69) hx hb dX14_nextDocument_50 (by decide) ?_
                    obtain ⟨z_42, ez_42⟩ : ∃ y : Int32, y = v2_2 + 1 := ⟨_, rfl⟩
                    refine lv_iinc (v := z_42) (lv' := [(2, .int z_42), (3, .ref el_6), (0, .ref r0), (1, .null)]) hx hb dX14_nextDocument_69 hl (k := 3) rfl (by rw [ez_42]; rfl) (by decide) rfl (fun ls hl => ?_)
                    have hz_42 : z_42.toInt = v2_2.toInt + 1 := by rw [ez_42]; exact jb_iadd2 (rfl) (by decide) (by omega)
                    refine lv_goto (tgt := 4) hx hb dX14_nextDocument_72 (by decide) ?_
                    exact L4 none z_42 _ _ (hh_9.sub (L1 := [(r0, 16, 41, .ref dd), (r0, 16, 42, .int dc), (r0, 16, 60, .ref co), (r0, 16, 61, .ref cs), (r0, 16, 46, .ref ol), (r0, 16, 47, .ref nw), (r0, 16, 71, .ref td)]) [4, 5, 6, 7, 8, 9, 10] rfl (M1 := [(cs, 207, 2, ca 1, fs)]) [2] rfl (I1 := [(jFs, jDY dC dI ca G0 none sn), (jF9, jVl dC dI G0 9 ck), ([(201, 0)], jQc dC dI (ca 4) dd 3 fd), ([(208, 0)], jQc dC dI (ca 4) co 2 fo)]) [0, 1, 2, 3] rfl) (Or.inl rfl) (by first | omega | (refine ⟨?_, ?_⟩ <;> (first | omega | rfl | assumption | decide | exact Or.inl rfl | exact Or.inr rfl | (simp only; omega)))) (by omega) _ (lv_sub hl [2, 3, 0] rfl)
      · have hl : lv_has ls 4 [(0, .ref r0), (1, .ref nv_3), (2, .int v2_2)] := hl
        refine lv_iload_n hx hb dX14_nextDocument_4 rfl (lv_at hl 2 rfl) ?_
        refine lv_aload_n hx hb dX14_nextDocument_5 rfl (lv_at hl 0 rfl) ?_
        refine j7_read hx hb hown hK (C := RX14) (T := TX14) (N := 74) rfl hly_16_42 hlk_505 (hh_2.at 1 rfl) dX14_nextDocument_6 ?_
        refine lv_icmp_ge (tgt := 75) hx hb dX14_nextDocument_9 (by decide) (fun c_43 => ?_) (fun c_43 => ?_)
        · skip
          have c_43' : v2_2.toInt ≥ dc.toInt := jb_ge (rfl) (rfl) c_43
          refine lv_aload_n hx hb dX14_nextDocument_75 rfl (lv_at hl 1 rfl) ?_
          rw [hQ]
          exact W.aret (v := .ref nv_3) hx hb hr (Or.inl ⟨_, rfl⟩) (Or.inr ⟨_, rfl⟩) (fun t ht hW => ⟨⟨.ref nv_3, (), rfl, Or.inr ⟨_, rfl, hg_nv_3, hp_nv_3⟩, hh_2.rt (M1 := []) [] rfl ht⟩, by rw [ht]; try exact hh_2.1.1, fun q h9 hq => by rw [ht]; try exact hh_2.1.2.1 q h9 hq⟩) hh_2.1.2.2 dX14_nextDocument_76
        · skip
          have c_43' : v2_2.toInt < dc.toInt := jb_ge_n (rfl) (rfl) c_43
          refine lv_aload_n hx hb dX14_nextDocument_12 rfl (lv_at hl 0 rfl) ?_
          refine j7_read hx hb hown hK (C := RX14) (T := TX14) (N := 74) rfl hly_16_41 hlk_74 (hh_2.at 0 rfl) dX14_nextDocument_13 ?_
          refine lv_iload_n hx hb dX14_nextDocument_16 rfl (lv_at hl 2 rfl) ?_
          refine j7_qaldI hx hb hK2 hh_2 hB201 0 rfl (by decide) hg_dd (x := v2_2.toInt) (rfl) (by omega) (hh_2.iv 2 rfl) dX14_nextDocument_17 (fun o_44 ho_44 heo_44 => ?_)
          obtain ⟨el_45, rfl, hg_el_45⟩ := ho_44
          simp only [va_rf]
          refine lv_astore_n (lv' := [(3, .ref el_45), (0, .ref r0), (1, .ref nv_3), (2, .int v2_2)]) hx hb dX14_nextDocument_18 rfl hl (by decide) rfl (fun ls hl => ?_)
          obtain ⟨yb_46, ye_46, fb_46, fe_46, hg_yb_46, hg_ye_46, hP_46, hM_46, hs_46, h0_46, h4_46⟩ := jDY.at (hh_2.iv 0 rfl) hg_el_45 (fun q => by cases q)
          have hh_47 := (hh_2.more hP_46).moreM hM_46
          clear hh_2 hP_46 hM_46
          have hh_48 := hh_47.more (jVl.at (hh_47.iv 1 rfl) hg_el_45)
          clear hh_47
          refine lv_aload_n hx hb dX14_nextDocument_19 rfl (lv_at hl 0 rfl) ?_
          refine j7_readN hx hb hown hK (C := RX12) (T := TX12) (N := 11) rfl hly_14_9 hlk_531 (hh_48.at 0 rfl) dX14_nextDocument_20 ?_
          refine lv_aload_n hx hb dX14_nextDocument_23 rfl (lv_at hl 0 rfl) ?_
          refine j7_readN hx hb hown hK (C := RX12) (T := TX12) (N := 11) rfl hly_14_5 hlk_587 (hh_48.at 3 rfl) dX14_nextDocument_24 ?_
          refine lv_icmp_eq (tgt := 69) hx hb dX14_nextDocument_27 (by decide) (fun c_49 => ?_) (fun c_49 => ?_)
          · skip
            have c_49' : (ck el_45).toInt = (sn el_45).toInt := jb_eq (rfl) (rfl) c_49
            obtain ⟨z_50, ez_50⟩ : ∃ y : Int32, y = v2_2 + 1 := ⟨_, rfl⟩
            refine lv_iinc (v := z_50) (lv' := [(2, .int z_50), (3, .ref el_45), (0, .ref r0), (1, .ref nv_3)]) hx hb dX14_nextDocument_69 hl (k := 3) rfl (by rw [ez_50]; rfl) (by decide) rfl (fun ls hl => ?_)
            have hz_50 : z_50.toInt = v2_2.toInt + 1 := by rw [ez_50]; exact jb_iadd2 (rfl) (by decide) (by omega)
            refine lv_goto (tgt := 4) hx hb dX14_nextDocument_72 (by decide) ?_
            exact L4 (some nv_3) z_50 _ _ (hh_48.sub (L1 := [(r0, 16, 41, .ref dd), (r0, 16, 42, .int dc), (r0, 16, 60, .ref co), (r0, 16, 61, .ref cs), (r0, 16, 46, .ref ol), (r0, 16, 47, .ref nw), (r0, 16, 71, .ref td)]) [4, 5, 6, 7, 8, 9, 10] rfl (M1 := [(cs, 207, 2, ca 1, fs)]) [2] rfl (I1 := [(jFs, jDY dC dI ca G0 none sn), (jF9, jVl dC dI G0 9 ck), ([(201, 0)], jQc dC dI (ca 4) dd 3 fd), ([(208, 0)], jQc dC dI (ca 4) co 2 fo)]) [0, 1, 2, 3] rfl) (Or.inr ⟨_, rfl, hg_nv_3, hp_nv_3⟩) (by first | omega | (refine ⟨?_, ?_⟩ <;> (first | omega | rfl | assumption | decide | exact Or.inl rfl | exact Or.inr rfl | (simp only; omega)))) (by omega) _ (lv_sub hl [2, 3, 0] rfl)
          · skip
            have c_49' : (ck el_45).toInt ≠ (sn el_45).toInt := jb_eq_n (rfl) (rfl) c_49
            refine lv_aload_n hx hb dX14_nextDocument_30 rfl (lv_at hl 0 rfl) ?_
            refine lv_aload_n hx hb dX14_nextDocument_31 rfl (lv_at hl 1 rfl) ?_
            refine j7_read hx hb hown hK (C := RX14) (T := TX14) (N := 74) rfl hly_16_60 hlk_129 (hh_48.at 6 rfl) dX14_nextDocument_32 ?_
            refine lv_iconst (v := 0) hx hb dX14_nextDocument_35 (by decide) ?_
            refine j7_qaldI hx hb hK2 hh_48 hB208 0 rfl (by decide) hg_co (x := 0) ((by decide)) (by omega) (hh_48.iv 3 rfl) dX14_nextDocument_36 (fun o_51 ho_51 heo_51 => ?_)
            rcases ho_51 with rfl | ⟨el_52, rfl, hg_el_52⟩
            · simp only [va_rf]
              refine lv_acmp_eq (rx := (some el_45)) (ry := none) (tgt := 69) hx hb dX14_nextDocument_37 (by decide) (fun c_53 => ?_) (fun c_53 => ?_)
              · skip
                cases c_53
              · skip
                refine lv_aload_n hx hb dX14_nextDocument_40 rfl (lv_at hl 0 rfl) ?_
                refine lv_aload_n hx hb dX14_nextDocument_41 rfl (lv_at hl 1 rfl) ?_
                refine j7_read hx hb hown hK (C := RX14) (T := TX14) (N := 74) rfl hly_16_60 hlk_129 (hh_48.at 6 rfl) dX14_nextDocument_42 ?_
                refine lv_iconst (v := 1) hx hb dX14_nextDocument_45 (by decide) ?_
                refine j7_qaldI hx hb hK2 hh_48 hB208 0 rfl (by decide) hg_co (x := 1) ((by decide)) (by omega) (hh_48.iv 3 rfl) dX14_nextDocument_46 (fun o_54 ho_54 heo_54 => ?_)
                rcases ho_54 with rfl | ⟨el_55, rfl, hg_el_55⟩
                · simp only [va_rf]
                  refine lv_acmp_ne (rx := (some el_45)) (ry := none) (tgt := 53) hx hb dX14_nextDocument_47 (by decide) (fun c_56 => ?_) (fun c_56 => ?_)
                  · skip
                    refine lv_aload_n hx hb dX14_nextDocument_53 rfl (lv_at hl 1 rfl) ?_
                    refine lv_aload_n hx hb dX14_nextDocument_54 rfl (lv_at hl 0 rfl) ?_
                    refine va_calli (A0 := jA base) (H0 := s.heap) (va_runV (As := [.ref el_45]) (rest := []) ⟨hx, hb, hml, hown, hts⟩ (uX14_isWaitedFor l dC dI ca base B hB hAp hB14 hB16 hB202 G0 H_2 r0 el_45) (cwV 1 hts (jgV (jWr_90 _ (List.mem_of_getElem? (i := 0) rfl)) (jWr_90 _ (List.mem_of_getElem? (i := 1) rfl)) (jWr_90 _ (List.mem_of_getElem? (i := 2) rfl)) (jWr_1 _ (List.mem_of_getElem? (i := 5) rfl)) (jWr_90 _ (List.mem_of_getElem? (i := 3) rfl))) rfl rfl rfl (by decide +kernel) ⟨by rw [← hR]; exact Nat.le_of_ble_eq_true rfl, by rw [← hR]; exact Nat.le_of_ble_eq_true rfl⟩) ⟨fun a U g mk q => by obtain ⟨q0, q1, q2, qK, q10, q11, q12, q13, q14⟩ := q; exact ⟨q0, q1, q2, jG.calling g mk a qK, (va_K.moved (Vm.Alike.refl U.vm) q10), q11, q12, q13, q14⟩, hh_48.recv (C := RX14) (T := TX14) (N := 74) hB16 rfl (by decide) hg_r0 hK, fun U hU hW => ⟨rfl, hU, hh_48.2.1, hG.step hW hU hh_48.1, va_K.moved hW.alike hK2, hg_el_45, hg_r0, jP.nil, trivial⟩⟩ rfl rfl hl.1 rfl (lv_room (Nat.le_of_ble_eq_true rfl)) dX14_nextDocument_55 ⟨Nat.zero_le _, Nat.zero_le _⟩) hh_48.1 (fun q _ h => h) (fun q h => h) (fun r_58 u_57 t_57 H_57 locs_57 ht_57 hvm_57 hr_58 hb_57 hz_57 hk_57 hS_57 => ?_)
                    rw [ht_57] at hb_57
                    obtain ⟨hb_571, hb_572, hb_573, hb_574, hb_575⟩ := hb_57
                    have hh_57 : jSt (dC, dI) B base G0 G0 EX14_nextDocumentK s.heap 0 0 [(el_45, 14, 9, .int (ck el_45)), (el_45, 14, 6, .ref yb_46), (el_45, 14, 7, .ref ye_46), (el_45, 14, 5, .int (sn el_45)), (r0, 16, 41, .ref dd), (r0, 16, 42, .int dc), (r0, 16, 60, .ref co), (r0, 16, 61, .ref cs), (r0, 16, 46, .ref ol), (r0, 16, 47, .ref nw), (r0, 16, 71, .ref td)] [(yb_46, 190, 40, ca 1, fb_46), (ye_46, 191, 40, ca 1, fe_46), (cs, 207, 2, ca 1, fs)] [(jFs, jDY dC dI ca G0 none sn), (jF9, jVl dC dI G0 9 ck), ([(201, 0)], jQc dC dI (ca 4) dd 3 fd), ([(208, 0)], jQc dC dI (ca 4) co 2 fo)] H_57 locs_57 := ((hh_48.call hb_571 hb_572 hb_573 hb_574 hS_57 rfl (L1 := [(el_45, 14, 9, .int (ck el_45)), (el_45, 14, 6, .ref yb_46), (el_45, 14, 7, .ref ye_46), (el_45, 14, 5, .int (sn el_45)), (r0, 16, 41, .ref dd), (r0, 16, 42, .int dc), (r0, 16, 60, .ref co), (r0, 16, 61, .ref cs), (r0, 16, 46, .ref ol), (r0, 16, 47, .ref nw), (r0, 16, 71, .ref td)]) [0, 1, 2, 3, 4, 5, 6, 7, 8, 9, 10] rfl rfl (M1 := [(yb_46, 190, 40, ca 1, fb_46), (ye_46, 191, 40, ca 1, fe_46), (cs, 207, 2, ca 1, fs)]) [0, 1, 2] rfl rfl (I1 := [(jFs, jDY dC dI ca G0 none sn), (jF9, jVl dC dI G0 9 ck), ([(201, 0)], jQc dC dI (ca 4) dd 3 fd), ([(208, 0)], jQc dC dI (ca 4) co 2 fo)]) [0, 1, 2, 3] rfl rfl).more hb_575)
                    clear hh_48 ht_57 hvm_57 hz_57 hk_57 hS_57 hb_571 hb_572 hb_573 hb_574 hb_575
                    obtain ⟨hr_58b, hr_58p⟩ := hr_58
                    have hr_58' := jb_01 hr_58b
                    refine lv_if_eq (tgt := 63) hx hb dX14_nextDocument_58 (by decide) (fun c_59 => ?_) (fun c_59 => ?_)
                    · skip
                      have c_59' : r_58.toInt = 0 := jb_eq (rfl) ((by decide)) c_59
                      refine lv_aload_n hx hb dX14_nextDocument_63 rfl (lv_at hl 2 rfl) ?_
                      refine lv_ifnonnull (tgt := 69) hx hb dX14_nextDocument_64 (by decide) ?_
                      obtain ⟨z_60, ez_60⟩ : ∃ y : Int32, y = v2_2 + 1 := ⟨_, rfl⟩
                      refine lv_iinc (v := z_60) (lv' := [(2, .int z_60), (3, .ref el_45), (0, .ref r0), (1, .ref nv_3)]) hx hb dX14_nextDocument_69 hl (k := 3) rfl (by rw [ez_60]; rfl) (by decide) rfl (fun ls hl => ?_)
                      have hz_60 : z_60.toInt = v2_2.toInt + 1 := by rw [ez_60]; exact jb_iadd2 (rfl) (by decide) (by omega)
                      refine lv_goto (tgt := 4) hx hb dX14_nextDocument_72 (by decide) ?_
                      exact L4 (some nv_3) z_60 _ _ (hh_57.sub (L1 := [(r0, 16, 41, .ref dd), (r0, 16, 42, .int dc), (r0, 16, 60, .ref co), (r0, 16, 61, .ref cs), (r0, 16, 46, .ref ol), (r0, 16, 47, .ref nw), (r0, 16, 71, .ref td)]) [4, 5, 6, 7, 8, 9, 10] rfl (M1 := [(cs, 207, 2, ca 1, fs)]) [2] rfl (I1 := [(jFs, jDY dC dI ca G0 none sn), (jF9, jVl dC dI G0 9 ck), ([(201, 0)], jQc dC dI (ca 4) dd 3 fd), ([(208, 0)], jQc dC dI (ca 4) co 2 fo)]) [0, 1, 2, 3] rfl) (Or.inr ⟨_, rfl, hg_nv_3, hp_nv_3⟩) (by first | omega | (refine ⟨?_, ?_⟩ <;> (first | omega | rfl | assumption | decide | exact Or.inl rfl | exact Or.inr rfl | (simp only; omega)))) (by omega) _ (lv_sub hl [2, 3, 0] rfl)
                    · skip
                      have c_59' : r_58.toInt ≠ 0 := jb_eq_n (rfl) ((by decide)) c_59
                      refine lv_aload_n hx hb dX14_nextDocument_61 rfl (lv_at hl 0 rfl) ?_
                      rw [hQ]
                      exact W.aret (v := .ref el_45) hx hb hr (Or.inl ⟨_, rfl⟩) (Or.inr ⟨_, rfl⟩) (fun t ht hW => ⟨⟨.ref el_45, (), rfl, Or.inr ⟨_, rfl, hg_el_45, ⟨v2_2.toInt.toNat, by omega, by omega, heo_44.symm, by omega⟩⟩, hh_57.rt (M1 := []) [] rfl ht⟩, by rw [ht]; try exact hh_57.1.1, fun q h9 hq => by rw [ht]; try exact hh_57.1.2.1 q h9 hq⟩) hh_57.1.2.2 dX14_nextDocument_62
                  · skip
                    cases c_56
                · simp only [va_rf]
                  refine lv_acmp_ne (rx := (some el_45)) (ry := (some el_55)) (tgt := 53) hx hb dX14_nextDocument_47 (by decide) (fun c_61 => ?_) (fun c_61 => ?_)
                  · skip
                    refine lv_aload_n hx hb dX14_nextDocument_53 rfl (lv_at hl 1 rfl) ?_
                    refine lv_aload_n hx hb dX14_nextDocument_54 rfl (lv_at hl 0 rfl) ?_
                    refine va_calli (A0 := jA base) (H0 := s.heap) (va_runV (As := [.ref el_45]) (rest := []) ⟨hx, hb, hml, hown, hts⟩ (uX14_isWaitedFor l dC dI ca base B hB hAp hB14 hB16 hB202 G0 H_2 r0 el_45) (cwV 1 hts (jgV (jWr_90 _ (List.mem_of_getElem? (i := 0) rfl)) (jWr_90 _ (List.mem_of_getElem? (i := 1) rfl)) (jWr_90 _ (List.mem_of_getElem? (i := 2) rfl)) (jWr_1 _ (List.mem_of_getElem? (i := 5) rfl)) (jWr_90 _ (List.mem_of_getElem? (i := 3) rfl))) rfl rfl rfl (by decide +kernel) ⟨by rw [← hR]; exact Nat.le_of_ble_eq_true rfl, by rw [← hR]; exact Nat.le_of_ble_eq_true rfl⟩) ⟨fun a U g mk q => by obtain ⟨q0, q1, q2, qK, q10, q11, q12, q13, q14⟩ := q; exact ⟨q0, q1, q2, jG.calling g mk a qK, (va_K.moved (Vm.Alike.refl U.vm) q10), q11, q12, q13, q14⟩, hh_48.recv (C := RX14) (T := TX14) (N := 74) hB16 rfl (by decide) hg_r0 hK, fun U hU hW => ⟨rfl, hU, hh_48.2.1, hG.step hW hU hh_48.1, va_K.moved hW.alike hK2, hg_el_45, hg_r0, jP.nil, trivial⟩⟩ rfl rfl hl.1 rfl (lv_room (Nat.le_of_ble_eq_true rfl)) dX14_nextDocument_55 ⟨Nat.zero_le _, Nat.zero_le _⟩) hh_48.1 (fun q _ h => h) (fun q h => h) (fun r_63 u_62 t_62 H_62 locs_62 ht_62 hvm_62 hr_63 hb_62 hz_62 hk_62 hS_62 => ?_)
                    rw [ht_62] at hb_62
                    obtain ⟨hb_621, hb_622, hb_623, hb_624, hb_625⟩ := hb_62
                    have hh_62 : jSt (dC, dI) B base G0 G0 EX14_nextDocumentK s.heap 0 0 [(el_45, 14, 9, .int (ck el_45)), (el_45, 14, 6, .ref yb_46), (el_45, 14, 7, .ref ye_46), (el_45, 14, 5, .int (sn el_45)), (r0, 16, 41, .ref dd), (r0, 16, 42, .int dc), (r0, 16, 60, .ref co), (r0, 16, 61, .ref cs), (r0, 16, 46, .ref ol), (r0, 16, 47, .ref nw), (r0, 16, 71, .ref td)] [(yb_46, 190, 40, ca 1, fb_46), (ye_46, 191, 40, ca 1, fe_46), (cs, 207, 2, ca 1, fs)] [(jFs, jDY dC dI ca G0 none sn), (jF9, jVl dC dI G0 9 ck), ([(201, 0)], jQc dC dI (ca 4) dd 3 fd), ([(208, 0)], jQc dC dI (ca 4) co 2 fo)] H_62 locs_62 := ((hh_48.call hb_621 hb_622 hb_623 hb_624 hS_62 rfl (L1 := [(el_45, 14, 9, .int (ck el_45)), (el_45, 14, 6, .ref yb_46), (el_45, 14, 7, .ref ye_46), (el_45, 14, 5, .int (sn el_45)), (r0, 16, 41, .ref dd), (r0, 16, 42, .int dc), (r0, 16, 60, .ref co), (r0, 16, 61, .ref cs), (r0, 16, 46, .ref ol), (r0, 16, 47, .ref nw), (r0, 16, 71, .ref td)]) [0, 1, 2, 3, 4, 5, 6, 7, 8, 9, 10] rfl rfl (M1 := [(yb_46, 190, 40, ca 1, fb_46), (ye_46, 191, 40, ca 1, fe_46), (cs, 207, 2, ca 1, fs)]) [0, 1, 2] rfl rfl (I1 := [(jFs, jDY dC dI ca G0 none sn), (jF9, jVl dC dI G0 9 ck), ([(201, 0)], jQc dC dI (ca 4) dd 3 fd), ([(208, 0)], jQc dC dI (ca 4) co 2 fo)]) [0, 1, 2, 3] rfl rfl).more hb_625)
                    clear hh_48 ht_62 hvm_62 hz_62 hk_62 hS_62 hb_621 hb_622 hb_623 hb_624 hb_625
                    obtain ⟨hr_63b, hr_63p⟩ := hr_63
                    have hr_63' := jb_01 hr_63b
                    refine lv_if_eq (tgt := 63) hx hb dX14_nextDocument_58 (by decide) (fun c_64 => ?_) (fun c_64 => ?_)
                    · skip
                      have c_64' : r_63.toInt = 0 := jb_eq (rfl) ((by decide)) c_64
                      refine lv_aload_n hx hb dX14_nextDocument_63 rfl (lv_at hl 2 rfl) ?_
                      refine lv_ifnonnull (tgt := 69) hx hb dX14_nextDocument_64 (by decide) ?_
                      obtain ⟨z_65, ez_65⟩ : ∃ y : Int32, y = v2_2 + 1 := ⟨_, rfl⟩
                      refine lv_iinc (v := z_65) (lv' := [(2, .int z_65), (3, .ref el_45), (0, .ref r0), (1, .ref nv_3)]) hx hb dX14_nextDocument_69 hl (k := 3) rfl (by rw [ez_65]; rfl) (by decide) rfl (fun ls hl => ?_)
                      have hz_65 : z_65.toInt = v2_2.toInt + 1 := by rw [ez_65]; exact jb_iadd2 (rfl) (by decide) (by omega)
                      refine lv_goto (tgt := 4) hx hb dX14_nextDocument_72 (by decide) ?_
                      exact L4 (some nv_3) z_65 _ _ (hh_62.sub (L1 := [(r0, 16, 41, .ref dd), (r0, 16, 42, .int dc), (r0, 16, 60, .ref co), (r0, 16, 61, .ref cs), (r0, 16, 46, .ref ol), (r0, 16, 47, .ref nw), (r0, 16, 71, .ref td)]) [4, 5, 6, 7, 8, 9, 10] rfl (M1 := [(cs, 207, 2, ca 1, fs)]) [2] rfl (I1 := [(jFs, jDY dC dI ca G0 none sn), (jF9, jVl dC dI G0 9 ck), ([(201, 0)], jQc dC dI (ca 4) dd 3 fd), ([(208, 0)], jQc dC dI (ca 4) co 2 fo)]) [0, 1, 2, 3] rfl) (Or.inr ⟨_, rfl, hg_nv_3, hp_nv_3⟩) (by first | omega | (refine ⟨?_, ?_⟩ <;> (first | omega | rfl | assumption | decide | exact Or.inl rfl | exact Or.inr rfl | (simp only; omega)))) (by omega) _ (lv_sub hl [2, 3, 0] rfl)
                    · skip
                      have c_64' : r_63.toInt ≠ 0 := jb_eq_n (rfl) ((by decide)) c_64
                      refine lv_aload_n hx hb dX14_nextDocument_61 rfl (lv_at hl 0 rfl) ?_
                      rw [hQ]
                      exact W.aret (v := .ref el_45) hx hb hr (Or.inl ⟨_, rfl⟩) (Or.inr ⟨_, rfl⟩) (fun t ht hW => ⟨⟨.ref el_45, (), rfl, Or.inr ⟨_, rfl, hg_el_45, ⟨v2_2.toInt.toNat, by omega, by omega, heo_44.symm, by omega⟩⟩, hh_62.rt (M1 := []) [] rfl ht⟩, by rw [ht]; try exact hh_62.1.1, fun q h9 hq => by rw [ht]; try exact hh_62.1.2.1 q h9 hq⟩) hh_62.1.2.2 dX14_nextDocument_62
                  · skip
                    refine lv_goto (tgt := 69) hx hb dX14_nextDocument_50 (by decide) ?_
                    obtain ⟨z_66, ez_66⟩ : ∃ y : Int32, y = v2_2 + 1 := ⟨_, rfl⟩
                    refine lv_iinc (v := z_66) (lv' := [(2, .int z_66), (3, .ref el_45), (0, .ref r0), (1, .ref nv_3)]) hx hb dX14_nextDocument_69 hl (k := 3) rfl (by rw [ez_66]; rfl) (by decide) rfl (fun ls hl => ?_)
                    have hz_66 : z_66.toInt = v2_2.toInt + 1 := by rw [ez_66]; exact jb_iadd2 (rfl) (by decide) (by omega)
                    refine lv_goto (tgt := 4) hx hb dX14_nextDocument_72 (by decide) ?_
                    exact L4 (some nv_3) z_66 _ _ (hh_48.sub (L1 := [(r0, 16, 41, .ref dd), (r0, 16, 42, .int dc), (r0, 16, 60, .ref co), (r0, 16, 61, .ref cs), (r0, 16, 46, .ref ol), (r0, 16, 47, .ref nw), (r0, 16, 71, .ref td)]) [4, 5, 6, 7, 8, 9, 10] rfl (M1 := [(cs, 207, 2, ca 1, fs)]) [2] rfl (I1 := [(jFs, jDY dC dI ca G0 none sn), (jF9, jVl dC dI G0 9 ck), ([(201, 0)], jQc dC dI (ca 4) dd 3 fd), ([(208, 0)], jQc dC dI (ca 4) co 2 fo)]) [0, 1, 2, 3] rfl) (Or.inr ⟨_, rfl, hg_nv_3, hp_nv_3⟩) (by first | omega | (refine ⟨?_, ?_⟩ <;> (first | omega | rfl | assumption | decide | exact Or.inl rfl | exact Or.inr rfl | (simp only; omega)))) (by omega) _ (lv_sub hl [2, 3, 0] rfl)
            · simp only [va_rf]
              refine lv_acmp_eq (rx := (some el_45)) (ry := (some el_52)) (tgt := 69) hx hb dX14_nextDocument_37 (by decide) (fun c_67 => ?_) (fun c_67 => ?_)
              · skip
                obtain ⟨z_68, ez_68⟩ : ∃ y : Int32, y = v2_2 + 1 := ⟨_, rfl⟩
                refine lv_iinc (v := z_68) (lv' := [(2, .int z_68), (3, .ref el_45), (0, .ref r0), (1, .ref nv_3)]) hx hb dX14_nextDocument_69 hl (k := 3) rfl (by rw [ez_68]; rfl) (by decide) rfl (fun ls hl => ?_)
                have hz_68 : z_68.toInt = v2_2.toInt + 1 := by rw [ez_68]; exact jb_iadd2 (rfl) (by decide) (by omega)
                refine lv_goto (tgt := 4) hx hb dX14_nextDocument_72 (by decide) ?_
                exact L4 (some nv_3) z_68 _ _ (hh_48.sub (L1 := [(r0, 16, 41, .ref dd), (r0, 16, 42, .int dc), (r0, 16, 60, .ref co), (r0, 16, 61, .ref cs), (r0, 16, 46, .ref ol), (r0, 16, 47, .ref nw), (r0, 16, 71, .ref td)]) [4, 5, 6, 7, 8, 9, 10] rfl (M1 := [(cs, 207, 2, ca 1, fs)]) [2] rfl (I1 := [(jFs, jDY dC dI ca G0 none sn), (jF9, jVl dC dI G0 9 ck), ([(201, 0)], jQc dC dI (ca 4) dd 3 fd), ([(208, 0)], jQc dC dI (ca 4) co 2 fo)]) [0, 1, 2, 3] rfl) (Or.inr ⟨_, rfl, hg_nv_3, hp_nv_3⟩) (by first | omega | (refine ⟨?_, ?_⟩ <;> (first | omega | rfl | assumption | decide | exact Or.inl rfl | exact Or.inr rfl | (simp only; omega)))) (by omega) _ (lv_sub hl [2, 3, 0] rfl)
              · skip
                refine lv_aload_n hx hb dX14_nextDocument_40 rfl (lv_at hl 0 rfl) ?_
                refine lv_aload_n hx hb dX14_nextDocument_41 rfl (lv_at hl 1 rfl) ?_
                refine j7_read hx hb hown hK (C := RX14) (T := TX14) (N := 74) rfl hly_16_60 hlk_129 (hh_48.at 6 rfl) dX14_nextDocument_42 ?_
                refine lv_iconst (v := 1) hx hb dX14_nextDocument_45 (by decide) ?_
                refine j7_qaldI hx hb hK2 hh_48 hB208 0 rfl (by decide) hg_co (x := 1) ((by decide)) (by omega) (hh_48.iv 3 rfl) dX14_nextDocument_46 (fun o_69 ho_69 heo_69 => ?_)
                rcases ho_69 with rfl | ⟨el_70, rfl, hg_el_70⟩
                · simp only [va_rf]
                  refine lv_acmp_ne (rx := (some el_45)) (ry := none) (tgt := 53) hx hb dX14_nextDocument_47 (by decide) (fun c_71 => ?_) (fun c_71 => ?_)
                  · skip
                    refine lv_aload_n hx hb dX14_nextDocument_53 rfl (lv_at hl 1 rfl) ?_
                    refine lv_aload_n hx hb dX14_nextDocument_54 rfl (lv_at hl 0 rfl) ?_
                    refine va_calli (A0 := jA base) (H0 := s.heap) (va_runV (As := [.ref el_45]) (rest := []) ⟨hx, hb, hml, hown, hts⟩ (uX14_isWaitedFor l dC dI ca base B hB hAp hB14 hB16 hB202 G0 H_2 r0 el_45) (cwV 1 hts (jgV (jWr_90 _ (List.mem_of_getElem? (i := 0) rfl)) (jWr_90 _ (List.mem_of_getElem? (i := 1) rfl)) (jWr_90 _ (List.mem_of_getElem? (i := 2) rfl)) (jWr_1 _ (List.mem_of_getElem? (i := 5) rfl)) (jWr_90 _ (List.mem_of_getElem? (i := 3) rfl))) rfl rfl rfl (by decide +kernel) ⟨by rw [← hR]; exact Nat.le_of_ble_eq_true rfl, by rw [← hR]; exact Nat.le_of_ble_eq_true rfl⟩) ⟨fun a U g mk q => by obtain ⟨q0, q1, q2, qK, q10, q11, q12, q13, q14⟩ := q; exact ⟨q0, q1, q2, jG.calling g mk a qK, (va_K.moved (Vm.Alike.refl U.vm) q10), q11, q12, q13, q14⟩, hh_48.recv (C := RX14) (T := TX14) (N := 74) hB16 rfl (by decide) hg_r0 hK, fun U hU hW => ⟨rfl, hU, hh_48.2.1, hG.step hW hU hh_48.1, va_K.moved hW.alike hK2, hg_el_45, hg_r0, jP.nil, trivial⟩⟩ rfl rfl hl.1 rfl (lv_room (Nat.le_of_ble_eq_true rfl)) dX14_nextDocument_55 ⟨Nat.zero_le _, Nat.zero_le _⟩) hh_48.1 (fun q _ h => h) (fun q h => h) (fun r_73 u_72 t_72 H_72 locs_72 ht_72 hvm_72 hr_73 hb_72 hz_72 hk_72 hS_72 => ?_)
                    rw [ht_72] at hb_72
                    obtain ⟨hb_721, hb_722, hb_723, hb_724, hb_725⟩ := hb_72
                    have hh_72 : jSt (dC, dI) B base G0 G0 EX14_nextDocumentK s.heap 0 0 [(el_45, 14, 9, .int (ck el_45)), (el_45, 14, 6, .ref yb_46), (el_45, 14, 7, .ref ye_46), (el_45, 14, 5, .int (sn el_45)), (r0, 16, 41, .ref dd), (r0, 16, 42, .int dc), (r0, 16, 60, .ref co), (r0, 16, 61, .ref cs), (r0, 16, 46, .ref ol), (r0, 16, 47, .ref nw), (r0, 16, 71, .ref td)] [(yb_46, 190, 40, ca 1, fb_46), (ye_46, 191, 40, ca 1, fe_46), (cs, 207, 2, ca 1, fs)] [(jFs, jDY dC dI ca G0 none sn), (jF9, jVl dC dI G0 9 ck), ([(201, 0)], jQc dC dI (ca 4) dd 3 fd), ([(208, 0)], jQc dC dI (ca 4) co 2 fo)] H_72 locs_72 := ((hh_48.call hb_721 hb_722 hb_723 hb_724 hS_72 rfl (L1 := [(el_45, 14, 9, .int (ck el_45)), (el_45, 14, 6, .ref yb_46), (el_45, 14, 7, .ref ye_46), (el_45, 14, 5, .int (sn el_45)), (r0, 16, 41, .ref dd), (r0, 16, 42, .int dc), (r0, 16, 60, .ref co), (r0, 16, 61, .ref cs), (r0, 16, 46, .ref ol), (r0, 16, 47, .ref nw), (r0, 16, 71, .ref td)]) [0, 1, 2, 3, 4, 5, 6, 7, 8, 9, 10] rfl rfl (M1 := [(yb_46, 190, 40, ca 1, fb_46), (ye_46, 191, 40, ca 1, fe_46), (cs, 207, 2, ca 1, fs)]) [0, 1, 2] rfl rfl (I1 := [(jFs, jDY dC dI ca G0 none sn), (jF9, jVl dC dI G0 9 ck), ([(201, 0)], jQc dC dI (ca 4) dd 3 fd), ([(208, 0)], jQc dC dI (ca 4) co 2 fo)]) [0, 1, 2, 3] rfl rfl).more hb_725)
                    clear hh_48 ht_72 hvm_72 hz_72 hk_72 hS_72 hb_721 hb_722 hb_723 hb_724 hb_725
                    obtain ⟨hr_73b, hr_73p⟩ := hr_73
                    have hr_73' := jb_01 hr_73b
                    refine lv_if_eq (tgt := 63) hx hb dX14_nextDocument_58 (by decide) (fun c_74 => ?_) (fun c_74 => ?_)
                    · skip
                      have c_74' : r_73.toInt = 0 := jb_eq (rfl) ((by decide)) c_74
                      refine lv_aload_n hx hb dX14_nextDocument_63 rfl (lv_at hl 2 rfl) ?_
                      refine lv_ifnonnull (tgt := 69) hx hb dX14_nextDocument_64 (by decide) ?_
                      obtain ⟨z_75, ez_75⟩ : ∃ y : Int32, y = v2_2 + 1 := ⟨_, rfl⟩
                      refine lv_iinc (v := z_75) (lv' := [(2, .int z_75), (3, .ref el_45), (0, .ref r0), (1, .ref nv_3)]) hx hb dX14_nextDocument_69 hl (k := 3) rfl (by rw [ez_75]; rfl) (by decide) rfl (fun ls hl => ?_)
                      have hz_75 : z_75.toInt = v2_2.toInt + 1 := by rw [ez_75]; exact jb_iadd2 (rfl) (by decide) (by omega)
                      refine lv_goto (tgt := 4) hx hb dX14_nextDocument_72 (by decide) ?_
                      exact L4 (some nv_3) z_75 _ _ (hh_72.sub (L1 := [(r0, 16, 41, .ref dd), (r0, 16, 42, .int dc), (r0, 16, 60, .ref co), (r0, 16, 61, .ref cs), (r0, 16, 46, .ref ol), (r0, 16, 47, .ref nw), (r0, 16, 71, .ref td)]) [4, 5, 6, 7, 8, 9, 10] rfl (M1 := [(cs, 207, 2, ca 1, fs)]) [2] rfl (I1 := [(jFs, jDY dC dI ca G0 none sn), (jF9, jVl dC dI G0 9 ck), ([(201, 0)], jQc dC dI (ca 4) dd 3 fd), ([(208, 0)], jQc dC dI (ca 4) co 2 fo)]) [0, 1, 2, 3] rfl) (Or.inr ⟨_, rfl, hg_nv_3, hp_nv_3⟩) (by first | omega | (refine ⟨?_, ?_⟩ <;> (first | omega | rfl | assumption | decide | exact Or.inl rfl | exact Or.inr rfl | (simp only; omega)))) (by omega) _ (lv_sub hl [2, 3, 0] rfl)
                    · skip
                      have c_74' : r_73.toInt ≠ 0 := jb_eq_n (rfl) ((by decide)) c_74
                      refine lv_aload_n hx hb dX14_nextDocument_61 rfl (lv_at hl 0 rfl) ?_
                      rw [hQ]
                      exact W.aret (v := .ref el_45) hx hb hr (Or.inl ⟨_, rfl⟩) (Or.inr ⟨_, rfl⟩) (fun t ht hW => ⟨⟨.ref el_45, (), rfl, Or.inr ⟨_, rfl, hg_el_45, ⟨v2_2.toInt.toNat, by omega, by omega, heo_44.symm, by omega⟩⟩, hh_72.rt (M1 := []) [] rfl ht⟩, by rw [ht]; try exact hh_72.1.1, fun q h9 hq => by rw [ht]; try exact hh_72.1.2.1 q h9 hq⟩) hh_72.1.2.2 dX14_nextDocument_62
                  · skip
                    cases c_71
                · simp only [va_rf]
                  refine lv_acmp_ne (rx := (some el_45)) (ry := (some el_70)) (tgt := 53) hx hb dX14_nextDocument_47 (by decide) (fun c_76 => ?_) (fun c_76 => ?_)
                  · skip
                    refine lv_aload_n hx hb dX14_nextDocument_53 rfl (lv_at hl 1 rfl) ?_
                    refine lv_aload_n hx hb dX14_nextDocument_54 rfl (lv_at hl 0 rfl) ?_
                    refine va_calli (A0 := jA base) (H0 := s.heap) (va_runV (As := [.ref el_45]) (rest := []) ⟨hx, hb, hml, hown, hts⟩ (uX14_isWaitedFor l dC dI ca base B hB hAp hB14 hB16 hB202 G0 H_2 r0 el_45) (cwV 1 hts (jgV (jWr_90 _ (List.mem_of_getElem? (i := 0) rfl)) (jWr_90 _ (List.mem_of_getElem? (i := 1) rfl)) (jWr_90 _ (List.mem_of_getElem? (i := 2) rfl)) (jWr_1 _ (List.mem_of_getElem? (i := 5) rfl)) (jWr_90 _ (List.mem_of_getElem? (i := 3) rfl))) rfl rfl rfl (by decide +kernel) ⟨by rw [← hR]; exact Nat.le_of_ble_eq_true rfl, by rw [← hR]; exact Nat.le_of_ble_eq_true rfl⟩) ⟨fun a U g mk q => by obtain ⟨q0, q1, q2, qK, q10, q11, q12, q13, q14⟩ := q; exact ⟨q0, q1, q2, jG.calling g mk a qK, (va_K.moved (Vm.Alike.refl U.vm) q10), q11, q12, q13, q14⟩, hh_48.recv (C := RX14) (T := TX14) (N := 74) hB16 rfl (by decide) hg_r0 hK, fun U hU hW => ⟨rfl, hU, hh_48.2.1, hG.step hW hU hh_48.1, va_K.moved hW.alike hK2, hg_el_45, hg_r0, jP.nil, trivial⟩⟩ rfl rfl hl.1 rfl (lv_room (Nat.le_of_ble_eq_true rfl)) dX14_nextDocument_55 ⟨Nat.zero_le _, Nat.zero_le _⟩) hh_48.1 (fun q _ h => h) (fun q h => h) (fun r_78 u_77 t_77 H_77 locs_77 ht_77 hvm_77 hr_78 hb_77 hz_77 hk_77 hS_77 => ?_)
                    rw [ht_77] at hb_77
                    obtain ⟨hb_771, hb_772, hb_773, hb_774, hb_775⟩ := hb_77
                    have hh_77 : jSt (dC, dI) B base G0 G0 EX14_nextDocumentK s.heap 0 0 [(el_45, 14, 9, .int (ck el_45)), (el_45, 14, 6, .ref yb_46), (el_45, 14, 7, .ref ye_46), (el_45, 14, 5, .int (sn el_45)), (r0, 16, 41, .ref dd), (r0, 16, 42, .int dc), (r0, 16, 60, .ref co), (r0, 16, 61, .ref cs), (r0, 16, 46, .ref ol), (r0, 16, 47, .ref nw), (r0, 16, 71, .ref td)] [(yb_46, 190, 40, ca 1, fb_46), (ye_46, 191, 40, ca 1, fe_46), (cs, 207, 2, ca 1, fs)] [(jFs, jDY dC dI ca G0 none sn), (jF9, jVl dC dI G0 9 ck), ([(201, 0)], jQc dC dI (ca 4) dd 3 fd), ([(208, 0)], jQc dC dI (ca 4) co 2 fo)] H_77 locs_77 := ((hh_48.call hb_771 hb_772 hb_773 hb_774 hS_77 rfl (L1 := [(el_45, 14, 9, .int (ck el_45)), (el_45, 14, 6, .ref yb_46), (el_45, 14, 7, .ref ye_46), (el_45, 14, 5, .int (sn el_45)), (r0, 16, 41, .ref dd), (r0, 16, 42, .int dc), (r0, 16, 60, .ref co), (r0, 16, 61, .ref cs), (r0, 16, 46, .ref ol), (r0, 16, 47, .ref nw), (r0, 16, 71, .ref td)]) [0, 1, 2, 3, 4, 5, 6, 7, 8, 9, 10] rfl rfl (M1 := [(yb_46, 190, 40, ca 1, fb_46), (ye_46, 191, 40, ca 1, fe_46), (cs, 207, 2, ca 1, fs)]) [0, 1, 2] rfl rfl (I1 := [(jFs, jDY dC dI ca G0 none sn), (jF9, jVl dC dI G0 9 ck), ([(201, 0)], jQc dC dI (ca 4) dd 3 fd), ([(208, 0)], jQc dC dI (ca 4) co 2 fo)]) [0, 1, 2, 3] rfl rfl).more hb_775)
                    clear hh_48 ht_77 hvm_77 hz_77 hk_77 hS_77 hb_771 hb_772 hb_773 hb_774 hb_775
                    obtain ⟨hr_78b, hr_78p⟩ := hr_78
                    have hr_78' := jb_01 hr_78b
                    refine lv_if_eq (tgt := 63) hx hb dX14_nextDocument_58 (by decide) (fun c_79 => ?_) (fun c_79 => ?_)
                    · skip
                      have c_79' : r_78.toInt = 0 := jb_eq (rfl) ((by decide)) c_79
                      refine lv_aload_n hx hb dX14_nextDocument_63 rfl (lv_at hl 2 rfl) ?_
                      refine lv_ifnonnull (tgt := 69) hx hb dX14_nextDocument_64 (by decide) ?_
                      obtain ⟨z_80, ez_80⟩ : ∃ y : Int32, y = v2_2 + 1 := ⟨_, rfl⟩
                      refine lv_iinc (v := z_80) (lv' := [(2, .int z_80), (3, .ref el_45), (0, .ref r0), (1, .ref nv_3)]) hx hb dX14_nextDocument_69 hl (k := 3) rfl (by rw [ez_80]; rfl) (by decide) rfl (fun ls hl => ?_)
                      have hz_80 : z_80.toInt = v2_2.toInt + 1 := by rw [ez_80]; exact jb_iadd2 (rfl) (by decide) (by omega)
                      refine lv_goto (tgt := 4) hx hb dX14_nextDocument_72 (by decide) ?_
                      exact L4 (some nv_3) z_80 _ _ (hh_77.sub (L1 := [(r0, 16, 41, .ref dd), (r0, 16, 42, .int dc), (r0, 16, 60, .ref co), (r0, 16, 61, .ref cs), (r0, 16, 46, .ref ol), (r0, 16, 47, .ref nw), (r0, 16, 71, .ref td)]) [4, 5, 6, 7, 8, 9, 10] rfl (M1 := [(cs, 207, 2, ca 1, fs)]) [2] rfl (I1 := [(jFs, jDY dC dI ca G0 none sn), (jF9, jVl dC dI G0 9 ck), ([(201, 0)], jQc dC dI (ca 4) dd 3 fd), ([(208, 0)], jQc dC dI (ca 4) co 2 fo)]) [0, 1, 2, 3] rfl) (Or.inr ⟨_, rfl, hg_nv_3, hp_nv_3⟩) (by first | omega | (refine ⟨?_, ?_⟩ <;> (first | omega | rfl | assumption | decide | exact Or.inl rfl | exact Or.inr rfl | (simp only; omega)))) (by omega) _ (lv_sub hl [2, 3, 0] rfl)
                    · skip
                      have c_79' : r_78.toInt ≠ 0 := jb_eq_n (rfl) ((by decide)) c_79
                      refine lv_aload_n hx hb dX14_nextDocument_61 rfl (lv_at hl 0 rfl) ?_
                      rw [hQ]
                      exact W.aret (v := .ref el_45) hx hb hr (Or.inl ⟨_, rfl⟩) (Or.inr ⟨_, rfl⟩) (fun t ht hW => ⟨⟨.ref el_45, (), rfl, Or.inr ⟨_, rfl, hg_el_45, ⟨v2_2.toInt.toNat, by omega, by omega, heo_44.symm, by omega⟩⟩, hh_77.rt (M1 := []) [] rfl ht⟩, by rw [ht]; try exact hh_77.1.1, fun q h9 hq => by rw [ht]; try exact hh_77.1.2.1 q h9 hq⟩) hh_77.1.2.2 dX14_nextDocument_62
                  · skip
                    refine lv_goto (tgt := 69) hx hb dX14_nextDocument_50 (by decide) ?_
                    obtain ⟨z_81, ez_81⟩ : ∃ y : Int32, y = v2_2 + 1 := ⟨_, rfl⟩
                    refine lv_iinc (v := z_81) (lv' := [(2, .int z_81), (3, .ref el_45), (0, .ref r0), (1, .ref nv_3)]) hx hb dX14_nextDocument_69 hl (k := 3) rfl (by rw [ez_81]; rfl) (by decide) rfl (fun ls hl => ?_)
                    have hz_81 : z_81.toInt = v2_2.toInt + 1 := by rw [ez_81]; exact jb_iadd2 (rfl) (by decide) (by omega)
                    refine lv_goto (tgt := 4) hx hb dX14_nextDocument_72 (by decide) ?_
                    exact L4 (some nv_3) z_81 _ _ (hh_48.sub (L1 := [(r0, 16, 41, .ref dd), (r0, 16, 42, .int dc), (r0, 16, 60, .ref co), (r0, 16, 61, .ref cs), (r0, 16, 46, .ref ol), (r0, 16, 47, .ref nw), (r0, 16, 71, .ref td)]) [4, 5, 6, 7, 8, 9, 10] rfl (M1 := [(cs, 207, 2, ca 1, fs)]) [2] rfl (I1 := [(jFs, jDY dC dI ca G0 none sn), (jF9, jVl dC dI G0 9 ck), ([(201, 0)], jQc dC dI (ca 4) dd 3 fd), ([(208, 0)], jQc dC dI (ca 4) co 2 fo)]) [0, 1, 2, 3] rfl) (Or.inr ⟨_, rfl, hg_nv_3, hp_nv_3⟩) (by first | omega | (refine ⟨?_, ?_⟩ <;> (first | omega | rfl | assumption | decide | exact Or.inl rfl | exact Or.inr rfl | (simp only; omega)))) (by omega) _ (lv_sub hl [2, 3, 0] rfl)
  exact L4 (dc.toInt - (0 : Int32).toInt : Int).toNat.succ none 0 _ _ hh (Or.inl rfl) (by first | omega | (refine ⟨?_, ?_⟩ <;> (first | omega | rfl | assumption | decide | exact Or.inl rfl | exact Or.inr rfl | (simp only; omega)))) (by omega) _ (lv_sub hl [2, 1, 0] rfl)
end
section
theorem dX14_takeCheck_0 : decode cX14_takeCheck 0 = .ok (.aload_n 0, 1) := by decide +kernel
theorem dX14_takeCheck_1 : decode cX14_takeCheck 1 = .ok (.invokevirtual 782, 3) := by decide +kernel
theorem dX14_takeCheck_4 : decode cX14_takeCheck 4 = .ok (.astore_n 2, 1) := by decide +kernel
theorem dX14_takeCheck_5 : decode cX14_takeCheck 5 = .ok (.aload_n 2, 1) := by decide +kernel
theorem dX14_takeCheck_6 : decode cX14_takeCheck 6 = .ok (.ifnonnull 4, 3) := by decide +kernel
theorem dX14_takeCheck_9 : decode cX14_takeCheck 9 = .ok (.return_, 1) := by decide +kernel
theorem dX14_takeCheck_10 : decode cX14_takeCheck 10 = .ok (.aload_n 2, 1) := by decide +kernel
theorem dX14_takeCheck_11 : decode cX14_takeCheck 11 = .ok (.getfield 531, 3) := by decide +kernel
theorem dX14_takeCheck_14 : decode cX14_takeCheck 14 = .ok (.istore_n 3, 1) := by decide +kernel
theorem dX14_takeCheck_15 : decode cX14_takeCheck 15 = .ok (.aload_n 0, 1) := by decide +kernel
theorem dX14_takeCheck_16 : decode cX14_takeCheck 16 = .ok (.getfield 129, 3) := by decide +kernel
theorem dX14_takeCheck_19 : decode cX14_takeCheck 19 = .ok (.iload_n 1, 1) := by decide +kernel
theorem dX14_takeCheck_20 : decode cX14_takeCheck 20 = .ok (.aload_n 2, 1) := by decide +kernel
theorem dX14_takeCheck_21 : decode cX14_takeCheck 21 = .ok (.aastore, 1) := by decide +kernel
theorem dX14_takeCheck_22 : decode cX14_takeCheck 22 = .ok (.aload_n 0, 1) := by decide +kernel
theorem dX14_takeCheck_23 : decode cX14_takeCheck 23 = .ok (.getfield 132, 3) := by decide +kernel
theorem dX14_takeCheck_26 : decode cX14_takeCheck 26 = .ok (.iload_n 1, 1) := by decide +kernel
theorem dX14_takeCheck_27 : decode cX14_takeCheck 27 = .ok (.iload_n 3, 1) := by decide +kernel
theorem dX14_takeCheck_28 : decode cX14_takeCheck 28 = .ok (.iastore, 1) := by decide +kernel
theorem dX14_takeCheck_29 : decode cX14_takeCheck 29 = .ok (.aload_n 0, 1) := by decide +kernel
theorem dX14_takeCheck_30 : decode cX14_takeCheck 30 = .ok (.aload_n 2, 1) := by decide +kernel
theorem dX14_takeCheck_31 : decode cX14_takeCheck 31 = .ok (.iload_n 3, 1) := by decide +kernel
theorem dX14_takeCheck_32 : decode cX14_takeCheck 32 = .ok (.invokevirtual 786, 3) := by decide +kernel
theorem dX14_takeCheck_35 : decode cX14_takeCheck 35 = .ok (.aload_n 0, 1) := by decide +kernel
theorem dX14_takeCheck_36 : decode cX14_takeCheck 36 = .ok (.getfield 138, 3) := by decide +kernel
theorem dX14_takeCheck_39 : decode cX14_takeCheck 39 = .ok (.iload_n 1, 1) := by decide +kernel
theorem dX14_takeCheck_40 : decode cX14_takeCheck 40 = .ok (.aload_n 0, 1) := by decide +kernel
theorem dX14_takeCheck_41 : decode cX14_takeCheck 41 = .ok (.invokevirtual 772, 3) := by decide +kernel
theorem dX14_takeCheck_44 : decode cX14_takeCheck 44 = .ok (.ifCond .lt 7, 3) := by decide +kernel
theorem dX14_takeCheck_47 : decode cX14_takeCheck 47 = .ok (.iconst 1, 1) := by decide +kernel
theorem dX14_takeCheck_48 : decode cX14_takeCheck 48 = .ok (.goto 4, 3) := by decide +kernel
theorem dX14_takeCheck_51 : decode cX14_takeCheck 51 = .ok (.iconst 0, 1) := by decide +kernel
theorem dX14_takeCheck_52 : decode cX14_takeCheck 52 = .ok (.bastore, 1) := by decide +kernel
theorem dX14_takeCheck_53 : decode cX14_takeCheck 53 = .ok (.aload_n 0, 1) := by decide +kernel
theorem dX14_takeCheck_54 : decode cX14_takeCheck 54 = .ok (.getfield 135, 3) := by decide +kernel
theorem dX14_takeCheck_57 : decode cX14_takeCheck 57 = .ok (.iload_n 1, 1) := by decide +kernel
theorem dX14_takeCheck_58 : decode cX14_takeCheck 58 = .ok (.aload_n 0, 1) := by decide +kernel
theorem dX14_takeCheck_59 : decode cX14_takeCheck 59 = .ok (.getfield 138, 3) := by decide +kernel
theorem dX14_takeCheck_62 : decode cX14_takeCheck 62 = .ok (.iload_n 1, 1) := by decide +kernel
theorem dX14_takeCheck_63 : decode cX14_takeCheck 63 = .ok (.baload, 1) := by decide +kernel
theorem dX14_takeCheck_64 : decode cX14_takeCheck 64 = .ok (.ifCond .eq 7, 3) := by decide +kernel
theorem dX14_takeCheck_67 : decode cX14_takeCheck 67 = .ok (.iconst 1, 1) := by decide +kernel
theorem dX14_takeCheck_68 : decode cX14_takeCheck 68 = .ok (.goto 9, 3) := by decide +kernel
theorem dX14_takeCheck_71 : decode cX14_takeCheck 71 = .ok (.aload_n 0, 1) := by decide +kernel
theorem dX14_takeCheck_72 : decode cX14_takeCheck 72 = .ok (.aload_n 2, 1) := by decide +kernel
theorem dX14_takeCheck_73 : decode cX14_takeCheck 73 = .ok (.iload_n 3, 1) := by decide +kernel
theorem dX14_takeCheck_74 : decode cX14_takeCheck 74 = .ok (.invokevirtual 789, 3) := by decide +kernel
theorem dX14_takeCheck_77 : decode cX14_takeCheck 77 = .ok (.iastore, 1) := by decide +kernel
theorem dX14_takeCheck_78 : decode cX14_takeCheck 78 = .ok (.return_, 1) := by decide +kernel
def EX14_takeCheck : List (Nat × Nat) := [(15, 5), (15, 7), (15, 10), (15, 11), (15, 15), (15, 18), (15, 21), (15, 30), (15, 31), (16, 70), (101, 0), (103, 0), (155, 0), (156, 0), (157, 0), (166, 0), (167, 0), (207, 0), (208, 0)]
set_option maxHeartbeats 4000000 in
set_option maxRecDepth 20000 in
theorem uX14_takeCheck (l : Launch) (dC : Nat → ClassId) (dI : Nat → Nat → Nat) (ca : Nat → ClassId) (base : Nat) (B : jF) (hB : jBok B) (hAp : jAp (dC, dI)) (hB14 : ∀ n G a H, B 14 n G a H ↔ jOb (dC, dI) 14 11 (F14 n G) a H) (hB15 : ∀ n G a H, B 15 n G a H ↔ jOb (dC, dI) 15 50 (F15 n G) a H) (hB16 : ∀ n G a H, B 16 n G a H ↔ jOb (dC, dI) 16 74 (F16 n G) a H) (hB101 : ∀ n G a H, B 101 n G a H ↔ jAr (dC, dI) (ca 1) (fun j z => True) n a H) (hB103 : ∀ n G a H, B 103 n G a H ↔ jAr (dC, dI) (ca 3) (fun j z => (z = 0 ∨ z = 1)) n a H) (hB155 : ∀ n G a H, B 155 n G a H ↔ jAr (dC, dI) (ca 1) (fun j z => 0 ≤ z.toInt ∧ z.toInt ≤ 11990) n a H) (hB156 : ∀ n G a H, B 156 n G a H ↔ jAr (dC, dI) (ca 1) (fun j z => 0 ≤ z.toInt ∧ z.toInt ≤ 10) n a H) (hB157 : ∀ n G a H, B 157 n G a H ↔ jAr (dC, dI) (ca 1) (fun j z => 0 ≤ z.toInt ∧ z.toInt ≤ 1599) n a H) (hB166 : ∀ n G a H, B 166 n G a H ↔ jAr (dC, dI) (ca 1) (fun j z => True) n a H) (hB167 : ∀ n G a H, B 167 n G a H ↔ jAr (dC, dI) (ca 1) (fun j z => True) n a H) (hB190 : ∀ n G a H, B 190 n G a H ↔ jAr (dC, dI) (ca 1) (fun j z => 0 ≤ z.toInt ∧ z.toInt ≤ 1500) n a H) (hB191 : ∀ n G a H, B 191 n G a H ↔ jAr (dC, dI) (ca 1) (fun j z => 0 ≤ z.toInt ∧ z.toInt ≤ 1500) n a H) (hB192 : ∀ n G a H, B 192 n G a H ↔ jAr (dC, dI) (ca 1) (fun j z => 0 ≤ z.toInt ∧ z.toInt ≤ 2) n a H) (hB194 : ∀ n G a H, B 194 n G a H ↔ jAr (dC, dI) (ca 1) (fun j z => True) n a H) (hB201 : ∀ n G a H, B 201 n G a H ↔ jAq (dC, dI) (ca 4) (jQs 14 0) n G a H) (hB202 : ∀ n G a H, B 202 n G a H ↔ jAq (dC, dI) (ca 4) (jQn 14 0) n G a H) (hB205 : ∀ n G a H, B 205 n G a H ↔ jAr (dC, dI) (ca 1) (fun j z => 0 ≤ z.toInt ∧ z.toInt ≤ 1600) n a H) (hB207 : ∀ n G a H, B 207 n G a H ↔ jAr (dC, dI) (ca 1) (fun j z => 0 ≤ z.toInt ∧ z.toInt ≤ 39) n a H) (hB208 : ∀ n G a H, B 208 n G a H ↔ jAq (dC, dI) (ca 4) (jQn 14 0) n G a H) (G0 : jT) (H0 : Heap) (r0 : Nat) (a1 : Int32) (dd : Nat) (dc : Int32) (co : Nat) (cs : Nat) (ol : Nat) (nw : Nat) (td : Nat) (sn ck : Nat → Int32) (fd fo : Nat → Option Nat) (fs : Nat → Int32) : Met l yX14_takeCheck (jw yX14_takeCheck cX14_takeCheck 4 none) ({ frames := 6, cells := 0, slots := 0, locals := 136 }) (va_Pc [.ref r0, .int a1] (fun U => U.heap = H0 ∧ jX B base G0 [] H0 ∧ jG dC dI ca base U ∧ jK2 dC dI ca U ∧ G0 r0 = some (16, 0) ∧ G0 dd = some (201, 3) ∧ G0 co = some (208, 2) ∧ G0 cs = some (207, 2) ∧ G0 ol = some (14, 0) ∧ G0 nw = some (14, 0) ∧ G0 td = some (14, 0) ∧ jP (dC, dI) G0 H0 [(r0, 16, 41, .ref dd), (r0, 16, 42, .int dc), (r0, 16, 60, .ref co), (r0, 16, 61, .ref cs), (r0, 16, 46, .ref ol), (r0, 16, 47, .ref nw), (r0, 16, 71, .ref td)] ∧ jMc (dC, dI) G0 H0 [(cs, 207, 2, ca 1, fs)] ∧ jIs (dC, dI) G0 H0 [(jFs, jDY dC dI ca G0 none sn), (jF9, jVl dC dI G0 9 ck), ([(201, 0)], jQc dC dI (ca 4) dd 3 fd), ([(208, 0)], jQc dC dI (ca 4) co 2 fo)] ∧ jPu sn ck fd fo fs dc.toInt ol nw td ∧ 0 ≤ a1.toInt ∧ a1.toInt ≤ 1)) (va_Qv (S := Unit) (fun u => True) (fun u t => (jRt (dC, dI) B base G0 EX14_takeCheck H0 [] t.heap) ∧ jDV dC dI ca G0 r0 dd co cs ol nw td t.heap) (jA base)) 0 0 (jA base) := by
  refine Met.ofW (cc := cX14_takeCheck) (maxL := 4) (ret := none) (by decide) rfl ?_
  intro p e s m args below meth c s₁ Bd hml hv
  obtain ⟨rfl, hH0, hX, hG, hK2, hg_r0, hg_dd, hg_co, hg_cs, hg_ol, hg_nw, hg_td, hP0, hM0, hI0, hp0, hp1, hp2⟩ := hv
  have hK := hG.1
  have hx := Bd.exec
  have hb := Bd.bytes
  have hr := Bd.returns
  have hts := atoms_spec (ws := (jw yX14_takeCheck cX14_takeCheck 4 none)) Bd.pre
  have htw : ∀ w ∈ jWl, w.before _ s = true := fun w h => hts w (List.mem_cons_of_mem _ h)
  have hown : s.vm.findClass RX14 = some m.cls := findClass_of_methodNamed Bd.named
  have hlocks := Bd.notSynchronized
  obtain ⟨Q, hQ⟩ : ∃ Q, Q = MQ below (va_Qv (S := Unit) (fun u => True) (fun u t => (jRt (dC, dI) B base G0 EX14_takeCheck H0 [] t.heap) ∧ jDV dC dI ca G0 r0 dd co cs ol nw td t.heap) (jA base)) ([.ref r0, .int a1] : List Value).toArray s 0 0 (jA base) := ⟨_, rfl⟩
  rw [← hQ]
  have hl := lv_entry ([.ref r0, .int a1]) (n := 4) (Nat.le_of_ble_eq_true rfl)
  rw [lg_entry_eq]
  generalize (lg_sl ([.ref r0, .int a1]) ++ List.replicate (4 - (lg_sl ([.ref r0, .int a1])).length) Slot.unset).toArray = ls at hl ⊢
  have hl : lv_has ls 4 [(0, .ref r0), (1, .int a1)] := hl
  generalize hR : (headSpec (jw yX14_takeCheck cX14_takeCheck 4 none) ({ frames := 6, cells := 0, slots := 0, locals := 136 })).room = R
  subst hH0
  have hh : jSt (dC, dI) B base G0 G0 EX14_takeCheck s.heap 0 0 [(r0, 16, 41, .ref dd), (r0, 16, 42, .int dc), (r0, 16, 60, .ref co), (r0, 16, 61, .ref cs), (r0, 16, 46, .ref ol), (r0, 16, 47, .ref nw), (r0, 16, 71, .ref td)] [(cs, 207, 2, ca 1, fs)] [(jFs, jDY dC dI ca G0 none sn), (jF9, jVl dC dI G0 9 ck), ([(201, 0)], jQc dC dI (ca 4) dd 3 fd), ([(208, 0)], jQc dC dI (ca 4) co 2 fo)] s.heap [] := jSt.start hX hP0 hM0 hI0
  clear hX hP0
  have hk0 : (0 : Int32).toInt = 0 := by decide
  have hk1 : (1 : Int32).toInt = 1 := by decide
  have hly_14_9 := htw (u_lay RX12 TX12 9) (jWc_wsX120 _ (u_in_lay (by decide)))
  have hly_16_60 := htw (u_lay RX14 TX14 60) (jWc_wsX140 _ (u_in_lay (by decide)))
  have hly_16_61 := htw (u_lay RX14 TX14 61) (jWc_wsX140 _ (u_in_lay (by decide)))
  have hly_16_62 := htw (u_lay RX14 TX14 62) (jWc_wsX140 _ (u_in_lay (by decide)))
  have hly_16_63 := htw (u_lay RX14 TX14 63) (jWc_wsX140 _ (u_in_lay (by decide)))
  have hlk_531 := (va_Nw.use (A := ([.ref r0, .int a1] : List Value).toArray) rfl (hG.2.1 RX14 531 "ProofServerModel$Document" "checked" "I" "ProofServerModel" (List.mem_of_getElem? (i := 1744) (by decide +kernel))))
  have hlk_129 := (htw (.fieldLink RX14 129 "ProofServerModel" "checkOf" "[LProofServerModel$Document;") (jWr_12 _ (List.mem_of_getElem? (i := 15) rfl)))
  have hlk_132 := (htw (.fieldLink RX14 132 "ProofServerModel" "checkSentence" "[I") (jWr_12 _ (List.mem_of_getElem? (i := 16) rfl)))
  have hlk_138 := (htw (.fieldLink RX14 138 "ProofServerModel" "checkCached" "[Z") (jWr_12 _ (List.mem_of_getElem? (i := 18) rfl)))
  have hlk_135 := (htw (.fieldLink RX14 135 "ProofServerModel" "checkLeft" "[I") (jWr_12 _ (List.mem_of_getElem? (i := 17) rfl)))
  have hrg_a1 := jb_rng a1
  refine lv_aload_n hx hb dX14_takeCheck_0 rfl (lv_at hl 0 rfl) ?_
  refine j_callx (A0 := jA base) (H0 := s.heap) (va_runV (As := []) (rest := []) ⟨hx, hb, hml, hown, hts⟩ (uX14_nextDocumentK l dC dI ca base B hB hAp hB14 hB16 hB201 hB202 hB208 G0 s.heap r0 dd dc co cs ol nw td sn ck fd fo fs) (cwV 0 hts (jgV (jWr_89 _ (List.mem_of_getElem? (i := 20) rfl)) (jWr_89 _ (List.mem_of_getElem? (i := 21) rfl)) (jWr_89 _ (List.mem_of_getElem? (i := 22) rfl)) (jWr_1 _ (List.mem_of_getElem? (i := 5) rfl)) (jWr_89 _ (List.mem_of_getElem? (i := 23) rfl))) rfl rfl rfl (by decide +kernel) ⟨by rw [← hR]; exact Nat.le_of_ble_eq_true rfl, by rw [← hR]; exact Nat.le_of_ble_eq_true rfl⟩) ⟨fun a U g mk q => by obtain ⟨q0, q1, q2, qK, q10, q11, q12, q13, q14, q15, q16, q17, q18, q19, q20, q21⟩ := q; exact ⟨q0, q1, q2, jG.calling g mk a qK, (va_K.moved (Vm.Alike.refl U.vm) q10), q11, q12, q13, q14, q15, q16, q17, q18, q19, q20, q21⟩, hh.recv (C := RX14) (T := TX14) (N := 74) hB16 rfl (by decide) hg_r0 hK, fun U hU hW => ⟨rfl, hU, hh.2.1, hG.step hW hU hh.1, va_K.moved hW.alike hK2, hg_r0, hg_dd, hg_co, hg_cs, hg_ol, hg_nw, hg_td, (hh.2.2.1.sub (L1 := [(r0, 16, 41, .ref dd), (r0, 16, 42, .int dc), (r0, 16, 60, .ref co), (r0, 16, 61, .ref cs), (r0, 16, 46, .ref ol), (r0, 16, 47, .ref nw), (r0, 16, 71, .ref td)]) [0, 1, 2, 3, 4, 5, 6] rfl), (hh.2.2.2.2.2.2.2.1.sub (L1 := [(cs, 207, 2, ca 1, fs)]) [0] rfl), (hh.2.2.2.2.2.2.2.2.sub (L1 := [(jFs, jDY dC dI ca G0 none sn), (jF9, jVl dC dI G0 9 ck), ([(201, 0)], jQc dC dI (ca 4) dd 3 fd), ([(208, 0)], jQc dC dI (ca 4) co 2 fo)]) [0, 1, 2, 3] rfl), by first | omega | rfl | assumption | decide | exact Or.inl rfl | exact Or.inr rfl | (simp only; omega)⟩⟩ rfl rfl hl.1 rfl (lv_room (Nat.le_of_ble_eq_true rfl)) dX14_takeCheck_1 ⟨Nat.zero_le _, Nat.zero_le _⟩) hh.1 (fun q _ h => h) (fun q h => h) (fun r_2 u_1 t_1 H_1 locs_1 ht_1 hvm_1 hr_2 hb_1 hz_1 hk_1 hS_1 => ?_)
  rw [ht_1] at hb_1
  obtain ⟨hb_11, hb_12, hb_13, hb_14, hb_15⟩ := hb_1
  have hh_1 : jSt (dC, dI) B base G0 G0 EX14_takeCheck s.heap 0 0 [(r0, 16, 41, .ref dd), (r0, 16, 42, .int dc), (r0, 16, 60, .ref co), (r0, 16, 61, .ref cs), (r0, 16, 46, .ref ol), (r0, 16, 47, .ref nw), (r0, 16, 71, .ref td)] [(cs, 207, 2, ca 1, fs)] [(jFs, jDY dC dI ca G0 none sn), (jF9, jVl dC dI G0 9 ck), ([(201, 0)], jQc dC dI (ca 4) dd 3 fd), ([(208, 0)], jQc dC dI (ca 4) co 2 fo)] H_1 locs_1 := ((hh.call hb_11 hb_12 hb_13 hb_14 hS_1 rfl (L1 := [(r0, 16, 41, .ref dd), (r0, 16, 42, .int dc), (r0, 16, 60, .ref co), (r0, 16, 61, .ref cs), (r0, 16, 46, .ref ol), (r0, 16, 47, .ref nw), (r0, 16, 71, .ref td)]) [0, 1, 2, 3, 4, 5, 6] rfl rfl (M1 := [(cs, 207, 2, ca 1, fs)]) [0] rfl rfl (I1 := [(jFs, jDY dC dI ca G0 none sn), (jF9, jVl dC dI G0 9 ck), ([(201, 0)], jQc dC dI (ca 4) dd 3 fd), ([(208, 0)], jQc dC dI (ca 4) co 2 fo)]) [0, 1, 2, 3] rfl rfl).more hb_15)
  clear hh ht_1 hvm_1 hz_1 hk_1 hS_1 hb_11 hb_12 hb_13 hb_14 hb_15
  rcases hr_2 with rfl | ⟨ret_3, rfl, hg_ret_3, hp_ret_3⟩
  · skip
    refine j7_nst_n (lv' := [(2, .null), (0, .ref r0), (1, .int a1)]) hx hb dX14_takeCheck_4 rfl hl (by decide) rfl (fun ls hl => ?_)
    refine j7_nld_n hx hb dX14_takeCheck_5 rfl (lv_at hl 0 rfl) ?_
    refine lv_ifnonnullN hx hb dX14_takeCheck_6 ?_
    rw [hQ]
    exact W.vret hx hb hr (fun t ht hW => ⟨⟨(), rfl, trivial, ⟨hh_1.rt (M1 := []) [] rfl ht, by rw [ht]; exact ⟨sn, ck, fs, fd, fo, dc, hh_1.2.2.1.sub (L1 := [(r0, 16, 41, .ref dd), (r0, 16, 42, .int dc), (r0, 16, 60, .ref co), (r0, 16, 61, .ref cs), (r0, 16, 46, .ref ol), (r0, 16, 47, .ref nw), (r0, 16, 71, .ref td)]) [0, 1, 2, 3, 4, 5, 6] rfl, hh_1.2.2.2.2.2.2.2.1.sub (L1 := [(cs, 207, 2, ca 1, fs)]) [0] rfl, hh_1.2.2.2.2.2.2.2.2.sub (L1 := [(jFs, jDY dC dI ca G0 none sn), (jF9, jVl dC dI G0 9 ck), ([(201, 0)], jQc dC dI (ca 4) dd 3 fd), ([(208, 0)], jQc dC dI (ca 4) co 2 fo)]) [0, 1, 2, 3] rfl, hp0⟩⟩⟩, by rw [ht]; try exact hh_1.1.1, fun q h9 hq => by rw [ht]; try exact hh_1.1.2.1 q h9 hq⟩) hh_1.1.2.2 dX14_takeCheck_9
  · skip
    refine lv_astore_n (lv' := [(2, .ref ret_3), (0, .ref r0), (1, .int a1)]) hx hb dX14_takeCheck_4 rfl hl (by decide) rfl (fun ls hl => ?_)
    refine lv_aload_n hx hb dX14_takeCheck_5 rfl (lv_at hl 0 rfl) ?_
    refine lv_ifnonnull (tgt := 10) hx hb dX14_takeCheck_6 (by decide) ?_
    obtain ⟨yb_4, ye_4, fb_4, fe_4, hg_yb_4, hg_ye_4, hP_4, hM_4, hs_4, h0_4, h4_4⟩ := jDY.at (hh_1.iv 0 rfl) hg_ret_3 (fun q => by cases q)
    have hh_5 := (hh_1.more hP_4).moreM hM_4
    clear hh_1 hP_4 hM_4
    have hh_6 := hh_5.more (jVl.at (hh_5.iv 1 rfl) hg_ret_3)
    clear hh_5
    obtain ⟨sx_7, esx_7, hsx_7⟩ := hh_6.sat (C := RX12) (T := TX12) (N := 11) hB14 rfl (by decide) hg_ret_3 (i := 9) (by decide) rfl 0 rfl
    cases esx_7
    refine lv_aload_n hx hb dX14_takeCheck_10 rfl (lv_at hl 0 rfl) ?_
    obtain ⟨d0, hd0, hd1, hd2, hd3⟩ := hp_ret_3
    have hck := hp0.2.2.1 d0 _ hd0 hd2
    refine j7_readN hx hb hown hK (C := RX12) (T := TX12) (N := 11) rfl hly_14_9 hlk_531 (hh_6.at 0 rfl) dX14_takeCheck_11 ?_
    refine lv_istore_n (lv' := [(3, .int (ck ret_3)), (2, .ref ret_3), (0, .ref r0), (1, .int a1)]) hx hb dX14_takeCheck_14 rfl hl (by decide) rfl (fun ls hl => ?_)
    refine lv_aload_n hx hb dX14_takeCheck_15 rfl (lv_at hl 2 rfl) ?_
    refine j7_read hx hb hown hK (C := RX14) (T := TX14) (N := 74) rfl hly_16_60 hlk_129 (hh_6.at 6 rfl) dX14_takeCheck_16 ?_
    refine lv_iload_n hx hb dX14_takeCheck_19 rfl (lv_at hl 3 rfl) ?_
    refine lv_aload_n hx hb dX14_takeCheck_20 rfl (lv_at hl 1 rfl) ?_
    have hd_9 := hh_6.iv 3 rfl
    have hh_11 := hh_6.sub (L1 := [(ret_3, 14, 9, .int (ck ret_3)), (ret_3, 14, 6, .ref yb_4), (ret_3, 14, 7, .ref ye_4), (ret_3, 14, 5, .int (sn ret_3)), (r0, 16, 41, .ref dd), (r0, 16, 42, .int dc), (r0, 16, 60, .ref co), (r0, 16, 61, .ref cs), (r0, 16, 46, .ref ol), (r0, 16, 47, .ref nw), (r0, 16, 71, .ref td)]) [0, 1, 2, 3, 4, 5, 6, 7, 8, 9, 10] rfl (M1 := [(yb_4, 190, 40, ca 1, fb_4), (ye_4, 191, 40, ca 1, fe_4), (cs, 207, 2, ca 1, fs)]) [0, 1, 2] rfl (I1 := [(jFs, jDY dC dI ca G0 none sn), (jF9, jVl dC dI G0 9 ck), ([(201, 0)], jQc dC dI (ca 4) dd 3 fd)]) [0, 1, 2] rfl
    clear hh_6
    refine j7_qastI hx hb hK2 hh_11 hB hB208 0 rfl (by decide) (by decide) rfl rfl rfl hg_co (x := a1.toInt) (rfl) (by omega) hB14 (T := TX12) (N := 11) rfl (by decide) hg_ret_3 (Or.inr ⟨_, rfl, hg_ret_3⟩) hd_9 dX14_takeCheck_21 (fun H_8 locs_8 fq_10 hv_8 ho_8 hq_8 hh_8 => ?_)
    clear hh_11
    have hh_12 := hh_8.addI (hq_8.ie hg_co (by decide) (by decide))
    clear hh_8
    clear hd_9
    refine lv_aload_n hx hb dX14_takeCheck_22 rfl (lv_at hl 2 rfl) ?_
    refine j7_read hx hb hown hK (C := RX14) (T := TX14) (N := 74) rfl hly_16_61 hlk_132 (hh_12.at 7 rfl) dX14_takeCheck_23 ?_
    refine lv_iload_n hx hb dX14_takeCheck_26 rfl (lv_at hl 3 rfl) ?_
    refine lv_iload_n hx hb dX14_takeCheck_27 rfl (lv_at hl 0 rfl) ?_
    refine j7_iastU hx hb hK hh_12 hB hB207 1 rfl (by decide) (by decide) rfl 2 rfl (M1 := [(yb_4, 190, 40, ca 1, fb_4), (ye_4, 191, 40, ca 1, fe_4)]) [0, 1] rfl rfl rfl hg_cs (x := a1.toInt) (rfl) (by omega) (by first | omega | (refine ⟨?_, ?_⟩ <;> (first | omega | rfl | assumption | decide | exact Or.inl rfl | exact Or.inr rfl | (simp only; omega)))) dX14_takeCheck_28 (fun H_13 locs_13 fs_14 hv_13 ho_13 hh_13 => ?_)
    have hv_13 : jSo fs_14 (a1.toInt) = (ck ret_3).toInt := by unfold jSo; rw [hv_13]; try exact rfl
    clear hh_12
    refine lv_aload_n hx hb dX14_takeCheck_29 rfl (lv_at hl 2 rfl) ?_
    refine lv_aload_n hx hb dX14_takeCheck_30 rfl (lv_at hl 1 rfl) ?_
    refine lv_iload_n hx hb dX14_takeCheck_31 rfl (lv_at hl 0 rfl) ?_
    refine va_callv (A0 := jA base) (H0 := s.heap) (va_runV (As := [.ref ret_3, .int (ck ret_3)]) (rest := []) ⟨hx, hb, hml, hown, hts⟩ (uX14_takeRow l dC dI ca base B hB hAp hB14 hB16 hB101 hB190 hB191 hB194 G0 H_13 r0 ret_3 (ck ret_3) yb_4 ye_4 (sn ret_3).toInt fb_4 fe_4) (cwV 2 hts (jgV (jWr_90 _ (List.mem_of_getElem? (i := 13) rfl)) (jWr_90 _ (List.mem_of_getElem? (i := 14) rfl)) (jWr_90 _ (List.mem_of_getElem? (i := 15) rfl)) (jWr_1 _ (List.mem_of_getElem? (i := 5) rfl)) (jWr_90 _ (List.mem_of_getElem? (i := 16) rfl))) rfl rfl rfl (by decide +kernel) ⟨by rw [← hR]; exact Nat.le_of_ble_eq_true rfl, by rw [← hR]; exact Nat.le_of_ble_eq_true rfl⟩) ⟨fun a U g mk q => by obtain ⟨q0, q1, q2, qK, q10, q11, q12, q13, q14, q15, q16⟩ := q; exact ⟨q0, q1, q2, jG.calling g mk a qK, q10, q11, q12, q13, q14, q15, q16⟩, hh_13.recv (C := RX14) (T := TX14) (N := 74) hB16 rfl (by decide) hg_r0 hK, fun U hU hW => ⟨rfl, hU, hh_13.2.1, hG.step hW hU hh_13.1, hg_ret_3, hg_r0, hg_yb_4, hg_ye_4, (hh_13.2.2.1.sub (L1 := [(ret_3, 14, 6, .ref yb_4), (ret_3, 14, 7, .ref ye_4)]) [1, 2] rfl), (hh_13.2.2.2.2.2.2.2.1.sub (L1 := [(yb_4, 190, 40, ca 1, fb_4), (ye_4, 191, 40, ca 1, fe_4)]) [1, 2] rfl), by first | omega | (refine ⟨?_, ?_, ?_, ?_⟩ <;> (first | omega | rfl | assumption | decide | exact Or.inl rfl | exact Or.inr rfl | (simp only; omega)))⟩⟩ rfl rfl hl.1 rfl (lv_room (Nat.le_of_ble_eq_true rfl)) dX14_takeCheck_32 ⟨Nat.zero_le _, Nat.zero_le _⟩) hh_13.1 (fun q _ h => h) (fun q h => h) (fun u_15 t_15 H_15 locs_15 ht_15 hvm_15 hr_16 hb_15 hz_15 hk_15 hS_15 => ?_)
    rw [ht_15] at hb_15
    obtain ⟨hb_151, hb_152, hb_153, hb_154, hb_155⟩ := hb_15
    have hh_15 : jSt (dC, dI) B base G0 G0 EX14_takeCheck s.heap 0 0 [(ret_3, 14, 9, .int (ck ret_3)), (ret_3, 14, 6, .ref yb_4), (ret_3, 14, 7, .ref ye_4), (ret_3, 14, 5, .int (sn ret_3)), (r0, 16, 41, .ref dd), (r0, 16, 42, .int dc), (r0, 16, 60, .ref co), (r0, 16, 61, .ref cs), (r0, 16, 46, .ref ol), (r0, 16, 47, .ref nw), (r0, 16, 71, .ref td)] [(cs, 207, 2, ca 1, fs_14), (yb_4, 190, 40, ca 1, fb_4), (ye_4, 191, 40, ca 1, fe_4)] [([(208, 0)], jQc dC dI (ca 4) co 2 fq_10), (jFs, jDY dC dI ca G0 none sn), (jF9, jVl dC dI G0 9 ck), ([(201, 0)], jQc dC dI (ca 4) dd 3 fd)] H_15 locs_15 := ((hh_13.call hb_151 hb_152 hb_153 hb_154 hS_15 rfl (L1 := [(ret_3, 14, 9, .int (ck ret_3)), (ret_3, 14, 6, .ref yb_4), (ret_3, 14, 7, .ref ye_4), (ret_3, 14, 5, .int (sn ret_3)), (r0, 16, 41, .ref dd), (r0, 16, 42, .int dc), (r0, 16, 60, .ref co), (r0, 16, 61, .ref cs), (r0, 16, 46, .ref ol), (r0, 16, 47, .ref nw), (r0, 16, 71, .ref td)]) [0, 1, 2, 3, 4, 5, 6, 7, 8, 9, 10] rfl rfl (M1 := [(cs, 207, 2, ca 1, fs_14), (yb_4, 190, 40, ca 1, fb_4), (ye_4, 191, 40, ca 1, fe_4)]) [0, 1, 2] rfl rfl (I1 := [([(208, 0)], jQc dC dI (ca 4) co 2 fq_10), (jFs, jDY dC dI ca G0 none sn), (jF9, jVl dC dI G0 9 ck), ([(201, 0)], jQc dC dI (ca 4) dd 3 fd)]) [0, 1, 2, 3] rfl rfl).more hb_155)
    clear hh_13 ht_15 hvm_15 hz_15 hk_15 hS_15 hb_151 hb_152 hb_153 hb_154 hb_155
    refine lv_aload_n hx hb dX14_takeCheck_35 rfl (lv_at hl 2 rfl) ?_
    obtain ⟨v_17, hv_17, hh_18⟩ := hh_15.pin (C := RX14) (T := TX14) (N := 74) hB16 rfl (by decide) hg_r0 (i := 63) (by decide) rfl
    clear hh_15
    obtain ⟨checkCached_19, rfl, hg_checkCached_19⟩ := hv_17
    refine j7_read hx hb hown hK (C := RX14) (T := TX14) (N := 74) rfl hly_16_63 hlk_138 (hh_18.at 0 rfl) dX14_takeCheck_36 ?_
    refine lv_iload_n hx hb dX14_takeCheck_39 rfl (lv_at hl 3 rfl) ?_
    refine lv_aload_n hx hb dX14_takeCheck_40 rfl (lv_at hl 2 rfl) ?_
    obtain ⟨v_22, hv_22, hh_23⟩ := hh_18.pin (C := RX14) (T := TX14) (N := 74) hB16 rfl (by decide) hg_r0 (i := 66) (by decide) rfl
    obtain ⟨cached_24, rfl, hlocached_24, hhicached_24⟩ := hv_22
    refine va_calli (A0 := jA base) (H0 := s.heap) (va_runV (As := []) (rest := [.int a1, .ref checkCached_19]) ⟨hx, hb, hml, hown, hts⟩ (uX14_inCache l dC dI ca base B hB hAp hB16 hB101 hB205 G0 H_15 r0 cached_24) (cwV 0 hts (jgV (jWr_90 _ (List.mem_of_getElem? (i := 18) rfl)) (jWr_90 _ (List.mem_of_getElem? (i := 19) rfl)) (jWr_90 _ (List.mem_of_getElem? (i := 20) rfl)) (jWr_1 _ (List.mem_of_getElem? (i := 5) rfl)) (jWr_90 _ (List.mem_of_getElem? (i := 21) rfl))) rfl rfl rfl (by decide +kernel) ⟨by rw [← hR]; exact Nat.le_of_ble_eq_true rfl, by rw [← hR]; exact Nat.le_of_ble_eq_true rfl⟩) ⟨fun a U g mk q => by obtain ⟨q0, q1, q2, qK, q10, q11, q12⟩ := q; exact ⟨q0, q1, q2, jG.calling g mk a qK, q10, q11, q12⟩, hh_23.recv (C := RX14) (T := TX14) (N := 74) hB16 rfl (by decide) hg_r0 hK, fun U hU hW => ⟨rfl, hU, hh_23.2.1, hG.step hW hU hh_23.1, hg_r0, (hh_23.2.2.1.sub (L1 := [(r0, 16, 66, .int cached_24)]) [0] rfl), by first | omega | (refine ⟨?_, ?_⟩ <;> (first | omega | rfl | assumption | decide | exact Or.inl rfl | exact Or.inr rfl | (simp only; omega)))⟩⟩ rfl rfl hl.1 rfl (lv_room (Nat.le_of_ble_eq_true rfl)) dX14_takeCheck_41 ⟨Nat.zero_le _, Nat.zero_le _⟩) hh_23.1 (fun q _ h => h) (fun q h => h) (fun r_21 u_20 t_20 H_20 locs_20 ht_20 hvm_20 hr_21 hb_20 hz_20 hk_20 hS_20 => ?_)
    rw [ht_20] at hb_20
    obtain ⟨hb_201, hb_202, hb_203, hb_204, hb_205⟩ := hb_20
    have hh_20 : jSt (dC, dI) B base G0 G0 EX14_takeCheck s.heap 0 0 [(r0, 16, 66, .int cached_24), (r0, 16, 63, .ref checkCached_19), (ret_3, 14, 9, .int (ck ret_3)), (ret_3, 14, 6, .ref yb_4), (ret_3, 14, 7, .ref ye_4), (ret_3, 14, 5, .int (sn ret_3)), (r0, 16, 41, .ref dd), (r0, 16, 42, .int dc), (r0, 16, 60, .ref co), (r0, 16, 61, .ref cs), (r0, 16, 46, .ref ol), (r0, 16, 47, .ref nw), (r0, 16, 71, .ref td)] [(cs, 207, 2, ca 1, fs_14), (yb_4, 190, 40, ca 1, fb_4), (ye_4, 191, 40, ca 1, fe_4)] [([(208, 0)], jQc dC dI (ca 4) co 2 fq_10), (jFs, jDY dC dI ca G0 none sn), (jF9, jVl dC dI G0 9 ck), ([(201, 0)], jQc dC dI (ca 4) dd 3 fd)] H_20 locs_20 := ((hh_23.call hb_201 hb_202 hb_203 hb_204 hS_20 rfl (L1 := [(r0, 16, 66, .int cached_24), (r0, 16, 63, .ref checkCached_19), (ret_3, 14, 9, .int (ck ret_3)), (ret_3, 14, 6, .ref yb_4), (ret_3, 14, 7, .ref ye_4), (ret_3, 14, 5, .int (sn ret_3)), (r0, 16, 41, .ref dd), (r0, 16, 42, .int dc), (r0, 16, 60, .ref co), (r0, 16, 61, .ref cs), (r0, 16, 46, .ref ol), (r0, 16, 47, .ref nw), (r0, 16, 71, .ref td)]) [0, 1, 2, 3, 4, 5, 6, 7, 8, 9, 10, 11, 12] rfl rfl (M1 := [(cs, 207, 2, ca 1, fs_14), (yb_4, 190, 40, ca 1, fb_4), (ye_4, 191, 40, ca 1, fe_4)]) [0, 1, 2] rfl rfl (I1 := [([(208, 0)], jQc dC dI (ca 4) co 2 fq_10), (jFs, jDY dC dI ca G0 none sn), (jF9, jVl dC dI G0 9 ck), ([(201, 0)], jQc dC dI (ca 4) dd 3 fd)]) [0, 1, 2, 3] rfl rfl).more hb_205)
    clear hh_23 ht_20 hvm_20 hz_20 hk_20 hS_20 hb_201 hb_202 hb_203 hb_204 hb_205
    obtain ⟨hr_21_0, hr_21_1, hr_21_2⟩ := hr_21
    refine lv_if_lt (tgt := 51) hx hb dX14_takeCheck_44 (by decide) (fun c_25 => ?_) (fun c_25 => ?_)
    · skip
      have c_25' : r_21.toInt < 0 := jb_lt (rfl) ((by decide)) c_25
      first | (have hr_21_2q := hr_21_2.resolve_left (by omega); clear hr_21_2) | (have hr_21_2q := hr_21_2.resolve_right (by omega); clear hr_21_2) | try clear hr_21_2
      refine lv_iconst (v := 0) hx hb dX14_takeCheck_51 (by decide) ?_
      refine j7_zast hx hb hK hh_20 hB hB103 3 rfl (by decide) (by decide) rfl rfl rfl hg_checkCached_19 (x := a1.toInt) (rfl) (by omega) (Or.inl rfl) (Or.inl rfl) dX14_takeCheck_52 (fun H_26 locs_26 hh_26 => ?_)
      clear hh_20
      refine lv_aload_n hx hb dX14_takeCheck_53 rfl (lv_at hl 2 rfl) ?_
      obtain ⟨v_27, hv_27, hh_28⟩ := hh_26.pin (C := RX14) (T := TX14) (N := 74) hB16 rfl (by decide) hg_r0 (i := 62) (by decide) rfl
      clear hh_26
      obtain ⟨checkLeft_29, rfl, hg_checkLeft_29⟩ := hv_27
      refine j7_read hx hb hown hK (C := RX14) (T := TX14) (N := 74) rfl hly_16_62 hlk_135 (hh_28.at 0 rfl) dX14_takeCheck_54 ?_
      refine lv_iload_n hx hb dX14_takeCheck_57 rfl (lv_at hl 3 rfl) ?_
      refine lv_aload_n hx hb dX14_takeCheck_58 rfl (lv_at hl 2 rfl) ?_
      refine j7_read hx hb hown hK (C := RX14) (T := TX14) (N := 74) rfl hly_16_63 hlk_138 (hh_28.at 2 rfl) dX14_takeCheck_59 ?_
      refine lv_iload_n hx hb dX14_takeCheck_62 rfl (lv_at hl 3 rfl) ?_
      refine j7_zald hx hb hK hh_28 hB103 3 rfl (by decide) hg_checkCached_19 (x := a1.toInt) (rfl) (by omega) dX14_takeCheck_63 (fun z_30 (hz_30 : (z_30 = 0 ∨ z_30 = 1)) => ?_)
      have hz_30' := jb_01 hz_30
      refine lv_if_eq (tgt := 71) hx hb dX14_takeCheck_64 (by decide) (fun c_31 => ?_) (fun c_31 => ?_)
      · skip
        have c_31' : z_30.toInt = 0 := jb_eq (rfl) ((by decide)) c_31
        refine lv_aload_n hx hb dX14_takeCheck_71 rfl (lv_at hl 2 rfl) ?_
        refine lv_aload_n hx hb dX14_takeCheck_72 rfl (lv_at hl 1 rfl) ?_
        refine lv_iload_n hx hb dX14_takeCheck_73 rfl (lv_at hl 0 rfl) ?_
        refine va_calli (A0 := jA base) (H0 := s.heap) (va_runV (As := [.ref ret_3, .int (ck ret_3)]) (rest := [.int a1, .ref checkLeft_29]) ⟨hx, hb, hml, hown, hts⟩ (uX14_costOf l dC dI ca base B hB hAp hB14 hB15 hB16 hB101 hB155 hB156 hB157 hB166 hB167 hB190 hB191 hB192 hB194 G0 H_26 r0 ret_3 (ck ret_3) yb_4 ye_4 (sn ret_3).toInt fb_4 fe_4) (cwV 2 hts (jgV (jWr_90 _ (List.mem_of_getElem? (i := 23) rfl)) (jWr_91 _ (List.mem_of_getElem? (i := 0) rfl)) (jWr_91 _ (List.mem_of_getElem? (i := 1) rfl)) (jWr_1 _ (List.mem_of_getElem? (i := 5) rfl)) (jWr_91 _ (List.mem_of_getElem? (i := 2) rfl))) rfl rfl rfl (by decide +kernel) ⟨by rw [← hR]; exact Nat.le_of_ble_eq_true rfl, by rw [← hR]; exact Nat.le_of_ble_eq_true rfl⟩) ⟨fun a U g mk q => by obtain ⟨q0, q1, q2, qK, q10, q11, q12, q13, q14, q15, q16⟩ := q; exact ⟨q0, q1, q2, jG.calling g mk a qK, q10, q11, q12, q13, q14, q15, q16⟩, hh_28.recv (C := RX14) (T := TX14) (N := 74) hB16 rfl (by decide) hg_r0 hK, fun U hU hW => ⟨rfl, hU, hh_28.2.1, hG.step hW hU hh_28.1, hg_ret_3, hg_r0, hg_yb_4, hg_ye_4, (hh_28.2.2.1.sub (L1 := [(ret_3, 14, 6, .ref yb_4), (ret_3, 14, 7, .ref ye_4)]) [4, 5] rfl), (hh_28.2.2.2.2.2.2.2.1.sub (L1 := [(yb_4, 190, 40, ca 1, fb_4), (ye_4, 191, 40, ca 1, fe_4)]) [1, 2] rfl), by first | omega | (refine ⟨?_, ?_, ?_, ?_⟩ <;> (first | omega | rfl | assumption | decide | exact Or.inl rfl | exact Or.inr rfl | (simp only; omega)))⟩⟩ rfl rfl hl.1 rfl (lv_room (Nat.le_of_ble_eq_true rfl)) dX14_takeCheck_74 ⟨Nat.zero_le _, Nat.zero_le _⟩) hh_28.1 (fun q _ h => h) (fun q h => h) (fun r_33 u_32 t_32 H_32 locs_32 ht_32 hvm_32 hr_33 hb_32 hz_32 hk_32 hS_32 => ?_)
        rw [ht_32] at hb_32
        obtain ⟨hb_321, hb_322, hb_323, hb_324, hb_325⟩ := hb_32
        have hh_32 : jSt (dC, dI) B base G0 G0 EX14_takeCheck s.heap 0 0 [(r0, 16, 62, .ref checkLeft_29), (r0, 16, 66, .int cached_24), (r0, 16, 63, .ref checkCached_19), (ret_3, 14, 9, .int (ck ret_3)), (ret_3, 14, 6, .ref yb_4), (ret_3, 14, 7, .ref ye_4), (ret_3, 14, 5, .int (sn ret_3)), (r0, 16, 41, .ref dd), (r0, 16, 42, .int dc), (r0, 16, 60, .ref co), (r0, 16, 61, .ref cs), (r0, 16, 46, .ref ol), (r0, 16, 47, .ref nw), (r0, 16, 71, .ref td)] [(cs, 207, 2, ca 1, fs_14), (yb_4, 190, 40, ca 1, fb_4), (ye_4, 191, 40, ca 1, fe_4)] [([(208, 0)], jQc dC dI (ca 4) co 2 fq_10), (jFs, jDY dC dI ca G0 none sn), (jF9, jVl dC dI G0 9 ck), ([(201, 0)], jQc dC dI (ca 4) dd 3 fd)] H_32 locs_32 := ((hh_28.call hb_321 hb_322 hb_323 hb_324 hS_32 rfl (L1 := [(r0, 16, 62, .ref checkLeft_29), (r0, 16, 66, .int cached_24), (r0, 16, 63, .ref checkCached_19), (ret_3, 14, 9, .int (ck ret_3)), (ret_3, 14, 6, .ref yb_4), (ret_3, 14, 7, .ref ye_4), (ret_3, 14, 5, .int (sn ret_3)), (r0, 16, 41, .ref dd), (r0, 16, 42, .int dc), (r0, 16, 60, .ref co), (r0, 16, 61, .ref cs), (r0, 16, 46, .ref ol), (r0, 16, 47, .ref nw), (r0, 16, 71, .ref td)]) [0, 1, 2, 3, 4, 5, 6, 7, 8, 9, 10, 11, 12, 13] rfl rfl (M1 := [(cs, 207, 2, ca 1, fs_14), (yb_4, 190, 40, ca 1, fb_4), (ye_4, 191, 40, ca 1, fe_4)]) [0, 1, 2] rfl rfl (I1 := [([(208, 0)], jQc dC dI (ca 4) co 2 fq_10), (jFs, jDY dC dI ca G0 none sn), (jF9, jVl dC dI G0 9 ck), ([(201, 0)], jQc dC dI (ca 4) dd 3 fd)]) [0, 1, 2, 3] rfl rfl).more hb_325)
        clear hh_28 ht_32 hvm_32 hz_32 hk_32 hS_32 hb_321 hb_322 hb_323 hb_324 hb_325
        refine j7_iast hx hb hK hh_32 hB hB101 1 rfl (by decide) (by decide) rfl rfl rfl hg_checkLeft_29 (x := a1.toInt) (rfl) (by omega) (trivial) dX14_takeCheck_77 (fun H_34 locs_34 hh_34 => ?_)
        clear hh_32
        rw [hQ]
        exact W.vret hx hb hr (fun t ht hW => ⟨⟨(), rfl, trivial, ⟨hh_34.rt (M1 := []) [] rfl ht, by rw [ht]; exact ⟨sn, ck, fs_14, fd, fq_10, dc, hh_34.2.2.1.sub (L1 := [(r0, 16, 41, .ref dd), (r0, 16, 42, .int dc), (r0, 16, 60, .ref co), (r0, 16, 61, .ref cs), (r0, 16, 46, .ref ol), (r0, 16, 47, .ref nw), (r0, 16, 71, .ref td)]) [7, 8, 9, 10, 11, 12, 13] rfl, hh_34.2.2.2.2.2.2.2.1.sub (L1 := [(cs, 207, 2, ca 1, fs_14)]) [0] rfl, hh_34.2.2.2.2.2.2.2.2.sub (L1 := [(jFs, jDY dC dI ca G0 none sn), (jF9, jVl dC dI G0 9 ck), ([(201, 0)], jQc dC dI (ca 4) dd 3 fd), ([(208, 0)], jQc dC dI (ca 4) co 2 fq_10)]) [1, 2, 3, 0] rfl, hp0.take hd1 hd0 hd2 hv_8 ho_8 (by have h9 := hv_13; unfold jSo at h9; omega) ho_13⟩⟩⟩, by rw [ht]; try exact hh_34.1.1, fun q h9 hq => by rw [ht]; try exact hh_34.1.2.1 q h9 hq⟩) hh_34.1.2.2 dX14_takeCheck_78
      · skip
        have c_31' : z_30.toInt ≠ 0 := jb_eq_n (rfl) ((by decide)) c_31
        refine lv_iconst (v := 1) hx hb dX14_takeCheck_67 (by decide) ?_
        refine lv_goto (tgt := 77) hx hb dX14_takeCheck_68 (by decide) ?_
        refine j7_iast hx hb hK hh_28 hB hB101 1 rfl (by decide) (by decide) rfl rfl rfl hg_checkLeft_29 (x := a1.toInt) (rfl) (by omega) (trivial) dX14_takeCheck_77 (fun H_35 locs_35 hh_35 => ?_)
        clear hh_28
        rw [hQ]
        exact W.vret hx hb hr (fun t ht hW => ⟨⟨(), rfl, trivial, ⟨hh_35.rt (M1 := []) [] rfl ht, by rw [ht]; exact ⟨sn, ck, fs_14, fd, fq_10, dc, hh_35.2.2.1.sub (L1 := [(r0, 16, 41, .ref dd), (r0, 16, 42, .int dc), (r0, 16, 60, .ref co), (r0, 16, 61, .ref cs), (r0, 16, 46, .ref ol), (r0, 16, 47, .ref nw), (r0, 16, 71, .ref td)]) [7, 8, 9, 10, 11, 12, 13] rfl, hh_35.2.2.2.2.2.2.2.1.sub (L1 := [(cs, 207, 2, ca 1, fs_14)]) [0] rfl, hh_35.2.2.2.2.2.2.2.2.sub (L1 := [(jFs, jDY dC dI ca G0 none sn), (jF9, jVl dC dI G0 9 ck), ([(201, 0)], jQc dC dI (ca 4) dd 3 fd), ([(208, 0)], jQc dC dI (ca 4) co 2 fq_10)]) [1, 2, 3, 0] rfl, hp0.take hd1 hd0 hd2 hv_8 ho_8 (by have h9 := hv_13; unfold jSo at h9; omega) ho_13⟩⟩⟩, by rw [ht]; try exact hh_35.1.1, fun q h9 hq => by rw [ht]; try exact hh_35.1.2.1 q h9 hq⟩) hh_35.1.2.2 dX14_takeCheck_78
    · skip
      have c_25' : r_21.toInt ≥ 0 := jb_lt_n (rfl) ((by decide)) c_25
      first | (have hr_21_2q := hr_21_2.resolve_left (by omega); clear hr_21_2) | (have hr_21_2q := hr_21_2.resolve_right (by omega); clear hr_21_2) | try clear hr_21_2
      refine lv_iconst (v := 1) hx hb dX14_takeCheck_47 (by decide) ?_
      refine lv_goto (tgt := 52) hx hb dX14_takeCheck_48 (by decide) ?_
      refine j7_zast hx hb hK hh_20 hB hB103 3 rfl (by decide) (by decide) rfl rfl rfl hg_checkCached_19 (x := a1.toInt) (rfl) (by omega) (Or.inr rfl) (Or.inr rfl) dX14_takeCheck_52 (fun H_36 locs_36 hh_36 => ?_)
      clear hh_20
      refine lv_aload_n hx hb dX14_takeCheck_53 rfl (lv_at hl 2 rfl) ?_
      obtain ⟨v_37, hv_37, hh_38⟩ := hh_36.pin (C := RX14) (T := TX14) (N := 74) hB16 rfl (by decide) hg_r0 (i := 62) (by decide) rfl
      clear hh_36
      obtain ⟨checkLeft_39, rfl, hg_checkLeft_39⟩ := hv_37
      refine j7_read hx hb hown hK (C := RX14) (T := TX14) (N := 74) rfl hly_16_62 hlk_135 (hh_38.at 0 rfl) dX14_takeCheck_54 ?_
      refine lv_iload_n hx hb dX14_takeCheck_57 rfl (lv_at hl 3 rfl) ?_
      refine lv_aload_n hx hb dX14_takeCheck_58 rfl (lv_at hl 2 rfl) ?_
      refine j7_read hx hb hown hK (C := RX14) (T := TX14) (N := 74) rfl hly_16_63 hlk_138 (hh_38.at 2 rfl) dX14_takeCheck_59 ?_
      refine lv_iload_n hx hb dX14_takeCheck_62 rfl (lv_at hl 3 rfl) ?_
      refine j7_zald hx hb hK hh_38 hB103 3 rfl (by decide) hg_checkCached_19 (x := a1.toInt) (rfl) (by omega) dX14_takeCheck_63 (fun z_40 (hz_40 : (z_40 = 0 ∨ z_40 = 1)) => ?_)
      have hz_40' := jb_01 hz_40
      refine lv_if_eq (tgt := 71) hx hb dX14_takeCheck_64 (by decide) (fun c_41 => ?_) (fun c_41 => ?_)
      · skip
        have c_41' : z_40.toInt = 0 := jb_eq (rfl) ((by decide)) c_41
        refine lv_aload_n hx hb dX14_takeCheck_71 rfl (lv_at hl 2 rfl) ?_
        refine lv_aload_n hx hb dX14_takeCheck_72 rfl (lv_at hl 1 rfl) ?_
        refine lv_iload_n hx hb dX14_takeCheck_73 rfl (lv_at hl 0 rfl) ?_
        refine va_calli (A0 := jA base) (H0 := s.heap) (va_runV (As := [.ref ret_3, .int (ck ret_3)]) (rest := [.int a1, .ref checkLeft_39]) ⟨hx, hb, hml, hown, hts⟩ (uX14_costOf l dC dI ca base B hB hAp hB14 hB15 hB16 hB101 hB155 hB156 hB157 hB166 hB167 hB190 hB191 hB192 hB194 G0 H_36 r0 ret_3 (ck ret_3) yb_4 ye_4 (sn ret_3).toInt fb_4 fe_4) (cwV 2 hts (jgV (jWr_90 _ (List.mem_of_getElem? (i := 23) rfl)) (jWr_91 _ (List.mem_of_getElem? (i := 0) rfl)) (jWr_91 _ (List.mem_of_getElem? (i := 1) rfl)) (jWr_1 _ (List.mem_of_getElem? (i := 5) rfl)) (jWr_91 _ (List.mem_of_getElem? (i := 2) rfl))) rfl rfl rfl (by decide +kernel) ⟨by rw [← hR]; exact Nat.le_of_ble_eq_true rfl, by rw [← hR]; exact Nat.le_of_ble_eq_true rfl⟩) ⟨fun a U g mk q => by obtain ⟨q0, q1, q2, qK, q10, q11, q12, q13, q14, q15, q16⟩ := q; exact ⟨q0, q1, q2, jG.calling g mk a qK, q10, q11, q12, q13, q14, q15, q16⟩, hh_38.recv (C := RX14) (T := TX14) (N := 74) hB16 rfl (by decide) hg_r0 hK, fun U hU hW => ⟨rfl, hU, hh_38.2.1, hG.step hW hU hh_38.1, hg_ret_3, hg_r0, hg_yb_4, hg_ye_4, (hh_38.2.2.1.sub (L1 := [(ret_3, 14, 6, .ref yb_4), (ret_3, 14, 7, .ref ye_4)]) [4, 5] rfl), (hh_38.2.2.2.2.2.2.2.1.sub (L1 := [(yb_4, 190, 40, ca 1, fb_4), (ye_4, 191, 40, ca 1, fe_4)]) [1, 2] rfl), by first | omega | (refine ⟨?_, ?_, ?_, ?_⟩ <;> (first | omega | rfl | assumption | decide | exact Or.inl rfl | exact Or.inr rfl | (simp only; omega)))⟩⟩ rfl rfl hl.1 rfl (lv_room (Nat.le_of_ble_eq_true rfl)) dX14_takeCheck_74 ⟨Nat.zero_le _, Nat.zero_le _⟩) hh_38.1 (fun q _ h => h) (fun q h => h) (fun r_43 u_42 t_42 H_42 locs_42 ht_42 hvm_42 hr_43 hb_42 hz_42 hk_42 hS_42 => ?_)
        rw [ht_42] at hb_42
        obtain ⟨hb_421, hb_422, hb_423, hb_424, hb_425⟩ := hb_42
        have hh_42 : jSt (dC, dI) B base G0 G0 EX14_takeCheck s.heap 0 0 [(r0, 16, 62, .ref checkLeft_39), (r0, 16, 66, .int cached_24), (r0, 16, 63, .ref checkCached_19), (ret_3, 14, 9, .int (ck ret_3)), (ret_3, 14, 6, .ref yb_4), (ret_3, 14, 7, .ref ye_4), (ret_3, 14, 5, .int (sn ret_3)), (r0, 16, 41, .ref dd), (r0, 16, 42, .int dc), (r0, 16, 60, .ref co), (r0, 16, 61, .ref cs), (r0, 16, 46, .ref ol), (r0, 16, 47, .ref nw), (r0, 16, 71, .ref td)] [(cs, 207, 2, ca 1, fs_14), (yb_4, 190, 40, ca 1, fb_4), (ye_4, 191, 40, ca 1, fe_4)] [([(208, 0)], jQc dC dI (ca 4) co 2 fq_10), (jFs, jDY dC dI ca G0 none sn), (jF9, jVl dC dI G0 9 ck), ([(201, 0)], jQc dC dI (ca 4) dd 3 fd)] H_42 locs_42 := ((hh_38.call hb_421 hb_422 hb_423 hb_424 hS_42 rfl (L1 := [(r0, 16, 62, .ref checkLeft_39), (r0, 16, 66, .int cached_24), (r0, 16, 63, .ref checkCached_19), (ret_3, 14, 9, .int (ck ret_3)), (ret_3, 14, 6, .ref yb_4), (ret_3, 14, 7, .ref ye_4), (ret_3, 14, 5, .int (sn ret_3)), (r0, 16, 41, .ref dd), (r0, 16, 42, .int dc), (r0, 16, 60, .ref co), (r0, 16, 61, .ref cs), (r0, 16, 46, .ref ol), (r0, 16, 47, .ref nw), (r0, 16, 71, .ref td)]) [0, 1, 2, 3, 4, 5, 6, 7, 8, 9, 10, 11, 12, 13] rfl rfl (M1 := [(cs, 207, 2, ca 1, fs_14), (yb_4, 190, 40, ca 1, fb_4), (ye_4, 191, 40, ca 1, fe_4)]) [0, 1, 2] rfl rfl (I1 := [([(208, 0)], jQc dC dI (ca 4) co 2 fq_10), (jFs, jDY dC dI ca G0 none sn), (jF9, jVl dC dI G0 9 ck), ([(201, 0)], jQc dC dI (ca 4) dd 3 fd)]) [0, 1, 2, 3] rfl rfl).more hb_425)
        clear hh_38 ht_42 hvm_42 hz_42 hk_42 hS_42 hb_421 hb_422 hb_423 hb_424 hb_425
        refine j7_iast hx hb hK hh_42 hB hB101 1 rfl (by decide) (by decide) rfl rfl rfl hg_checkLeft_39 (x := a1.toInt) (rfl) (by omega) (trivial) dX14_takeCheck_77 (fun H_44 locs_44 hh_44 => ?_)
        clear hh_42
        rw [hQ]
        exact W.vret hx hb hr (fun t ht hW => ⟨⟨(), rfl, trivial, ⟨hh_44.rt (M1 := []) [] rfl ht, by rw [ht]; exact ⟨sn, ck, fs_14, fd, fq_10, dc, hh_44.2.2.1.sub (L1 := [(r0, 16, 41, .ref dd), (r0, 16, 42, .int dc), (r0, 16, 60, .ref co), (r0, 16, 61, .ref cs), (r0, 16, 46, .ref ol), (r0, 16, 47, .ref nw), (r0, 16, 71, .ref td)]) [7, 8, 9, 10, 11, 12, 13] rfl, hh_44.2.2.2.2.2.2.2.1.sub (L1 := [(cs, 207, 2, ca 1, fs_14)]) [0] rfl, hh_44.2.2.2.2.2.2.2.2.sub (L1 := [(jFs, jDY dC dI ca G0 none sn), (jF9, jVl dC dI G0 9 ck), ([(201, 0)], jQc dC dI (ca 4) dd 3 fd), ([(208, 0)], jQc dC dI (ca 4) co 2 fq_10)]) [1, 2, 3, 0] rfl, hp0.take hd1 hd0 hd2 hv_8 ho_8 (by have h9 := hv_13; unfold jSo at h9; omega) ho_13⟩⟩⟩, by rw [ht]; try exact hh_44.1.1, fun q h9 hq => by rw [ht]; try exact hh_44.1.2.1 q h9 hq⟩) hh_44.1.2.2 dX14_takeCheck_78
      · skip
        have c_41' : z_40.toInt ≠ 0 := jb_eq_n (rfl) ((by decide)) c_41
        refine lv_iconst (v := 1) hx hb dX14_takeCheck_67 (by decide) ?_
        refine lv_goto (tgt := 77) hx hb dX14_takeCheck_68 (by decide) ?_
        refine j7_iast hx hb hK hh_38 hB hB101 1 rfl (by decide) (by decide) rfl rfl rfl hg_checkLeft_39 (x := a1.toInt) (rfl) (by omega) (trivial) dX14_takeCheck_77 (fun H_45 locs_45 hh_45 => ?_)
        clear hh_38
        rw [hQ]
        exact W.vret hx hb hr (fun t ht hW => ⟨⟨(), rfl, trivial, ⟨hh_45.rt (M1 := []) [] rfl ht, by rw [ht]; exact ⟨sn, ck, fs_14, fd, fq_10, dc, hh_45.2.2.1.sub (L1 := [(r0, 16, 41, .ref dd), (r0, 16, 42, .int dc), (r0, 16, 60, .ref co), (r0, 16, 61, .ref cs), (r0, 16, 46, .ref ol), (r0, 16, 47, .ref nw), (r0, 16, 71, .ref td)]) [7, 8, 9, 10, 11, 12, 13] rfl, hh_45.2.2.2.2.2.2.2.1.sub (L1 := [(cs, 207, 2, ca 1, fs_14)]) [0] rfl, hh_45.2.2.2.2.2.2.2.2.sub (L1 := [(jFs, jDY dC dI ca G0 none sn), (jF9, jVl dC dI G0 9 ck), ([(201, 0)], jQc dC dI (ca 4) dd 3 fd), ([(208, 0)], jQc dC dI (ca 4) co 2 fq_10)]) [1, 2, 3, 0] rfl, hp0.take hd1 hd0 hd2 hv_8 ho_8 (by have h9 := hv_13; unfold jSo at h9; omega) ho_13⟩⟩⟩, by rw [ht]; try exact hh_45.1.1, fun q h9 hq => by rw [ht]; try exact hh_45.1.2.1 q h9 hq⟩) hh_45.1.2.2 dX14_takeCheck_78
end
