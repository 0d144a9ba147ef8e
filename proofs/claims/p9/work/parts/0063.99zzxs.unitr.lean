section
def EX14_unit_R : List (Nat × Nat) := []
set_option maxHeartbeats 4000000 in
set_option maxRecDepth 20000 in
theorem uX14_unit_R (l : Launch) (dC : Nat → ClassId) (dI : Nat → Nat → Nat) (ca : Nat → ClassId) (base : Nat) (B : jF) (hB : jBok B) (hAp : jAp (dC, dI)) (hB14 : ∀ n G a H, B 14 n G a H ↔ jOb (dC, dI) 14 11 (F14 n G) a H) (hB16 : ∀ n G a H, B 16 n G a H ↔ jOb (dC, dI) 16 74 (F16 n G) a H) (hB194 : ∀ n G a H, B 194 n G a H ↔ jAr (dC, dI) (ca 1) (fun j z => True) n a H) (hB201 : ∀ n G a H, B 201 n G a H ↔ jAq (dC, dI) (ca 4) (jQs 14 0) n G a H) (G0 : jT) (H0 : Heap) (r0 : Nat) (a1 : Int32) (a2 : Int32) (dd : Nat) (dc : Int32) (co : Nat) (cs : Nat) (ol : Nat) (nw : Nat) (td : Nat) (sn ck : Nat → Int32) (fd fo : Nat → Option Nat) (S9 S8 : Int × (Int → jdD)) (fs : Nat → Int32) : Met l yX14_unit_ (jw yX14_unit_ cX14_unit_ 3 (some .int)) ({ frames := 0, cells := 0, slots := 0, locals := 0 }) (va_Pc [.ref r0, .int a1, .int a2] (fun U => U.heap = H0 ∧ jX B base G0 [] H0 ∧ jG dC dI ca base U ∧ jK2 dC dI ca U ∧ G0 r0 = some (16, 0) ∧ G0 dd = some (201, 3) ∧ G0 co = some (208, 2) ∧ G0 cs = some (207, 2) ∧ G0 ol = some (14, 0) ∧ G0 nw = some (14, 0) ∧ G0 td = some (14, 0) ∧ jP (dC, dI) G0 H0 [(r0, 16, 41, .ref dd), (r0, 16, 42, .int dc), (r0, 16, 60, .ref co), (r0, 16, 61, .ref cs), (r0, 16, 46, .ref ol), (r0, 16, 47, .ref nw), (r0, 16, 71, .ref td)] ∧ jMc (dC, dI) G0 H0 [(cs, 207, 2, ca 1, fs)] ∧ jIs (dC, dI) G0 H0 [(jFs, jDY dC dI ca G0 none sn), (jF9, jVl dC dI G0 9 ck), ([(201, 0)], jQc dC dI (ca 4) dd 3 fd), ([(208, 0)], jQc dC dI (ca 4) co 2 fo), (jFra, jRS dC dI ca G0 r0 S9)] ∧ jPu sn ck fd fo fs dc.toInt ol nw td ∧ S8 = S9)) (va_Qi (S := Unit) (fun r u => (r.toInt = jdUn S9.1 S9.2 a1.toInt a2.toInt)) (fun u t => (jRt (dC, dI) B base G0 EX14_unit_R H0 [] t.heap) ∧ jIs (dC, dI) G0 t.heap [(jFra, jRS dC dI ca G0 r0 S8)]) (jA base)) 0 0 (jA base) := by
  refine Met.ofW (cc := cX14_unit_) (maxL := 3) (ret := (some .int)) (by decide) rfl ?_
  intro p e s m args below meth c s₁ Bd hml hv
  obtain ⟨rfl, hH0, hX, hG, hK2, hg_r0, hg_dd, hg_co, hg_cs, hg_ol, hg_nw, hg_td, hP0, hM0, hI0, hp0, hp1⟩ := hv
  have hK := hG.1
  have hx := Bd.exec
  have hb := Bd.bytes
  have hr := Bd.returns
  have hts := atoms_spec (ws := (jw yX14_unit_ cX14_unit_ 3 (some .int))) Bd.pre
  have htw : ∀ w ∈ jWl, w.before _ s = true := fun w h => hts w (List.mem_cons_of_mem _ h)
  have hown : s.vm.findClass RX14 = some m.cls := findClass_of_methodNamed Bd.named
  have hlocks := Bd.notSynchronized
  obtain ⟨Q, hQ⟩ : ∃ Q, Q = MQ below (va_Qi (S := Unit) (fun r u => (r.toInt = jdUn S9.1 S9.2 a1.toInt a2.toInt)) (fun u t => (jRt (dC, dI) B base G0 EX14_unit_R H0 [] t.heap) ∧ jIs (dC, dI) G0 t.heap [(jFra, jRS dC dI ca G0 r0 S8)]) (jA base)) ([.ref r0, .int a1, .int a2] : List Value).toArray s 0 0 (jA base) := ⟨_, rfl⟩
  rw [← hQ]
  have hl := lv_entry ([.ref r0, .int a1, .int a2]) (n := 3) (Nat.le_of_ble_eq_true rfl)
  rw [lg_entry_eq]
  generalize (lg_sl ([.ref r0, .int a1, .int a2]) ++ List.replicate (3 - (lg_sl ([.ref r0, .int a1, .int a2])).length) Slot.unset).toArray = ls at hl ⊢
  have hl : lv_has ls 3 [(0, .ref r0), (1, .int a1), (2, .int a2)] := hl
  generalize hR : (headSpec (jw yX14_unit_ cX14_unit_ 3 (some .int)) ({ frames := 0, cells := 0, slots := 0, locals := 0 })).room = R
  subst hH0
  have hh : jSt (dC, dI) B base G0 G0 EX14_unit_R s.heap 0 0 [(r0, 16, 41, .ref dd), (r0, 16, 42, .int dc), (r0, 16, 60, .ref co), (r0, 16, 61, .ref cs), (r0, 16, 46, .ref ol), (r0, 16, 47, .ref nw), (r0, 16, 71, .ref td)] [(cs, 207, 2, ca 1, fs)] [(jFs, jDY dC dI ca G0 none sn), (jF9, jVl dC dI G0 9 ck), ([(201, 0)], jQc dC dI (ca 4) dd 3 fd), ([(208, 0)], jQc dC dI (ca 4) co 2 fo), (jFra, jRS dC dI ca G0 r0 S9)] s.heap [] := jSt.start hX hP0 hM0 hI0
  clear hX hP0
  have hkm1 : ((-1) : Int32).toInt = (-1) := by decide
  have hk0 : (0 : Int32).toInt = 0 := by decide
  have hk1 : (1 : Int32).toInt = 1 := by decide
  have hly_14_3 := htw (u_lay RX12 TX12 3) (jWc_wsX120 _ (u_in_lay (by decide)))
  have hly_14_4 := htw (u_lay RX12 TX12 4) (jWc_wsX120 _ (u_in_lay (by decide)))
  have hly_16_41 := htw (u_lay RX14 TX14 41) (jWc_wsX140 _ (u_in_lay (by decide)))
  have hly_16_42 := htw (u_lay RX14 TX14 42) (jWc_wsX140 _ (u_in_lay (by decide)))
  have hlk_505 := (htw (.fieldLink RX14 505 "ProofServerModel" "documentCount" "I") (jWr_57 _ (List.mem_of_getElem? (i := 5) rfl)))
  have hlk_74 := (htw (.fieldLink RX14 74 "ProofServerModel" "documents" "[LProofServerModel$Document;") (jWr_11 _ (List.mem_of_getElem? (i := 19) rfl)))
  have hlk_526 := (va_Nw.use (A := ([.ref r0, .int a1, .int a2] : List Value).toArray) rfl (hG.2.1 RX14 526 "ProofServerModel$Document" "units" "I" "ProofServerModel" (List.mem_of_getElem? (i := 1736) (by decide +kernel))))
  have hlk_529 := (va_Nw.use (A := ([.ref r0, .int a1, .int a2] : List Value).toArray) rfl (hG.2.1 RX14 529 "ProofServerModel$Document" "text" "[I" "ProofServerModel" (List.mem_of_getElem? (i := 1735) (by decide +kernel))))
  have hrg_a1 := jb_rng a1
  have hrg_a2 := jb_rng a2
  obtain ⟨sx_1, esx_1, hsx_1⟩ := hh.sat (C := RX14) (T := TX14) (N := 74) hB16 rfl (by decide) hg_r0 (i := 42) (by decide) rfl 1 rfl
  cases esx_1
  obtain ⟨rt_2, hRd_2, hIr9, hRs9⟩ := jRS.opn (hh.iv 4 rfl) (hh.at 0 rfl) (hh.at 1 rfl) (hh.iv 2 rfl)
  have hh_3 := hh.sub (L1 := [(r0, 16, 41, .ref dd), (r0, 16, 42, .int dc), (r0, 16, 60, .ref co), (r0, 16, 61, .ref cs), (r0, 16, 46, .ref ol), (r0, 16, 47, .ref nw), (r0, 16, 71, .ref td)]) [0, 1, 2, 3, 4, 5, 6] rfl (M1 := [(cs, 207, 2, ca 1, fs)]) [0] rfl (I1 := [(jFs, jDY dC dI ca G0 none sn), (jF9, jVl dC dI G0 9 ck), ([(201, 0)], jQc dC dI (ca 4) dd 3 fd), ([(208, 0)], jQc dC dI (ca 4) co 2 fo)]) [0, 1, 2, 3] rfl
  clear hh
  have hh_4 := hh_3.addI (jRD.ie hRd_2)
  clear hh_3
  refine lv_iload_n hx hb dX14_unit__0 rfl (lv_at hl 1 rfl) ?_
  refine lv_if_lt (tgt := 43) hx hb dX14_unit__1 (by decide) (fun c_5 => ?_) (fun c_5 => ?_)
  · skip
    have c_5' : a1.toInt < 0 := jb_lt (rfl) ((by decide)) c_5
    refine lv_iconst (v := (-1)) hx hb dX14_unit__43 (by decide) ?_
    have hI_6 : jdIr rt_2 fd (dc).toInt := hIr9
    have hAf_6 := jRS.mk hg_r0 (hh_4.at 0 rfl) hg_dd (hh_4.iv 3 rfl) (hh_4.at 1 rfl) (hh_4.iv 0 rfl) hI_6
    have hh_7 := hh_4.sub (L1 := [(r0, 16, 41, .ref dd), (r0, 16, 42, .int dc), (r0, 16, 60, .ref co), (r0, 16, 61, .ref cs), (r0, 16, 46, .ref ol), (r0, 16, 47, .ref nw), (r0, 16, 71, .ref td)]) [0, 1, 2, 3, 4, 5, 6] rfl (M1 := [(cs, 207, 2, ca 1, fs)]) [0] rfl (I1 := [(jFs, jDY dC dI ca G0 none sn), (jF9, jVl dC dI G0 9 ck), ([(201, 0)], jQc dC dI (ca 4) dd 3 fd), ([(208, 0)], jQc dC dI (ca 4) co 2 fo)]) [1, 2, 3, 4] rfl
    clear hh_4
    have hh_8 := hh_7.addI (jRS.ie hAf_6)
    clear hh_7
    have hA_9 : (jdRs rt_2 fd (dc).toInt) = S8 := by rw [hp1]; exact hRs9
    have hAe_9 := hh_8.iv 0 rfl
    rw [hA_9] at hAe_9
    have hh_10 := hh_8.sub (L1 := [(r0, 16, 41, .ref dd), (r0, 16, 42, .int dc), (r0, 16, 60, .ref co), (r0, 16, 61, .ref cs), (r0, 16, 46, .ref ol), (r0, 16, 47, .ref nw), (r0, 16, 71, .ref td)]) [0, 1, 2, 3, 4, 5, 6] rfl (M1 := [(cs, 207, 2, ca 1, fs)]) [0] rfl (I1 := [(jFs, jDY dC dI ca G0 none sn), (jF9, jVl dC dI G0 9 ck), ([(201, 0)], jQc dC dI (ca 4) dd 3 fd), ([(208, 0)], jQc dC dI (ca 4) co 2 fo)]) [1, 2, 3, 4] rfl
    clear hh_8
    have hh_11 := hh_10.addI (jRS.ie hAe_9)
    clear hh_10
    rw [hQ]
    exact W.iret (v := (-1)) hx hb hr (fun t ht hW => ⟨⟨(-1), (), rfl, by have h9 : jdUn S9.1 S9.2 a1.toInt a2.toInt = -1 := jdUn.out (by have h8 : S9.1 = dc.toInt := (by rw [← hRs9]; rfl); rw [h8]; omega); rw [h9]; exact hkm1, ⟨hh_11.rt (M1 := []) [] rfl ht, by rw [ht]; exact hh_11.2.2.2.2.2.2.2.2.sub (L1 := [(jFra, jRS dC dI ca G0 r0 S8)]) [0] rfl⟩⟩, by rw [ht]; try exact hh_11.1.1, fun q h9 hq => by rw [ht]; try exact hh_11.1.2.1 q h9 hq⟩) hh_11.1.2.2 dX14_unit__44
  · skip
    have c_5' : a1.toInt ≥ 0 := jb_lt_n (rfl) ((by decide)) c_5
    refine lv_iload_n hx hb dX14_unit__4 rfl (lv_at hl 1 rfl) ?_
    refine lv_aload_n hx hb dX14_unit__5 rfl (lv_at hl 0 rfl) ?_
    refine j7_read hx hb hown hK (C := RX14) (T := TX14) (N := 74) rfl hly_16_42 hlk_505 (hh_4.at 1 rfl) dX14_unit__6 ?_
    refine lv_icmp_ge (tgt := 43) hx hb dX14_unit__9 (by decide) (fun c_12 => ?_) (fun c_12 => ?_)
    · skip
      have c_12' : a1.toInt ≥ dc.toInt := jb_ge (rfl) (rfl) c_12
      refine lv_iconst (v := (-1)) hx hb dX14_unit__43 (by decide) ?_
      have hI_13 : jdIr rt_2 fd (dc).toInt := hIr9
      have hAf_13 := jRS.mk hg_r0 (hh_4.at 0 rfl) hg_dd (hh_4.iv 3 rfl) (hh_4.at 1 rfl) (hh_4.iv 0 rfl) hI_13
      have hh_14 := hh_4.sub (L1 := [(r0, 16, 41, .ref dd), (r0, 16, 42, .int dc), (r0, 16, 60, .ref co), (r0, 16, 61, .ref cs), (r0, 16, 46, .ref ol), (r0, 16, 47, .ref nw), (r0, 16, 71, .ref td)]) [0, 1, 2, 3, 4, 5, 6] rfl (M1 := [(cs, 207, 2, ca 1, fs)]) [0] rfl (I1 := [(jFs, jDY dC dI ca G0 none sn), (jF9, jVl dC dI G0 9 ck), ([(201, 0)], jQc dC dI (ca 4) dd 3 fd), ([(208, 0)], jQc dC dI (ca 4) co 2 fo)]) [1, 2, 3, 4] rfl
      clear hh_4
      have hh_15 := hh_14.addI (jRS.ie hAf_13)
      clear hh_14
      have hA_16 : (jdRs rt_2 fd (dc).toInt) = S8 := by rw [hp1]; exact hRs9
      have hAe_16 := hh_15.iv 0 rfl
      rw [hA_16] at hAe_16
      have hh_17 := hh_15.sub (L1 := [(r0, 16, 41, .ref dd), (r0, 16, 42, .int dc), (r0, 16, 60, .ref co), (r0, 16, 61, .ref cs), (r0, 16, 46, .ref ol), (r0, 16, 47, .ref nw), (r0, 16, 71, .ref td)]) [0, 1, 2, 3, 4, 5, 6] rfl (M1 := [(cs, 207, 2, ca 1, fs)]) [0] rfl (I1 := [(jFs, jDY dC dI ca G0 none sn), (jF9, jVl dC dI G0 9 ck), ([(201, 0)], jQc dC dI (ca 4) dd 3 fd), ([(208, 0)], jQc dC dI (ca 4) co 2 fo)]) [1, 2, 3, 4] rfl
      clear hh_15
      have hh_18 := hh_17.addI (jRS.ie hAe_16)
      clear hh_17
      rw [hQ]
      exact W.iret (v := (-1)) hx hb hr (fun t ht hW => ⟨⟨(-1), (), rfl, by have h9 : jdUn S9.1 S9.2 a1.toInt a2.toInt = -1 := jdUn.out (by have h8 : S9.1 = dc.toInt := (by rw [← hRs9]; rfl); rw [h8]; omega); rw [h9]; exact hkm1, ⟨hh_18.rt (M1 := []) [] rfl ht, by rw [ht]; exact hh_18.2.2.2.2.2.2.2.2.sub (L1 := [(jFra, jRS dC dI ca G0 r0 S8)]) [0] rfl⟩⟩, by rw [ht]; try exact hh_18.1.1, fun q h9 hq => by rw [ht]; try exact hh_18.1.2.1 q h9 hq⟩) hh_18.1.2.2 dX14_unit__44
    · skip
      have c_12' : a1.toInt < dc.toInt := jb_ge_n (rfl) (rfl) c_12
      refine lv_iload_n hx hb dX14_unit__12 rfl (lv_at hl 2 rfl) ?_
      refine lv_if_lt (tgt := 43) hx hb dX14_unit__13 (by decide) (fun c_19 => ?_) (fun c_19 => ?_)
      · skip
        have c_19' : a2.toInt < 0 := jb_lt (rfl) ((by decide)) c_19
        refine lv_iconst (v := (-1)) hx hb dX14_unit__43 (by decide) ?_
        have hI_20 : jdIr rt_2 fd (dc).toInt := hIr9
        have hAf_20 := jRS.mk hg_r0 (hh_4.at 0 rfl) hg_dd (hh_4.iv 3 rfl) (hh_4.at 1 rfl) (hh_4.iv 0 rfl) hI_20
        have hh_21 := hh_4.sub (L1 := [(r0, 16, 41, .ref dd), (r0, 16, 42, .int dc), (r0, 16, 60, .ref co), (r0, 16, 61, .ref cs), (r0, 16, 46, .ref ol), (r0, 16, 47, .ref nw), (r0, 16, 71, .ref td)]) [0, 1, 2, 3, 4, 5, 6] rfl (M1 := [(cs, 207, 2, ca 1, fs)]) [0] rfl (I1 := [(jFs, jDY dC dI ca G0 none sn), (jF9, jVl dC dI G0 9 ck), ([(201, 0)], jQc dC dI (ca 4) dd 3 fd), ([(208, 0)], jQc dC dI (ca 4) co 2 fo)]) [1, 2, 3, 4] rfl
        clear hh_4
        have hh_22 := hh_21.addI (jRS.ie hAf_20)
        clear hh_21
        have hA_23 : (jdRs rt_2 fd (dc).toInt) = S8 := by rw [hp1]; exact hRs9
        have hAe_23 := hh_22.iv 0 rfl
        rw [hA_23] at hAe_23
        have hh_24 := hh_22.sub (L1 := [(r0, 16, 41, .ref dd), (r0, 16, 42, .int dc), (r0, 16, 60, .ref co), (r0, 16, 61, .ref cs), (r0, 16, 46, .ref ol), (r0, 16, 47, .ref nw), (r0, 16, 71, .ref td)]) [0, 1, 2, 3, 4, 5, 6] rfl (M1 := [(cs, 207, 2, ca 1, fs)]) [0] rfl (I1 := [(jFs, jDY dC dI ca G0 none sn), (jF9, jVl dC dI G0 9 ck), ([(201, 0)], jQc dC dI (ca 4) dd 3 fd), ([(208, 0)], jQc dC dI (ca 4) co 2 fo)]) [1, 2, 3, 4] rfl
        clear hh_22
        have hh_25 := hh_24.addI (jRS.ie hAe_23)
        clear hh_24
        rw [hQ]
        exact W.iret (v := (-1)) hx hb hr (fun t ht hW => ⟨⟨(-1), (), rfl, by have h9 : jdUn S9.1 S9.2 a1.toInt a2.toInt = -1 := jdUn.out (by have h8 : S9.1 = dc.toInt := (by rw [← hRs9]; rfl); rw [h8]; omega); rw [h9]; exact hkm1, ⟨hh_25.rt (M1 := []) [] rfl ht, by rw [ht]; exact hh_25.2.2.2.2.2.2.2.2.sub (L1 := [(jFra, jRS dC dI ca G0 r0 S8)]) [0] rfl⟩⟩, by rw [ht]; try exact hh_25.1.1, fun q h9 hq => by rw [ht]; try exact hh_25.1.2.1 q h9 hq⟩) hh_25.1.2.2 dX14_unit__44
      · skip
        have c_19' : a2.toInt ≥ 0 := jb_lt_n (rfl) ((by decide)) c_19
        refine lv_iload_n hx hb dX14_unit__16 rfl (lv_at hl 2 rfl) ?_
        refine lv_aload_n hx hb dX14_unit__17 rfl (lv_at hl 0 rfl) ?_
        refine j7_read hx hb hown hK (C := RX14) (T := TX14) (N := 74) rfl hly_16_41 hlk_74 (hh_4.at 0 rfl) dX14_unit__18 ?_
        refine lv_iload_n hx hb dX14_unit__21 rfl (lv_at hl 1 rfl) ?_
        refine j7_qaldI hx hb hK2 hh_4 hB201 0 rfl (by decide) hg_dd (x := a1.toInt) (rfl) (by omega) (hh_4.iv 3 rfl) dX14_unit__22 (fun o_26 ho_26 heo_26 => ?_)
        obtain ⟨el_27, rfl, hg_el_27⟩ := ho_26
        simp only [va_rf]
        have hat22 : fd a1.toInt.toNat = some el_27 := heo_26.symm
        have hle9 := hIr9.2.2.2 el_27
        obtain ⟨ut_28, uz_28, hgt_28, hgz_28, huP_28, huM_28⟩ := jRD.at (hh_4.iv 0 rfl) hg_el_27 (fun q => by cases q)
        have hh_29 := ((hh_4.sub (L1 := [(r0, 16, 41, .ref dd), (r0, 16, 42, .int dc), (r0, 16, 60, .ref co), (r0, 16, 61, .ref cs), (r0, 16, 46, .ref ol), (r0, 16, 47, .ref nw), (r0, 16, 71, .ref td)]) [0, 1, 2, 3, 4, 5, 6] rfl (M1 := [(cs, 207, 2, ca 1, fs)]) [0] rfl (I1 := [(jFrd, jRD dC dI ca G0 none rt_2), (jFs, jDY dC dI ca G0 none sn), (jF9, jVl dC dI G0 9 ck), ([(201, 0)], jQc dC dI (ca 4) dd 3 fd), ([(208, 0)], jQc dC dI (ca 4) co 2 fo)]) [0, 1, 2, 3, 4] rfl).more huP_28).moreM huM_28
        clear hh_4
        refine j7_readN hx hb hown hK (C := RX12) (T := TX12) (N := 11) rfl hly_14_4 hlk_526 (hh_29.at 3 rfl) dX14_unit__23 ?_
        refine lv_icmp_ge (tgt := 43) hx hb dX14_unit__26 (by decide) (fun c_30 => ?_) (fun c_30 => ?_)
        · skip
          have c_30' : a2.toInt ≥ (rt_2.ln el_27).toInt := jb_ge (rfl) (rfl) c_30
          refine lv_iconst (v := (-1)) hx hb dX14_unit__43 (by decide) ?_
          have hI_31 : jdIr rt_2 fd (dc).toInt := hIr9
          have hAf_31 := jRS.mk hg_r0 (hh_29.at 5 rfl) hg_dd (hh_29.iv 3 rfl) (hh_29.at 6 rfl) (hh_29.iv 0 rfl) hI_31
          have hh_32 := hh_29.sub (L1 := [(el_27, 14, 3, .ref ut_28), (el_27, 14, 0, .ref uz_28), (el_27, 14, 2, .int (rt_2.ve el_27)), (el_27, 14, 4, .int (rt_2.ln el_27)), (el_27, 14, 1, .int (rt_2.ul el_27)), (r0, 16, 41, .ref dd), (r0, 16, 42, .int dc), (r0, 16, 60, .ref co), (r0, 16, 61, .ref cs), (r0, 16, 46, .ref ol), (r0, 16, 47, .ref nw), (r0, 16, 71, .ref td)]) [0, 1, 2, 3, 4, 5, 6, 7, 8, 9, 10, 11] rfl (M1 := [(ut_28, 194, 1500, ca 1, (rt_2.tx el_27)), (uz_28, 195, 40, ca 1, (rt_2.ux el_27)), (cs, 207, 2, ca 1, fs)]) [0, 1, 2] rfl (I1 := [(jFs, jDY dC dI ca G0 none sn), (jF9, jVl dC dI G0 9 ck), ([(201, 0)], jQc dC dI (ca 4) dd 3 fd), ([(208, 0)], jQc dC dI (ca 4) co 2 fo)]) [1, 2, 3, 4] rfl
          clear hh_29
          have hh_33 := hh_32.addI (jRS.ie hAf_31)
          clear hh_32
          have hA_34 : (jdRs rt_2 fd (dc).toInt) = S8 := by rw [hp1]; exact hRs9
          have hAe_34 := hh_33.iv 0 rfl
          rw [hA_34] at hAe_34
          have hh_35 := hh_33.sub (L1 := [(el_27, 14, 3, .ref ut_28), (el_27, 14, 0, .ref uz_28), (el_27, 14, 2, .int (rt_2.ve el_27)), (el_27, 14, 4, .int (rt_2.ln el_27)), (el_27, 14, 1, .int (rt_2.ul el_27)), (r0, 16, 41, .ref dd), (r0, 16, 42, .int dc), (r0, 16, 60, .ref co), (r0, 16, 61, .ref cs), (r0, 16, 46, .ref ol), (r0, 16, 47, .ref nw), (r0, 16, 71, .ref td)]) [0, 1, 2, 3, 4, 5, 6, 7, 8, 9, 10, 11] rfl (M1 := [(ut_28, 194, 1500, ca 1, (rt_2.tx el_27)), (uz_28, 195, 40, ca 1, (rt_2.ux el_27)), (cs, 207, 2, ca 1, fs)]) [0, 1, 2] rfl (I1 := [(jFs, jDY dC dI ca G0 none sn), (jF9, jVl dC dI G0 9 ck), ([(201, 0)], jQc dC dI (ca 4) dd 3 fd), ([(208, 0)], jQc dC dI (ca 4) co 2 fo)]) [1, 2, 3, 4] rfl
          clear hh_33
          have hh_36 := hh_35.addI (jRS.ie hAe_34)
          clear hh_35
          rw [hQ]
          exact W.iret (v := (-1)) hx hb hr (fun t ht hW => ⟨⟨(-1), (), rfl, by have h9 := jdUn.rn (tr := rt_2) (by omega) (by omega) hat22 (i := a2.toInt) (by omega); rw [hRs9] at h9; rw [h9]; exact hkm1, ⟨hh_36.rt (M1 := []) [] rfl ht, by rw [ht]; exact hh_36.2.2.2.2.2.2.2.2.sub (L1 := [(jFra, jRS dC dI ca G0 r0 S8)]) [0] rfl⟩⟩, by rw [ht]; try exact hh_36.1.1, fun q h9 hq => by rw [ht]; try exact hh_36.1.2.1 q h9 hq⟩) hh_36.1.2.2 dX14_unit__44
        · skip
          have c_30' : a2.toInt < (rt_2.ln el_27).toInt := jb_ge_n (rfl) (rfl) c_30
          refine lv_aload_n hx hb dX14_unit__29 rfl (lv_at hl 0 rfl) ?_
          refine j7_read hx hb hown hK (C := RX14) (T := TX14) (N := 74) rfl hly_16_41 hlk_74 (hh_29.at 5 rfl) dX14_unit__30 ?_
          refine lv_iload_n hx hb dX14_unit__33 rfl (lv_at hl 1 rfl) ?_
          refine j7_qaldI hx hb hK2 hh_29 hB201 0 rfl (by decide) hg_dd (x := a1.toInt) (rfl) (by omega) (hh_29.iv 3 rfl) dX14_unit__34 (fun o_37 ho_37 heo_37 => ?_)
          obtain ⟨el_38, rfl, hg_el_38⟩ := ho_37
          simp only [va_rf]
          obtain rfl : el_27 = el_38 := (Option.some.inj (heo_37.trans heo_26.symm)).symm
          have hat34 : fd a1.toInt.toNat = some el_27 := heo_37.symm
          obtain ⟨ut_39, uz_39, hgt_39, hgz_39, huP_39, huM_39⟩ := jRD.at (hh_29.iv 0 rfl) hg_el_38 (fun q => by cases q)
          obtain rfl : ut_28 = ut_39 := by have h9 := jf.uniq (hh_29.at 0 rfl) (huP_39 _ (List.mem_of_getElem? (i := 0) rfl)).2; cases h9; rfl
          obtain rfl : uz_28 = uz_39 := by have h9 := jf.uniq (hh_29.at 1 rfl) (huP_39 _ (List.mem_of_getElem? (i := 1) rfl)).2; cases h9; rfl
          have hul_39_ve : (rt_2.ve el_27) = rt_2.ve el_27 := Value.int.inj (jf.uniq (hh_29.at 2 rfl) (huP_39 _ (List.mem_of_getElem? (i := 2) rfl)).2)
          have hul_39_ln : (rt_2.ln el_27) = rt_2.ln el_27 := Value.int.inj (jf.uniq (hh_29.at 3 rfl) (huP_39 _ (List.mem_of_getElem? (i := 3) rfl)).2)
          have hul_39_ul : (rt_2.ul el_27) = rt_2.ul el_27 := Value.int.inj (jf.uniq (hh_29.at 4 rfl) (huP_39 _ (List.mem_of_getElem? (i := 4) rfl)).2)
          have hh_40 := ((hh_29.sub (L1 := [(r0, 16, 41, .ref dd), (r0, 16, 42, .int dc), (r0, 16, 60, .ref co), (r0, 16, 61, .ref cs), (r0, 16, 46, .ref ol), (r0, 16, 47, .ref nw), (r0, 16, 71, .ref td)]) [5, 6, 7, 8, 9, 10, 11] rfl (M1 := [(cs, 207, 2, ca 1, fs)]) [2] rfl (I1 := [(jFrd, jRD dC dI ca G0 none rt_2), (jFs, jDY dC dI ca G0 none sn), (jF9, jVl dC dI G0 9 ck), ([(201, 0)], jQc dC dI (ca 4) dd 3 fd), ([(208, 0)], jQc dC dI (ca 4) co 2 fo)]) [0, 1, 2, 3, 4] rfl).more huP_39).moreM huM_39
          clear hh_29
          refine j7_readN hx hb hown hK (C := RX12) (T := TX12) (N := 11) rfl hly_14_3 hlk_529 (hh_40.at 0 rfl) dX14_unit__35 ?_
          refine lv_iload_n hx hb dX14_unit__38 rfl (lv_at hl 2 rfl) ?_
          refine j7_ialdM hx hb hK hh_40 hB194 1 rfl (by decide) hgt_39 (x := a2.toInt) (rfl) (by omega) (j := 0) rfl dX14_unit__39 (fun z_41 ez_41 (hz_41 : True) => ?_)
          have hqz_41 : z_41.toInt = jSo (rt_2.tx el_27) (a2.toInt) := by unfold jSo; rw [ez_41]
          refine lv_goto (tgt := 44) hx hb dX14_unit__40 (by decide) ?_
          have hI_42 : jdIr rt_2 fd (dc).toInt := hIr9
          have hAf_42 := jRS.mk hg_r0 (hh_40.at 5 rfl) hg_dd (hh_40.iv 3 rfl) (hh_40.at 6 rfl) (hh_40.iv 0 rfl) hI_42
          have hh_43 := hh_40.sub (L1 := [(el_27, 14, 3, .ref ut_28), (el_27, 14, 0, .ref uz_28), (el_27, 14, 2, .int (rt_2.ve el_27)), (el_27, 14, 4, .int (rt_2.ln el_27)), (el_27, 14, 1, .int (rt_2.ul el_27)), (r0, 16, 41, .ref dd), (r0, 16, 42, .int dc), (r0, 16, 60, .ref co), (r0, 16, 61, .ref cs), (r0, 16, 46, .ref ol), (r0, 16, 47, .ref nw), (r0, 16, 71, .ref td)]) [0, 1, 2, 3, 4, 5, 6, 7, 8, 9, 10, 11] rfl (M1 := [(ut_28, 194, 1500, ca 1, (rt_2.tx el_27)), (uz_28, 195, 40, ca 1, (rt_2.ux el_27)), (cs, 207, 2, ca 1, fs)]) [0, 1, 2] rfl (I1 := [(jFs, jDY dC dI ca G0 none sn), (jF9, jVl dC dI G0 9 ck), ([(201, 0)], jQc dC dI (ca 4) dd 3 fd), ([(208, 0)], jQc dC dI (ca 4) co 2 fo)]) [1, 2, 3, 4] rfl
          clear hh_40
          have hh_44 := hh_43.addI (jRS.ie hAf_42)
          clear hh_43
          have hA_45 : (jdRs rt_2 fd (dc).toInt) = S8 := by rw [hp1]; exact hRs9
          have hAe_45 := hh_44.iv 0 rfl
          rw [hA_45] at hAe_45
          have hh_46 := hh_44.sub (L1 := [(el_27, 14, 3, .ref ut_28), (el_27, 14, 0, .ref uz_28), (el_27, 14, 2, .int (rt_2.ve el_27)), (el_27, 14, 4, .int (rt_2.ln el_27)), (el_27, 14, 1, .int (rt_2.ul el_27)), (r0, 16, 41, .ref dd), (r0, 16, 42, .int dc), (r0, 16, 60, .ref co), (r0, 16, 61, .ref cs), (r0, 16, 46, .ref ol), (r0, 16, 47, .ref nw), (r0, 16, 71, .ref td)]) [0, 1, 2, 3, 4, 5, 6, 7, 8, 9, 10, 11] rfl (M1 := [(ut_28, 194, 1500, ca 1, (rt_2.tx el_27)), (uz_28, 195, 40, ca 1, (rt_2.ux el_27)), (cs, 207, 2, ca 1, fs)]) [0, 1, 2] rfl (I1 := [(jFs, jDY dC dI ca G0 none sn), (jF9, jVl dC dI G0 9 ck), ([(201, 0)], jQc dC dI (ca 4) dd 3 fd), ([(208, 0)], jQc dC dI (ca 4) co 2 fo)]) [1, 2, 3, 4] rfl
          clear hh_44
          have hh_47 := hh_46.addI (jRS.ie hAe_45)
          clear hh_46
          rw [hQ]
          exact W.iret (v := z_41) hx hb hr (fun t ht hW => ⟨⟨z_41, (), rfl, by have h9 := jdUn.ry (tr := rt_2) (by omega) (by omega) hat34 (i := a2.toInt) (by omega) (by first | omega | (have h8 := Option.some.inj (hat22.symm.trans hat34); rw [← h8]; omega)); rw [hRs9] at h9; rw [h9]; exact hqz_41, ⟨hh_47.rt (M1 := []) [] rfl ht, by rw [ht]; exact hh_47.2.2.2.2.2.2.2.2.sub (L1 := [(jFra, jRS dC dI ca G0 r0 S8)]) [0] rfl⟩⟩, by rw [ht]; try exact hh_47.1.1, fun q h9 hq => by rw [ht]; try exact hh_47.1.2.1 q h9 hq⟩) hh_47.1.2.2 dX14_unit__44
end
