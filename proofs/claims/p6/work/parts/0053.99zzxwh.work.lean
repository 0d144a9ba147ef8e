section
def EX14_stepW : List (Nat × Nat) := [(14, 9), (15, 5), (15, 7), (15, 10), (15, 11), (15, 15), (15, 18), (15, 19), (15, 20), (15, 21), (15, 30), (15, 31), (15, 32), (15, 33), (15, 34), (15, 36), (15, 38), (15, 39), (15, 40), (15, 41), (15, 42), (15, 46), (15, 49), (16, 3), (16, 4), (16, 6), (16, 36), (16, 37), (16, 39), (16, 40), (16, 48), (16, 64), (16, 65), (16, 66), (16, 70), (101, 0), (103, 0), (104, 0), (105, 0), (113, 0), (114, 0), (115, 0), (116, 0), (126, 0), (150, 0), (151, 0), (152, 0), (153, 0), (154, 0), (155, 0), (156, 0), (157, 0), (158, 0), (159, 0), (160, 0), (161, 0), (162, 0), (163, 0), (164, 0), (165, 0), (166, 0), (167, 0), (168, 0), (169, 0), (193, 0), (202, 0), (203, 0), (204, 0), (205, 0), (206, 0), (207, 0), (208, 0)]
def EX14_workW : List (Nat × Nat) := [(14, 9), (15, 5), (15, 7), (15, 10), (15, 11), (15, 15), (15, 18), (15, 19), (15, 20), (15, 21), (15, 30), (15, 31), (15, 32), (15, 33), (15, 34), (15, 36), (15, 38), (15, 39), (15, 40), (15, 41), (15, 42), (15, 46), (15, 49), (16, 3), (16, 4), (16, 6), (16, 36), (16, 37), (16, 39), (16, 40), (16, 48), (16, 64), (16, 65), (16, 66), (16, 70), (101, 0), (103, 0), (104, 0), (105, 0), (113, 0), (114, 0), (115, 0), (116, 0), (126, 0), (150, 0), (151, 0), (152, 0), (153, 0), (154, 0), (155, 0), (156, 0), (157, 0), (158, 0), (159, 0), (160, 0), (161, 0), (162, 0), (163, 0), (164, 0), (165, 0), (166, 0), (167, 0), (168, 0), (169, 0), (193, 0), (202, 0), (203, 0), (204, 0), (205, 0), (206, 0), (207, 0), (208, 0)]
set_option maxHeartbeats 4000000 in
set_option maxRecDepth 20000 in
theorem uX14_stepW (l : Launch) (dC : Nat → ClassId) (dI : Nat → Nat → Nat) (ca : Nat → ClassId) (base : Nat) (B : jF) (hB : jBok B) (hAp : jAp (dC, dI)) (hB14 : ∀ n G a H, B 14 n G a H ↔ jOb (dC, dI) 14 11 (F14 n G) a H) (hB15 : ∀ n G a H, B 15 n G a H ↔ jOb (dC, dI) 15 50 (F15 n G) a H) (hB16 : ∀ n G a H, B 16 n G a H ↔ jOb (dC, dI) 16 74 (F16 n G) a H) (hB101 : ∀ n G a H, B 101 n G a H ↔ jAr (dC, dI) (ca 1) (fun j z => True) n a H) (hB103 : ∀ n G a H, B 103 n G a H ↔ jAr (dC, dI) (ca 3) (fun j z => (z = 0 ∨ z = 1)) n a H) (hB104 : ∀ n G a H, B 104 n G a H ↔ jAr (dC, dI) (ca 3) (fun j z => (z = 0 ∨ z = 1)) n a H) (hB105 : ∀ n G a H, B 105 n G a H ↔ jAr (dC, dI) (ca 3) (fun j z => (z = 0 ∨ z = 1)) n a H) (hB113 : ∀ n G a H, B 113 n G a H ↔ jAr (dC, dI) (ca 1) (fun j z => True) n a H) (hB114 : ∀ n G a H, B 114 n G a H ↔ jAr (dC, dI) (ca 1) (fun j z => True) n a H) (hB115 : ∀ n G a H, B 115 n G a H ↔ jAr (dC, dI) (ca 1) (fun j z => True) n a H) (hB116 : ∀ n G a H, B 116 n G a H ↔ jAr (dC, dI) (ca 1) (fun j z => True) n a H) (hB126 : ∀ n G a H, B 126 n G a H ↔ jAr (dC, dI) (ca 1) (fun j z => True) n a H) (hB150 : ∀ n G a H, B 150 n G a H ↔ jAr (dC, dI) (ca 1) (fun j z => True) n a H) (hB151 : ∀ n G a H, B 151 n G a H ↔ jAr (dC, dI) (ca 1) (fun j z => True) n a H) (hB152 : ∀ n G a H, B 152 n G a H ↔ jAr (dC, dI) (ca 1) (fun j z => True) n a H) (hB153 : ∀ n G a H, B 153 n G a H ↔ jAr (dC, dI) (ca 1) (fun j z => True) n a H) (hB154 : ∀ n G a H, B 154 n G a H ↔ jAr (dC, dI) (ca 1) (fun j z => True) n a H) (hB155 : ∀ n G a H, B 155 n G a H ↔ jAr (dC, dI) (ca 1) (fun j z => 0 ≤ z.toInt ∧ z.toInt ≤ 11990) n a H) (hB156 : ∀ n G a H, B 156 n G a H ↔ jAr (dC, dI) (ca 1) (fun j z => 0 ≤ z.toInt ∧ z.toInt ≤ 10) n a H) (hB157 : ∀ n G a H, B 157 n G a H ↔ jAr (dC, dI) (ca 1) (fun j z => 0 ≤ z.toInt ∧ z.toInt ≤ 1599) n a H) (hB158 : ∀ n G a H, B 158 n G a H ↔ jAr (dC, dI) (ca 1) (fun j z => 0 ≤ z.toInt ∧ z.toInt ≤ 6) n a H) (hB159 : ∀ n G a H, B 159 n G a H ↔ jAr (dC, dI) (ca 1) (fun j z => 0 ≤ z.toInt ∧ z.toInt ≤ 8) n a H) (hB160 : ∀ n G a H, B 160 n G a H ↔ jAr (dC, dI) (ca 1) (fun j z => 0 ≤ z.toInt ∧ z.toInt ≤ 119999) n a H) (hB161 : ∀ n G a H, B 161 n G a H ↔ jAr (dC, dI) (ca 1) (fun j z => 0 ≤ z.toInt ∧ z.toInt ≤ 119999) n a H) (hB162 : ∀ n G a H, B 162 n G a H ↔ jAr (dC, dI) (ca 1) (fun j z => 0 ≤ z.toInt ∧ z.toInt ≤ 119999) n a H) (hB163 : ∀ n G a H, B 163 n G a H ↔ jAr (dC, dI) (ca 1) (fun j z => 0 ≤ z.toInt ∧ z.toInt ≤ 1599) n a H) (hB164 : ∀ n G a H, B 164 n G a H ↔ jAr (dC, dI) (ca 1) (fun j z => 0 ≤ z.toInt ∧ z.toInt ≤ 100000) n a H) (hB165 : ∀ n G a H, B 165 n G a H ↔ jAr (dC, dI) (ca 1) (fun j z => 0 ≤ z.toInt ∧ z.toInt ≤ 3) n a H) (hB166 : ∀ n G a H, B 166 n G a H ↔ jAr (dC, dI) (ca 1) (fun j z => True) n a H) (hB167 : ∀ n G a H, B 167 n G a H ↔ jAr (dC, dI) (ca 1) (fun j z => True) n a H) (hB168 : ∀ n G a H, B 168 n G a H ↔ jAr (dC, dI) (ca 1) (fun j z => 0 ≤ z.toInt ∧ z.toInt ≤ 119999) n a H) (hB169 : ∀ n G a H, B 169 n G a H ↔ jAr (dC, dI) (ca 1) (fun j z => True) n a H) (hB190 : ∀ n G a H, B 190 n G a H ↔ jAr (dC, dI) (ca 1) (fun j z => 0 ≤ z.toInt ∧ z.toInt ≤ 1500) n a H) (hB191 : ∀ n G a H, B 191 n G a H ↔ jAr (dC, dI) (ca 1) (fun j z => 0 ≤ z.toInt ∧ z.toInt ≤ 1500) n a H) (hB192 : ∀ n G a H, B 192 n G a H ↔ jAr (dC, dI) (ca 1) (fun j z => 0 ≤ z.toInt ∧ z.toInt ≤ 2) n a H) (hB193 : ∀ n G a H, B 193 n G a H ↔ jAr (dC, dI) (ca 1) (fun j z => True) n a H) (hB194 : ∀ n G a H, B 194 n G a H ↔ jAr (dC, dI) (ca 1) (fun j z => True) n a H) (hB195 : ∀ n G a H, B 195 n G a H ↔ jAr (dC, dI) (ca 1) (fun j z => True) n a H) (hB201 : ∀ n G a H, B 201 n G a H ↔ jAq (dC, dI) (ca 4) (jQs 14 0) n G a H) (hB202 : ∀ n G a H, B 202 n G a H ↔ jAq (dC, dI) (ca 4) (jQn 14 0) n G a H) (hB203 : ∀ n G a H, B 203 n G a H ↔ jAr (dC, dI) (ca 1) (fun j z => -3300 ≤ z.toInt ∧ z.toInt ≤ 20) n a H) (hB204 : ∀ n G a H, B 204 n G a H ↔ jAr (dC, dI) (ca 1) (fun j z => -3100 ≤ z.toInt ∧ z.toInt ≤ 3100) n a H) (hB205 : ∀ n G a H, B 205 n G a H ↔ jAr (dC, dI) (ca 1) (fun j z => 0 ≤ z.toInt ∧ z.toInt ≤ 1600) n a H) (hB206 : ∀ n G a H, B 206 n G a H ↔ jAr (dC, dI) (ca 1) (fun j z => 0 ≤ z.toInt ∧ z.toInt ≤ 40) n a H) (hB207 : ∀ n G a H, B 207 n G a H ↔ jAr (dC, dI) (ca 1) (fun j z => 0 ≤ z.toInt ∧ z.toInt ≤ 39) n a H) (hB208 : ∀ n G a H, B 208 n G a H ↔ jAq (dC, dI) (ca 4) (jQn 14 0) n G a H) (G0 : jT) (H0 : Heap) (r0 : Nat) (S9 : Int × (Int → jdD)) (Z9 : jwSt) : Met l yX14_step (jw yX14_step cX14_step 2 none) ({ frames := 1707, cells := 0, slots := 0, locals := 71978 }) (va_Pc [.ref r0] (fun U => U.heap = H0 ∧ jX B base G0 [] H0 ∧ jG dC dI ca base U ∧ jK2 dC dI ca U ∧ G0 r0 = some (16, 0) ∧ jP (dC, dI) G0 H0 [] ∧ jIs (dC, dI) G0 H0 [(jFBZ, jBZ dC dI ca G0 r0 S9 Z9)] ∧ jwOk S9 Z9)) (va_Qv (S := Unit) (fun u => True) (fun u t => (jRt (dC, dI) B base G0 EX14_stepW H0 [] t.heap) ∧ jIs (dC, dI) G0 t.heap [(jFBZ, jBZ dC dI ca G0 r0 S9 (jwAd S9 (jwAd S9 Z9 0) 1))]) (jA base)) 0 0 (jA base) := by
  refine Met.ofW (cc := cX14_step) (maxL := 2) (ret := none) (by decide) rfl ?_
  intro p e s m args below meth c s₁ Bd hml hv
  obtain ⟨rfl, hH0, hX, hG, hK2, hg_r0, hP0, hI0, hp0⟩ := hv
  have hK := hG.1
  have hx := Bd.exec
  have hb := Bd.bytes
  have hr := Bd.returns
  have hts := atoms_spec (ws := (jw yX14_step cX14_step 2 none)) Bd.pre
  have htw : ∀ w ∈ jWl, w.before _ s = true := fun w h => hts w (List.mem_cons_of_mem _ h)
  have hown : s.vm.findClass RX14 = some m.cls := findClass_of_methodNamed Bd.named
  have hlocks := Bd.notSynchronized
  obtain ⟨Q, hQ⟩ : ∃ Q, Q = MQ below (va_Qv (S := Unit) (fun u => True) (fun u t => (jRt (dC, dI) B base G0 EX14_stepW H0 [] t.heap) ∧ jIs (dC, dI) G0 t.heap [(jFBZ, jBZ dC dI ca G0 r0 S9 (jwAd S9 (jwAd S9 Z9 0) 1))]) (jA base)) ([.ref r0] : List Value).toArray s 0 0 (jA base) := ⟨_, rfl⟩
  rw [← hQ]
  have hl := lv_entry ([.ref r0]) (n := 2) (Nat.le_of_ble_eq_true rfl)
  rw [lg_entry_eq]
  generalize (lg_sl ([.ref r0]) ++ List.replicate (2 - (lg_sl ([.ref r0])).length) Slot.unset).toArray = ls at hl ⊢
  have hl : lv_has ls 2 [(0, .ref r0)] := hl
  generalize hR : (headSpec (jw yX14_step cX14_step 2 none) ({ frames := 1707, cells := 0, slots := 0, locals := 71978 })).room = R
  subst hH0
  have hh : jSt (dC, dI) B base G0 G0 EX14_stepW s.heap 0 0 [] [] [(jFBZ, jBZ dC dI ca G0 r0 S9 Z9)] s.heap [] := jSt.start hX hP0 jMc.nil hI0
  clear hX hP0
  have hk0 : (0 : Int32).toInt = 0 := by decide
  have hk1 : (1 : Int32).toInt = 1 := by decide
  have hk2 : (2 : Int32).toInt = 2 := by decide
  have hly_16_60 := htw (u_lay RX14 TX14 60) (jWc_wsX140 _ (u_in_lay (by decide)))
  have hly_16_62 := htw (u_lay RX14 TX14 62) (jWc_wsX140 _ (u_in_lay (by decide)))
  have hly_16_64 := htw (u_lay RX14 TX14 64) (jWc_wsX140 _ (u_in_lay (by decide)))
  have hlk_799 := (htw (.fieldLink RX14 799 "ProofServerModel" "steps" "I") (jWr_90 _ (List.mem_of_getElem? (i := 8) rfl)))
  have hlk_129 := (htw (.fieldLink RX14 129 "ProofServerModel" "checkOf" "[LProofServerModel$Document;") (jWr_12 _ (List.mem_of_getElem? (i := 15) rfl)))
  have hlk_135 := (htw (.fieldLink RX14 135 "ProofServerModel" "checkLeft" "[I") (jWr_12 _ (List.mem_of_getElem? (i := 17) rfl)))
  refine lv_aload_n hx hb dX14_step_0 rfl (lv_at hl 0 rfl) ?_
  refine lv_dup hx hb dX14_step_1 rfl ?_
  obtain ⟨v_1, hv_1, hh_2⟩ := hh.pin (C := RX14) (T := TX14) (N := 74) hB16 rfl (by decide) hg_r0 (i := 64) (by decide) rfl
  clear hh
  obtain ⟨steps_3, rfl⟩ := hv_1
  refine j7_read hx hb hown hK (C := RX14) (T := TX14) (N := 74) rfl hly_16_64 hlk_799 (hh_2.at 0 rfl) dX14_step_2 ?_
  refine lv_iconst (v := 1) hx hb dX14_step_5 (by decide) ?_
  refine lv_iadd hx hb dX14_step_6 ?_
  refine lv_topi (fun z_4 ez_4 => ?_)
  refine j7_put hx hb hown hK hh_2 hB hAp hB16 (C := RX14) (T := TX14) (N := 74) rfl (by decide) hg_r0 (i := 64) (by decide) hly_16_64 rfl hlk_799 rfl (ty := .int) (v := .int z_4) (by decide +kernel) rfl rfl (⟨_, rfl⟩) rfl (L1 := []) [] rfl rfl rfl dX14_step_7 (fun H_5 locs_5 hh_5 => ?_)
  clear hh_2
  refine lv_iconst (v := 0) hx hb dX14_step_10 (by decide) ?_
  refine lv_istore_n (lv' := [(1, .int 0), (0, .ref r0)]) hx hb dX14_step_11 rfl hl (by decide) rfl (fun ls hl => ?_)
  have L12 : ∀ (N : Nat) (v1_6 : Int32) (Z9x_6 : jwSt) (H_6 : Heap) (locs_6 : List Loc), jSt (dC, dI) B base G0 G0 EX14_stepW s.heap 0 0 [(r0, 16, 64, .int z_4)] [] [(jFBZ, jBZ dC dI ca G0 r0 S9 Z9x_6)] H_6 locs_6 → (0 ≤ v1_6.toInt ∧ v1_6.toInt ≤ 2 ∧ jwOk S9 Z9x_6 ∧ Z9x_6 = jwAk S9 Z9 v1_6.toInt) → (2 - v1_6.toInt : Int) < N → ∀ ls : Array Slot, lv_has ls 2 [(0, .ref r0), (1, .int v1_6)] → W p l e R s m ([.ref r0] : List Value).toArray below meth c H_6 locs_6 0 0 Q (F0 m 12 ls []) := by
    intro N
    induction N with
    | zero => intro v1_6 Z9x_6 H_6 locs_6 hh_6  hi_6 hm; exact absurd hm (by omega)
    | succ N L12 =>
      intro v1_6 Z9x_6 H_6 locs_6 hh_6  hi_6 hm_6 ls hl
      obtain ⟨hi_6_0, hi_6_1, hi_6_2, hi_6_3⟩ := hi_6
      refine lv_iload_n hx hb dX14_step_12 rfl (lv_at hl 1 rfl) ?_
      refine lv_iconst (v := 2) hx hb dX14_step_13 (by decide) ?_
      refine lv_icmp_ge (tgt := 73) hx hb dX14_step_14 (by decide) (fun c_7 => ?_) (fun c_7 => ?_)
      · skip
        have c_7' : v1_6.toInt ≥ 2 := jb_ge (rfl) ((by decide)) c_7
        have hA_8 : Z9x_6 = (jwAd S9 (jwAd S9 Z9 0) 1) := hi_6_3.trans (jwAk.e (by omega))
        have hAe_8 : jBZ dC dI ca G0 r0 S9 (jwAd S9 (jwAd S9 Z9 0) 1) H_6 := by rw [← hA_8]; exact hh_6.iv 0 rfl
        have hh_9 := hh_6.sub (L1 := [(r0, 16, 64, .int z_4)]) [0] rfl (M1 := []) [] rfl (I1 := []) [] rfl
        clear hh_6
        have hh_10 := hh_9.addI (jBZ.ie hAe_8)
        clear hh_9
        rw [hQ]
        exact W.vret hx hb hr (fun t ht hW => ⟨⟨(), rfl, trivial, ⟨hh_10.rt (M1 := []) [] rfl ht, by rw [ht]; exact hh_10.2.2.2.2.2.2.2.2.sub (L1 := [(jFBZ, jBZ dC dI ca G0 r0 S9 (jwAd S9 (jwAd S9 Z9 0) 1))]) [0] rfl⟩⟩, by rw [ht]; try exact hh_10.1.1, fun q h9 hq => by rw [ht]; try exact hh_10.1.2.1 q h9 hq⟩) hh_10.1.2.2 dX14_step_73
      · skip
        have c_7' : v1_6.toInt < 2 := jb_ge_n (rfl) ((by decide)) c_7
        obtain ⟨rt_11, fq_11, fd_11, dc_11, co_11, cs_11, cl_11, WW_11, ol_11, nw_11, td_11, hb1_11, hb2_11, hb3_11, hb4_11, hb5_11, hb6_11, hb7_11, hBz_11⟩ := hh_6.iv 0 rfl
        have hh_12 := hh_6.sub (L1 := [(r0, 16, 64, .int z_4)]) [0] rfl (M1 := []) [] rfl (I1 := []) [] rfl
        clear hh_6
        have hh_13 := hh_12.addI (jHo.ie hb7_11)
        clear hh_12
        have hh_14 := hh_13.addI (jHk.ie hb6_11)
        clear hh_13
        have hh_15 := hh_14.addI (jHw.ie hb5_11)
        clear hh_14
        have hh_16 := hh_15.addI (jHc.ie hb4_11)
        clear hh_15
        have hh_17 := hh_16.addI (jXD.ie hb3_11)
        clear hh_16
        have hh_18 := hh_17.addI (jRD.ie hb2_11)
        clear hh_17
        have hh_19 := hh_18.addI (jHd.ie hb1_11)
        clear hh_18
        obtain ⟨ycs_20, ycl_20, yco_20, -, ⟨hgcs_20, hgcl_20, hgco_20⟩, hoP_20, hoM_20, hqco_20, -⟩ := hh_19.iv 3 rfl
        have hh_21 := ((hh_19.sub (L1 := [(r0, 16, 64, .int z_4)]) [0] rfl (M1 := []) [] rfl (I1 := [(jFHd, jHd dC dI ca G0 r0 fd_11 dc_11), (jFrd, jRD dC dI ca G0 none rt_11), (jFxd, jXD dC dI ca G0 none fq_11), (jFHw, jHw dC dI ca G0 r0 WW_11), (jFHk, jHk dC dI ca G0 r0 (Z9x_6.2.2.2)), (jFHo, jHo dC dI ca G0 r0 ol_11 nw_11 td_11)]) [0, 1, 2, 4, 5, 6] rfl).more hoP_20).moreM hoM_20
        clear hh_19
        have hh_22 := hh_21.addI (jQc.ie hqco_20 hgco_20 (by decide) (by decide))
        clear hh_21
        refine lv_aload_n hx hb dX14_step_17 rfl (lv_at hl 0 rfl) ?_
        refine j7_read hx hb hown hK (C := RX14) (T := TX14) (N := 74) rfl hly_16_60 hlk_129 (hh_22.at 2 rfl) dX14_step_18 ?_
        refine lv_iload_n hx hb dX14_step_21 rfl (lv_at hl 1 rfl) ?_
        refine j7_qaldI hx hb hK2 hh_22 hB208 0 rfl (by decide) hgco_20 (x := v1_6.toInt) (rfl) (by omega) (hh_22.iv 0 rfl) dX14_step_22 (fun o_23 ho_23 heo_23 => ?_)
        rcases ho_23 with rfl | ⟨el_24, rfl, hg_el_24⟩
        · simp only [va_rf]
          have hN23 := hBz_11.zn (w := v1_6.toInt) (by omega) (by omega) heo_23
          have hA23 : (Z9x_6.2.1 v1_6.toInt).1 < 0 := by rw [hN23]; decide
          have hHf_25 : jHc dC dI ca G0 r0 co_11 cs_11 cl_11 H_6 := ⟨ycs_20, ycl_20, yco_20, ⟨_, hg_r0⟩, ⟨hgcs_20, hgcl_20, hgco_20⟩, hh_22.2.2.1.sub (L1 := [(r0, 16, 61, .ref ycs_20), (r0, 16, 62, .ref ycl_20), (r0, 16, 60, .ref yco_20)]) [0, 1, 2] rfl, hh_22.2.2.2.2.2.2.2.1.sub (L1 := [(ycs_20, 207, 2, ca 1, cs_11), (ycl_20, 115, 2, ca 1, cl_11)]) [0, 1] rfl, hh_22.iv 0 rfl, trivial⟩
          have hh_26 := hh_22.sub (L1 := [(r0, 16, 61, .ref ycs_20), (r0, 16, 62, .ref ycl_20), (r0, 16, 60, .ref yco_20), (r0, 16, 64, .int z_4)]) [0, 1, 2, 3] rfl (M1 := [(ycs_20, 207, 2, ca 1, cs_11), (ycl_20, 115, 2, ca 1, cl_11)]) [0, 1] rfl (I1 := [(jFHd, jHd dC dI ca G0 r0 fd_11 dc_11), (jFrd, jRD dC dI ca G0 none rt_11), (jFxd, jXD dC dI ca G0 none fq_11), (jFHw, jHw dC dI ca G0 r0 WW_11), (jFHk, jHk dC dI ca G0 r0 (Z9x_6.2.2.2)), (jFHo, jHo dC dI ca G0 r0 ol_11 nw_11 td_11)]) [1, 2, 3, 4, 5, 6] rfl
          clear hh_22
          have hh_27 := hh_26.addI (jHc.ie hHf_25)
          clear hh_26
          have hBf_28 : jBZ dC dI ca G0 r0 S9 Z9x_6 H_6 := ⟨rt_11, fq_11, fd_11, dc_11, co_11, cs_11, cl_11, WW_11, ol_11, nw_11, td_11, hh_27.iv 1 rfl, hh_27.iv 2 rfl, hh_27.iv 3 rfl, hh_27.iv 0 rfl, hh_27.iv 4 rfl, hh_27.iv 5 rfl, hh_27.iv 6 rfl, hBz_11⟩
          have hh_29 := hh_27.sub (L1 := [(r0, 16, 61, .ref ycs_20), (r0, 16, 62, .ref ycl_20), (r0, 16, 60, .ref yco_20), (r0, 16, 64, .int z_4)]) [0, 1, 2, 3] rfl (M1 := [(ycs_20, 207, 2, ca 1, cs_11), (ycl_20, 115, 2, ca 1, cl_11)]) [0, 1] rfl (I1 := []) [] rfl
          clear hh_27
          have hh_30 := hh_29.addI (jBZ.ie hBf_28)
          clear hh_29
          refine lv_ifnonnullN hx hb dX14_step_23 ?_
          refine lv_aload_n hx hb dX14_step_26 rfl (lv_at hl 0 rfl) ?_
          refine lv_iload_n hx hb dX14_step_27 rfl (lv_at hl 1 rfl) ?_
          refine va_callv (A0 := jA base) (H0 := s.heap) (va_runV (As := [.int v1_6]) (rest := []) ⟨hx, hb, hml, hown, hts⟩ (uX14_takeCheckW l dC dI ca base B hB hAp hB14 hB15 hB16 hB101 hB105 hB113 hB114 hB115 hB155 hB156 hB157 hB166 hB167 hB190 hB191 hB192 hB194 hB201 hB202 hB205 hB207 hB208 G0 H_6 r0 v1_6 S9 Z9x_6) (cwV 1 hts (jgV (jWr_90 _ (List.mem_of_getElem? (i := 9) rfl)) (jWr_90 _ (List.mem_of_getElem? (i := 10) rfl)) (jWr_90 _ (List.mem_of_getElem? (i := 11) rfl)) (jWr_1 _ (List.mem_of_getElem? (i := 5) rfl)) (jWr_90 _ (List.mem_of_getElem? (i := 12) rfl))) rfl rfl rfl (by decide +kernel) ⟨by rw [← hR]; exact Nat.le_of_ble_eq_true rfl, by rw [← hR]; exact Nat.le_of_ble_eq_true rfl⟩) ⟨fun a U g mk q => by obtain ⟨q0, q1, q2, qK, q10, q11, q12, q13, q14⟩ := q; exact ⟨q0, q1, q2, jG.calling g mk a qK, (va_K.moved (Vm.Alike.refl U.vm) q10), q11, q12, q13, q14⟩, hh_30.recv (C := RX14) (T := TX14) (N := 74) hB16 rfl (by decide) hg_r0 hK, fun U hU hW => ⟨rfl, hU, hh_30.2.1, hG.step hW hU hh_30.1, va_K.moved hW.alike hK2, hg_r0, jP.nil, (hh_30.2.2.2.2.2.2.2.2.sub (L1 := [(jFBZ, jBZ dC dI ca G0 r0 S9 Z9x_6)]) [0] rfl), by first | omega | (refine ⟨?_, ?_⟩ <;> (first | omega | rfl | assumption | decide | exact Or.inl rfl | exact Or.inr rfl | (simp only; omega)))⟩⟩ rfl rfl hl.1 rfl (lv_room (Nat.le_of_ble_eq_true rfl)) dX14_step_28 ⟨Nat.zero_le _, Nat.zero_le _⟩) hh_30.1 (fun q _ h => h) (fun q h => h) (fun u_31 t_31 H_31 locs_31 ht_31 hvm_31 hr_32 hb_31 hz_31 hk_31 hS_31 => ?_)
          rw [ht_31] at hb_31
          obtain ⟨hb_31, hbE_31⟩ := hb_31
          obtain ⟨hb_311, hb_312, hb_313, hb_314, hb_315⟩ := hb_31
          have hh_31 : jSt (dC, dI) B base G0 G0 EX14_stepW s.heap 0 0 [(r0, 16, 61, .ref ycs_20), (r0, 16, 62, .ref ycl_20), (r0, 16, 60, .ref yco_20), (r0, 16, 64, .int z_4)] [] [(jFBZ, jBZ dC dI ca G0 r0 S9 (jwTk S9 Z9x_6 v1_6.toInt))] H_31 locs_31 := (((hh_30.call hb_311 hb_312 hb_313 hb_314 hS_31 rfl (L1 := [(r0, 16, 61, .ref ycs_20), (r0, 16, 62, .ref ycl_20), (r0, 16, 60, .ref yco_20), (r0, 16, 64, .int z_4)]) [0, 1, 2, 3] rfl rfl (M1 := []) [] rfl rfl (I1 := []) [] rfl rfl).more hb_315)).addIs hbE_31
          clear hh_30 ht_31 hvm_31 hz_31 hk_31 hS_31 hb_311 hb_312 hb_313 hb_314 hb_315
          clear  hbE_31
          obtain ⟨rt_33, fq_33, fd_33, dc_33, co_33, cs_33, cl_33, WW_33, ol_33, nw_33, td_33, hb1_33, hb2_33, hb3_33, hb4_33, hb5_33, hb6_33, hb7_33, hBz_33⟩ := hh_31.iv 0 rfl
          have hh_34 := hh_31.sub (L1 := [(r0, 16, 61, .ref ycs_20), (r0, 16, 62, .ref ycl_20), (r0, 16, 60, .ref yco_20), (r0, 16, 64, .int z_4)]) [0, 1, 2, 3] rfl (M1 := []) [] rfl (I1 := []) [] rfl
          clear hh_31
          have hh_35 := hh_34.addI (jHo.ie hb7_33)
          clear hh_34
          have hh_36 := hh_35.addI (jHk.ie hb6_33)
          clear hh_35
          have hh_37 := hh_36.addI (jHw.ie hb5_33)
          clear hh_36
          have hh_38 := hh_37.addI (jHc.ie hb4_33)
          clear hh_37
          have hh_39 := hh_38.addI (jXD.ie hb3_33)
          clear hh_38
          have hh_40 := hh_39.addI (jRD.ie hb2_33)
          clear hh_39
          have hh_41 := hh_40.addI (jHd.ie hb1_33)
          clear hh_40
          obtain ⟨ycs_42, ycl_42, yco_42, -, ⟨hgcs_42, hgcl_42, hgco_42⟩, hoP_42, hoM_42, hqco_42, -⟩ := hh_41.iv 3 rfl
          obtain rfl : ycs_20 = ycs_42 := by have h9 := jf.uniq (hh_41.at 0 rfl) (hoP_42 _ (List.mem_of_getElem? (i := 0) rfl)).2; cases h9; rfl
          obtain rfl : ycl_20 = ycl_42 := by have h9 := jf.uniq (hh_41.at 1 rfl) (hoP_42 _ (List.mem_of_getElem? (i := 1) rfl)).2; cases h9; rfl
          obtain rfl : yco_20 = yco_42 := by have h9 := jf.uniq (hh_41.at 2 rfl) (hoP_42 _ (List.mem_of_getElem? (i := 2) rfl)).2; cases h9; rfl
          have hh_43 := ((hh_41.sub (L1 := [(r0, 16, 64, .int z_4)]) [3] rfl (M1 := []) [] rfl (I1 := [(jFHd, jHd dC dI ca G0 r0 fd_33 dc_33), (jFrd, jRD dC dI ca G0 none rt_33), (jFxd, jXD dC dI ca G0 none fq_33), (jFHw, jHw dC dI ca G0 r0 WW_33), (jFHk, jHk dC dI ca G0 r0 ((jwTk S9 Z9x_6 v1_6.toInt).2.2.2)), (jFHo, jHo dC dI ca G0 r0 ol_33 nw_33 td_33)]) [0, 1, 2, 4, 5, 6] rfl).more hoP_42).moreM hoM_42
          clear hh_41
          have hh_44 := hh_43.addI (jQc.ie hqco_42 hgco_42 (by decide) (by decide))
          clear hh_43
          refine lv_aload_n hx hb dX14_step_31 rfl (lv_at hl 0 rfl) ?_
          refine j7_read hx hb hown hK (C := RX14) (T := TX14) (N := 74) rfl hly_16_60 hlk_129 (hh_44.at 2 rfl) dX14_step_32 ?_
          refine lv_iload_n hx hb dX14_step_35 rfl (lv_at hl 1 rfl) ?_
          refine j7_qaldI hx hb hK2 hh_44 hB208 0 rfl (by decide) hgco_42 (x := v1_6.toInt) (rfl) (by omega) (hh_44.iv 0 rfl) dX14_step_36 (fun o_45 ho_45 heo_45 => ?_)
          rcases ho_45 with rfl | ⟨el_46, rfl, hg_el_46⟩
          · simp only [va_rf]
            have hN36 := hBz_33.zn (w := v1_6.toInt) (by omega) (by omega) heo_45
            refine lv_ifnonnullN hx hb dX14_step_37 ?_
            have hHf_47 : jHc dC dI ca G0 r0 co_33 cs_33 cl_33 H_31 := ⟨ycs_20, ycl_20, yco_20, ⟨_, hg_r0⟩, ⟨hgcs_42, hgcl_42, hgco_42⟩, hh_44.2.2.1.sub (L1 := [(r0, 16, 61, .ref ycs_20), (r0, 16, 62, .ref ycl_20), (r0, 16, 60, .ref yco_20)]) [0, 1, 2] rfl, hh_44.2.2.2.2.2.2.2.1.sub (L1 := [(ycs_20, 207, 2, ca 1, cs_33), (ycl_20, 115, 2, ca 1, cl_33)]) [0, 1] rfl, hh_44.iv 0 rfl, trivial⟩
            have hh_48 := hh_44.sub (L1 := [(r0, 16, 61, .ref ycs_20), (r0, 16, 62, .ref ycl_20), (r0, 16, 60, .ref yco_20), (r0, 16, 64, .int z_4)]) [0, 1, 2, 3] rfl (M1 := [(ycs_20, 207, 2, ca 1, cs_33), (ycl_20, 115, 2, ca 1, cl_33)]) [0, 1] rfl (I1 := [(jFHd, jHd dC dI ca G0 r0 fd_33 dc_33), (jFrd, jRD dC dI ca G0 none rt_33), (jFxd, jXD dC dI ca G0 none fq_33), (jFHw, jHw dC dI ca G0 r0 WW_33), (jFHk, jHk dC dI ca G0 r0 ((jwTk S9 Z9x_6 v1_6.toInt).2.2.2)), (jFHo, jHo dC dI ca G0 r0 ol_33 nw_33 td_33)]) [1, 2, 3, 4, 5, 6] rfl
            clear hh_44
            have hh_49 := hh_48.addI (jHc.ie hHf_47)
            clear hh_48
            have hBf_50 : jBZ dC dI ca G0 r0 S9 (jwTk S9 Z9x_6 v1_6.toInt) H_31 := ⟨rt_33, fq_33, fd_33, dc_33, co_33, cs_33, cl_33, WW_33, ol_33, nw_33, td_33, hh_49.iv 1 rfl, hh_49.iv 2 rfl, hh_49.iv 3 rfl, hh_49.iv 0 rfl, hh_49.iv 4 rfl, hh_49.iv 5 rfl, hh_49.iv 6 rfl, hBz_33⟩
            have hh_51 := hh_49.sub (L1 := [(r0, 16, 61, .ref ycs_20), (r0, 16, 62, .ref ycl_20), (r0, 16, 60, .ref yco_20), (r0, 16, 64, .int z_4)]) [0, 1, 2, 3] rfl (M1 := [(ycs_20, 207, 2, ca 1, cs_33), (ycl_20, 115, 2, ca 1, cl_33)]) [0, 1] rfl (I1 := []) [] rfl
            clear hh_49
            have hh_52 := hh_51.addI (jBZ.ie hBf_50)
            clear hh_51
            refine lv_goto (tgt := 67) hx hb dX14_step_40 (by decide) ?_
            obtain ⟨z_53, ez_53⟩ : ∃ y : Int32, y = v1_6 + 1 := ⟨_, rfl⟩
            refine lv_iinc (v := z_53) (lv' := [(1, .int z_53), (0, .ref r0)]) hx hb dX14_step_67 hl (k := 1) rfl (by rw [ez_53]; rfl) (by decide) rfl (fun ls hl => ?_)
            have hz_53 : z_53.toInt = v1_6.toInt + 1 := by rw [ez_53]; exact jb_iadd2 (rfl) (by decide) (by omega)
            refine lv_goto (tgt := 12) hx hb dX14_step_70 (by decide) ?_
            exact L12 z_53 (jwTk S9 Z9x_6 v1_6.toInt) _ _ (hh_52.sub (L1 := [(r0, 16, 64, .int z_4)]) [3] rfl (M1 := []) [] rfl (I1 := [(jFBZ, jBZ dC dI ca G0 r0 S9 (jwTk S9 Z9x_6 v1_6.toInt))]) [0] rfl) (by have he9 := jwAd.no hA23 (by rw [hN36]; decide); exact ⟨by omega, by omega, by rw [← he9]; exact hi_6_2.ad (by omega), he9.symm.trans (by rw [hi_6_3]; exact jwAk.s (by omega) (by omega))⟩) (by omega) _ (lv_sub hl [1, 0] rfl)
          · simp only [va_rf]
            refine lv_ifnonnull (tgt := 43) hx hb dX14_step_37 (by decide) ?_
            obtain ⟨d9, e0, e1, e2, e3, e4, e5, e6, e7⟩ := hBz_33.at (w := v1_6.toInt) (by omega) (by omega) heo_45
            have hB43 : 0 ≤ ((jwTk S9 Z9x_6 v1_6.toInt).2.1 v1_6.toInt).1 := by rw [e4]; exact e0
            have hC43 : ((jwTk S9 Z9x_6 v1_6.toInt).2.1 v1_6.toInt).2 = jSo cl_33 v1_6.toInt := by rw [e4]
            have hD43 := (hi_6_2.tk (by omega) hA23).pos (w := v1_6.toInt) (by omega) hB43
            refine lv_aload_n hx hb dX14_step_43 rfl (lv_at hl 0 rfl) ?_
            refine j7_read hx hb hown hK (C := RX14) (T := TX14) (N := 74) rfl hly_16_62 hlk_135 (hh_44.at 1 rfl) dX14_step_44 ?_
            refine lv_iload_n hx hb dX14_step_47 rfl (lv_at hl 1 rfl) ?_
            refine lv_dup2_11 hx hb dX14_step_48 rfl rfl ?_
            refine j7_ialdM hx hb hK hh_44 hB115 1 rfl (by decide) hgcl_42 (x := v1_6.toInt) (rfl) (by omega) (j := 1) rfl dX14_step_49 (fun z_54 ez_54 (hz_54 : True) => ?_)
            have hqz_54 : z_54.toInt = jSo cl_33 (v1_6.toInt) := by unfold jSo; rw [ez_54]
            have hrz9 := jb_rng z_54
            refine lv_iconst (v := 1) hx hb dX14_step_50 (by decide) ?_
            refine lv_isub hx hb dX14_step_51 ?_
            refine lv_topi (fun z_55 ez_55 => ?_)
            have hz_55 : z_55.toInt = z_54.toInt - 1 := by rw [ez_55]; exact jb_isub2 (rfl) ((by decide)) (by omega)
            refine j7_iastU hx hb hK hh_44 hB hB115 1 rfl (by decide) (by decide) rfl 1 rfl (M1 := [(ycs_20, 207, 2, ca 1, cs_33)]) [0] rfl rfl rfl hgcl_42 (x := v1_6.toInt) (rfl) (by omega) (trivial) dX14_step_52 (fun H_56 locs_56 fs_57 hv_56 ho_56 hh_56 => ?_)
            have hv_56 : jSo fs_57 (v1_6.toInt) = z_55.toInt := by unfold jSo; rw [hv_56]; try exact rfl
            clear hh_44
            refine lv_aload_n hx hb dX14_step_53 rfl (lv_at hl 0 rfl) ?_
            refine j7_read hx hb hown hK (C := RX14) (T := TX14) (N := 74) rfl hly_16_62 hlk_135 (hh_56.at 1 rfl) dX14_step_54 ?_
            refine lv_iload_n hx hb dX14_step_57 rfl (lv_at hl 1 rfl) ?_
            refine j7_ialdM hx hb hK hh_56 hB115 1 rfl (by decide) hgcl_42 (x := v1_6.toInt) (rfl) (by omega) (j := 0) rfl dX14_step_58 (fun z_58 ez_58 (hz_58 : True) => ?_)
            have hqz_58 : z_58.toInt = jSo fs_57 (v1_6.toInt) := by unfold jSo; rw [ez_58]
            have hHf_59 : jHc dC dI ca G0 r0 co_33 cs_33 fs_57 H_56 := ⟨ycs_20, ycl_20, yco_20, ⟨_, hg_r0⟩, ⟨hgcs_42, hgcl_42, hgco_42⟩, hh_56.2.2.1.sub (L1 := [(r0, 16, 61, .ref ycs_20), (r0, 16, 62, .ref ycl_20), (r0, 16, 60, .ref yco_20)]) [0, 1, 2] rfl, hh_56.2.2.2.2.2.2.2.1.sub (L1 := [(ycs_20, 207, 2, ca 1, cs_33), (ycl_20, 115, 2, ca 1, fs_57)]) [1, 0] rfl, hh_56.iv 0 rfl, trivial⟩
            have hh_60 := hh_56.sub (L1 := [(r0, 16, 61, .ref ycs_20), (r0, 16, 62, .ref ycl_20), (r0, 16, 60, .ref yco_20), (r0, 16, 64, .int z_4)]) [0, 1, 2, 3] rfl (M1 := [(ycl_20, 115, 2, ca 1, fs_57), (ycs_20, 207, 2, ca 1, cs_33)]) [0, 1] rfl (I1 := [(jFHd, jHd dC dI ca G0 r0 fd_33 dc_33), (jFrd, jRD dC dI ca G0 none rt_33), (jFxd, jXD dC dI ca G0 none fq_33), (jFHw, jHw dC dI ca G0 r0 WW_33), (jFHk, jHk dC dI ca G0 r0 ((jwTk S9 Z9x_6 v1_6.toInt).2.2.2)), (jFHo, jHo dC dI ca G0 r0 ol_33 nw_33 td_33)]) [1, 2, 3, 4, 5, 6] rfl
            clear hh_56
            have hh_61 := hh_60.addI (jHc.ie hHf_59)
            clear hh_60
            have hBf_62 : jBZ dC dI ca G0 r0 S9 (jwDc (jwTk S9 Z9x_6 v1_6.toInt) v1_6.toInt) H_56 := ⟨rt_33, fq_33, fd_33, dc_33, co_33, cs_33, fs_57, WW_33, ol_33, nw_33, td_33, hh_61.iv 1 rfl, hh_61.iv 2 rfl, hh_61.iv 3 rfl, hh_61.iv 0 rfl, hh_61.iv 4 rfl, hh_61.iv 5 rfl, hh_61.iv 6 rfl, hBz_33.dec (by omega) (by omega) (jUpd.mk (n := 2) hv_56 ho_56 rfl (by omega)) (by omega) (by rw [← heo_45]; simp)⟩
            have hh_63 := hh_61.sub (L1 := [(r0, 16, 61, .ref ycs_20), (r0, 16, 62, .ref ycl_20), (r0, 16, 60, .ref yco_20), (r0, 16, 64, .int z_4)]) [0, 1, 2, 3] rfl (M1 := [(ycl_20, 115, 2, ca 1, fs_57), (ycs_20, 207, 2, ca 1, cs_33)]) [0, 1] rfl (I1 := []) [] rfl
            clear hh_61
            have hh_64 := hh_63.addI (jBZ.ie hBf_62)
            clear hh_63
            refine lv_if_ne (tgt := 67) hx hb dX14_step_59 (by decide) (fun c_65 => ?_) (fun c_65 => ?_)
            · skip
              have c_65' : z_58.toInt ≠ 0 := jb_ne (rfl) ((by decide)) c_65
              obtain ⟨z_66, ez_66⟩ : ∃ y : Int32, y = v1_6 + 1 := ⟨_, rfl⟩
              refine lv_iinc (v := z_66) (lv' := [(1, .int z_66), (0, .ref r0)]) hx hb dX14_step_67 hl (k := 1) rfl (by rw [ez_66]; rfl) (by decide) rfl (fun ls hl => ?_)
              have hz_66 : z_66.toInt = v1_6.toInt + 1 := by rw [ez_66]; exact jb_iadd2 (rfl) (by decide) (by omega)
              refine lv_goto (tgt := 12) hx hb dX14_step_70 (by decide) ?_
              exact L12 z_66 (jwDc (jwTk S9 Z9x_6 v1_6.toInt) v1_6.toInt) _ _ (hh_64.sub (L1 := [(r0, 16, 64, .int z_4)]) [3] rfl (M1 := []) [] rfl (I1 := [(jFBZ, jBZ dC dI ca G0 r0 S9 (jwDc (jwTk S9 Z9x_6 v1_6.toInt) v1_6.toInt))]) [0] rfl) (by have he9 := (jwAd.tk hA23).trans (jwDo.dc hB43 (by have h9 := hqz_58; have h8 := hv_56; omega)).symm; exact ⟨by omega, by omega, by rw [← he9]; exact hi_6_2.ad (by omega), he9.symm.trans (by rw [hi_6_3]; exact jwAk.s (by omega) (by omega))⟩) (by omega) _ (lv_sub hl [1, 0] rfl)
            · skip
              have c_65' : z_58.toInt = 0 := jb_ne_n (rfl) ((by decide)) c_65
              refine lv_aload_n hx hb dX14_step_62 rfl (lv_at hl 0 rfl) ?_
              refine lv_iload_n hx hb dX14_step_63 rfl (lv_at hl 1 rfl) ?_
              refine va_callv (A0 := jA base) (H0 := s.heap) (va_runV (As := [.int v1_6]) (rest := []) ⟨hx, hb, hml, hown, hts⟩ (uX14_finishW l dC dI ca base B hB hAp hB14 hB15 hB16 hB101 hB103 hB104 hB105 hB113 hB114 hB116 hB126 hB150 hB151 hB152 hB153 hB154 hB155 hB156 hB157 hB158 hB159 hB160 hB161 hB162 hB163 hB164 hB165 hB166 hB167 hB168 hB169 hB190 hB191 hB192 hB193 hB194 hB195 hB202 hB203 hB204 hB205 hB206 hB207 hB208 G0 H_56 r0 v1_6 S9 (jwDc (jwTk S9 Z9x_6 v1_6.toInt) v1_6.toInt)) (cwV 1 hts (jgV (jWr_91 _ (List.mem_of_getElem? (i := 7) rfl)) (jWr_91 _ (List.mem_of_getElem? (i := 8) rfl)) (jWr_91 _ (List.mem_of_getElem? (i := 9) rfl)) (jWr_1 _ (List.mem_of_getElem? (i := 5) rfl)) (jWr_91 _ (List.mem_of_getElem? (i := 10) rfl))) rfl rfl rfl (by decide +kernel) ⟨by rw [← hR]; exact Nat.le_of_ble_eq_true rfl, by rw [← hR]; exact Nat.le_of_ble_eq_true rfl⟩) ⟨fun a U g mk q => by obtain ⟨q0, q1, q2, qK, q10, q11, q12, q13, q14⟩ := q; exact ⟨q0, q1, q2, jG.calling g mk a qK, (va_K.moved (Vm.Alike.refl U.vm) q10), q11, q12, q13, q14⟩, hh_64.recv (C := RX14) (T := TX14) (N := 74) hB16 rfl (by decide) hg_r0 hK, fun U hU hW => ⟨rfl, hU, hh_64.2.1, hG.step hW hU hh_64.1, va_K.moved hW.alike hK2, hg_r0, jP.nil, (hh_64.2.2.2.2.2.2.2.2.sub (L1 := [(jFBZ, jBZ dC dI ca G0 r0 S9 (jwDc (jwTk S9 Z9x_6 v1_6.toInt) v1_6.toInt))]) [0] rfl), ⟨(by first | omega | rfl | assumption | (rw [jwDc.at]; exact hB43)), (by first | omega | rfl | assumption | (rw [jwDc.at]; exact hB43)), (by first | omega | rfl | assumption | (rw [jwDc.at]; exact hB43))⟩⟩⟩ rfl rfl hl.1 rfl (lv_room (Nat.le_of_ble_eq_true rfl)) dX14_step_64 ⟨Nat.zero_le _, Nat.zero_le _⟩) hh_64.1 (fun q _ h => h) (fun q h => h) (fun u_67 t_67 H_67 locs_67 ht_67 hvm_67 hr_68 hb_67 hz_67 hk_67 hS_67 => ?_)
              rw [ht_67] at hb_67
              obtain ⟨hb_67, hbE_67⟩ := hb_67
              obtain ⟨hb_671, hb_672, hb_673, hb_674, hb_675⟩ := hb_67
              have hh_67 : jSt (dC, dI) B base G0 G0 EX14_stepW s.heap 0 0 [(r0, 16, 61, .ref ycs_20), (r0, 16, 62, .ref ycl_20), (r0, 16, 60, .ref yco_20), (r0, 16, 64, .int z_4)] [(ycl_20, 115, 2, ca 1, fs_57), (ycs_20, 207, 2, ca 1, cs_33)] [(jFBZ, jBZ dC dI ca G0 r0 S9 (jwFin S9 (jwDc (jwTk S9 Z9x_6 v1_6.toInt) v1_6.toInt) v1_6.toInt ((jwDc (jwTk S9 Z9x_6 v1_6.toInt) v1_6.toInt).2.1 v1_6.toInt).1))] H_67 locs_67 := (((hh_64.call hb_671 hb_672 hb_673 hb_674 hS_67 rfl (L1 := [(r0, 16, 61, .ref ycs_20), (r0, 16, 62, .ref ycl_20), (r0, 16, 60, .ref yco_20), (r0, 16, 64, .int z_4)]) [0, 1, 2, 3] rfl rfl (M1 := [(ycl_20, 115, 2, ca 1, fs_57), (ycs_20, 207, 2, ca 1, cs_33)]) [0, 1] rfl rfl (I1 := []) [] rfl rfl).more hb_675)).addIs hbE_67
              clear hh_64 ht_67 hvm_67 hz_67 hk_67 hS_67 hb_671 hb_672 hb_673 hb_674 hb_675
              clear  hbE_67
              obtain ⟨z_69, ez_69⟩ : ∃ y : Int32, y = v1_6 + 1 := ⟨_, rfl⟩
              refine lv_iinc (v := z_69) (lv' := [(1, .int z_69), (0, .ref r0)]) hx hb dX14_step_67 hl (k := 1) rfl (by rw [ez_69]; rfl) (by decide) rfl (fun ls hl => ?_)
              have hz_69 : z_69.toInt = v1_6.toInt + 1 := by rw [ez_69]; exact jb_iadd2 (rfl) (by decide) (by omega)
              refine lv_goto (tgt := 12) hx hb dX14_step_70 (by decide) ?_
              exact L12 z_69 (jwFin S9 (jwDc (jwTk S9 Z9x_6 v1_6.toInt) v1_6.toInt) v1_6.toInt ((jwDc (jwTk S9 Z9x_6 v1_6.toInt) v1_6.toInt).2.1 v1_6.toInt).1) _ _ (hh_67.sub (L1 := [(r0, 16, 64, .int z_4)]) [3] rfl (M1 := []) [] rfl (I1 := [(jFBZ, jBZ dC dI ca G0 r0 S9 (jwFin S9 (jwDc (jwTk S9 Z9x_6 v1_6.toInt) v1_6.toInt) v1_6.toInt ((jwDc (jwTk S9 Z9x_6 v1_6.toInt) v1_6.toInt).2.1 v1_6.toInt).1))]) [0] rfl) (by have he9 := (jwAd.tk hA23).trans (jwDo.fi (d := ((jwDc (jwTk S9 Z9x_6 v1_6.toInt) v1_6.toInt).2.1 v1_6.toInt).1) hB43 (by have h9 := hqz_58; have h8 := hv_56; omega) jwDc.at).symm; exact ⟨by omega, by omega, by rw [← he9]; exact hi_6_2.ad (by omega), he9.symm.trans (by rw [hi_6_3]; exact jwAk.s (by omega) (by omega))⟩) (by omega) _ (lv_sub hl [1, 0] rfl)
        · simp only [va_rf]
          obtain ⟨d8, i0, i1, i2, i3, i4, i5, i6, i7⟩ := hBz_11.at (w := v1_6.toInt) (by omega) (by omega) heo_23
          have hA23 : 0 ≤ (Z9x_6.2.1 v1_6.toInt).1 := by rw [i4]; exact i0
          have hHf_70 : jHc dC dI ca G0 r0 co_11 cs_11 cl_11 H_6 := ⟨ycs_20, ycl_20, yco_20, ⟨_, hg_r0⟩, ⟨hgcs_20, hgcl_20, hgco_20⟩, hh_22.2.2.1.sub (L1 := [(r0, 16, 61, .ref ycs_20), (r0, 16, 62, .ref ycl_20), (r0, 16, 60, .ref yco_20)]) [0, 1, 2] rfl, hh_22.2.2.2.2.2.2.2.1.sub (L1 := [(ycs_20, 207, 2, ca 1, cs_11), (ycl_20, 115, 2, ca 1, cl_11)]) [0, 1] rfl, hh_22.iv 0 rfl, trivial⟩
          have hh_71 := hh_22.sub (L1 := [(r0, 16, 61, .ref ycs_20), (r0, 16, 62, .ref ycl_20), (r0, 16, 60, .ref yco_20), (r0, 16, 64, .int z_4)]) [0, 1, 2, 3] rfl (M1 := [(ycs_20, 207, 2, ca 1, cs_11), (ycl_20, 115, 2, ca 1, cl_11)]) [0, 1] rfl (I1 := [(jFHd, jHd dC dI ca G0 r0 fd_11 dc_11), (jFrd, jRD dC dI ca G0 none rt_11), (jFxd, jXD dC dI ca G0 none fq_11), (jFHw, jHw dC dI ca G0 r0 WW_11), (jFHk, jHk dC dI ca G0 r0 (Z9x_6.2.2.2)), (jFHo, jHo dC dI ca G0 r0 ol_11 nw_11 td_11)]) [1, 2, 3, 4, 5, 6] rfl
          clear hh_22
          have hh_72 := hh_71.addI (jHc.ie hHf_70)
          clear hh_71
          have hBf_73 : jBZ dC dI ca G0 r0 S9 Z9x_6 H_6 := ⟨rt_11, fq_11, fd_11, dc_11, co_11, cs_11, cl_11, WW_11, ol_11, nw_11, td_11, hh_72.iv 1 rfl, hh_72.iv 2 rfl, hh_72.iv 3 rfl, hh_72.iv 0 rfl, hh_72.iv 4 rfl, hh_72.iv 5 rfl, hh_72.iv 6 rfl, hBz_11⟩
          have hh_74 := hh_72.sub (L1 := [(r0, 16, 61, .ref ycs_20), (r0, 16, 62, .ref ycl_20), (r0, 16, 60, .ref yco_20), (r0, 16, 64, .int z_4)]) [0, 1, 2, 3] rfl (M1 := [(ycs_20, 207, 2, ca 1, cs_11), (ycl_20, 115, 2, ca 1, cl_11)]) [0, 1] rfl (I1 := []) [] rfl
          clear hh_72
          have hh_75 := hh_74.addI (jBZ.ie hBf_73)
          clear hh_74
          refine lv_ifnonnull (tgt := 31) hx hb dX14_step_23 (by decide) ?_
          obtain ⟨rt_76, fq_76, fd_76, dc_76, co_76, cs_76, cl_76, WW_76, ol_76, nw_76, td_76, hb1_76, hb2_76, hb3_76, hb4_76, hb5_76, hb6_76, hb7_76, hBz_76⟩ := hh_75.iv 0 rfl
          have hh_77 := hh_75.sub (L1 := [(r0, 16, 61, .ref ycs_20), (r0, 16, 62, .ref ycl_20), (r0, 16, 60, .ref yco_20), (r0, 16, 64, .int z_4)]) [0, 1, 2, 3] rfl (M1 := [(ycs_20, 207, 2, ca 1, cs_11), (ycl_20, 115, 2, ca 1, cl_11)]) [0, 1] rfl (I1 := []) [] rfl
          clear hh_75
          have hh_78 := hh_77.addI (jHo.ie hb7_76)
          clear hh_77
          have hh_79 := hh_78.addI (jHk.ie hb6_76)
          clear hh_78
          have hh_80 := hh_79.addI (jHw.ie hb5_76)
          clear hh_79
          have hh_81 := hh_80.addI (jHc.ie hb4_76)
          clear hh_80
          have hh_82 := hh_81.addI (jXD.ie hb3_76)
          clear hh_81
          have hh_83 := hh_82.addI (jRD.ie hb2_76)
          clear hh_82
          have hh_84 := hh_83.addI (jHd.ie hb1_76)
          clear hh_83
          obtain ⟨ycs_85, ycl_85, yco_85, -, ⟨hgcs_85, hgcl_85, hgco_85⟩, hoP_85, hoM_85, hqco_85, -⟩ := hh_84.iv 3 rfl
          obtain rfl : ycs_20 = ycs_85 := by have h9 := jf.uniq (hh_84.at 0 rfl) (hoP_85 _ (List.mem_of_getElem? (i := 0) rfl)).2; cases h9; rfl
          obtain rfl : ycl_20 = ycl_85 := by have h9 := jf.uniq (hh_84.at 1 rfl) (hoP_85 _ (List.mem_of_getElem? (i := 1) rfl)).2; cases h9; rfl
          obtain rfl : yco_20 = yco_85 := by have h9 := jf.uniq (hh_84.at 2 rfl) (hoP_85 _ (List.mem_of_getElem? (i := 2) rfl)).2; cases h9; rfl
          have hh_86 := ((hh_84.sub (L1 := [(r0, 16, 64, .int z_4)]) [3] rfl (M1 := []) [] rfl (I1 := [(jFHd, jHd dC dI ca G0 r0 fd_76 dc_76), (jFrd, jRD dC dI ca G0 none rt_76), (jFxd, jXD dC dI ca G0 none fq_76), (jFHw, jHw dC dI ca G0 r0 WW_76), (jFHk, jHk dC dI ca G0 r0 (Z9x_6.2.2.2)), (jFHo, jHo dC dI ca G0 r0 ol_76 nw_76 td_76)]) [0, 1, 2, 4, 5, 6] rfl).more hoP_85).moreM hoM_85
          clear hh_84
          have hh_87 := hh_86.addI (jQc.ie hqco_85 hgco_85 (by decide) (by decide))
          clear hh_86
          refine lv_aload_n hx hb dX14_step_31 rfl (lv_at hl 0 rfl) ?_
          refine j7_read hx hb hown hK (C := RX14) (T := TX14) (N := 74) rfl hly_16_60 hlk_129 (hh_87.at 2 rfl) dX14_step_32 ?_
          refine lv_iload_n hx hb dX14_step_35 rfl (lv_at hl 1 rfl) ?_
          refine j7_qaldI hx hb hK2 hh_87 hB208 0 rfl (by decide) hgco_85 (x := v1_6.toInt) (rfl) (by omega) (hh_87.iv 0 rfl) dX14_step_36 (fun o_88 ho_88 heo_88 => ?_)
          rcases ho_88 with rfl | ⟨el_89, rfl, hg_el_89⟩
          · simp only [va_rf]
            have h9 := hBz_76.zn (w := v1_6.toInt) (by omega) (by omega) heo_88; rw [h9] at hA23; exact absurd hA23 (by decide)
          · simp only [va_rf]
            refine lv_ifnonnull (tgt := 43) hx hb dX14_step_37 (by decide) ?_
            obtain ⟨d9, e0, e1, e2, e3, e4, e5, e6, e7⟩ := hBz_76.at (w := v1_6.toInt) (by omega) (by omega) heo_88
            have hB43 : 0 ≤ (Z9x_6.2.1 v1_6.toInt).1 := by rw [e4]; exact e0
            have hC43 : (Z9x_6.2.1 v1_6.toInt).2 = jSo cl_76 v1_6.toInt := by rw [e4]
            have hD43 := (hi_6_2).pos (w := v1_6.toInt) (by omega) hB43
            refine lv_aload_n hx hb dX14_step_43 rfl (lv_at hl 0 rfl) ?_
            refine j7_read hx hb hown hK (C := RX14) (T := TX14) (N := 74) rfl hly_16_62 hlk_135 (hh_87.at 1 rfl) dX14_step_44 ?_
            refine lv_iload_n hx hb dX14_step_47 rfl (lv_at hl 1 rfl) ?_
            refine lv_dup2_11 hx hb dX14_step_48 rfl rfl ?_
            refine j7_ialdM hx hb hK hh_87 hB115 1 rfl (by decide) hgcl_85 (x := v1_6.toInt) (rfl) (by omega) (j := 1) rfl dX14_step_49 (fun z_90 ez_90 (hz_90 : True) => ?_)
            have hqz_90 : z_90.toInt = jSo cl_76 (v1_6.toInt) := by unfold jSo; rw [ez_90]
            have hrz9 := jb_rng z_90
            refine lv_iconst (v := 1) hx hb dX14_step_50 (by decide) ?_
            refine lv_isub hx hb dX14_step_51 ?_
            refine lv_topi (fun z_91 ez_91 => ?_)
            have hz_91 : z_91.toInt = z_90.toInt - 1 := by rw [ez_91]; exact jb_isub2 (rfl) ((by decide)) (by omega)
            refine j7_iastU hx hb hK hh_87 hB hB115 1 rfl (by decide) (by decide) rfl 1 rfl (M1 := [(ycs_20, 207, 2, ca 1, cs_76)]) [0] rfl rfl rfl hgcl_85 (x := v1_6.toInt) (rfl) (by omega) (trivial) dX14_step_52 (fun H_92 locs_92 fs_93 hv_92 ho_92 hh_92 => ?_)
            have hv_92 : jSo fs_93 (v1_6.toInt) = z_91.toInt := by unfold jSo; rw [hv_92]; try exact rfl
            clear hh_87
            refine lv_aload_n hx hb dX14_step_53 rfl (lv_at hl 0 rfl) ?_
            refine j7_read hx hb hown hK (C := RX14) (T := TX14) (N := 74) rfl hly_16_62 hlk_135 (hh_92.at 1 rfl) dX14_step_54 ?_
            refine lv_iload_n hx hb dX14_step_57 rfl (lv_at hl 1 rfl) ?_
            refine j7_ialdM hx hb hK hh_92 hB115 1 rfl (by decide) hgcl_85 (x := v1_6.toInt) (rfl) (by omega) (j := 0) rfl dX14_step_58 (fun z_94 ez_94 (hz_94 : True) => ?_)
            have hqz_94 : z_94.toInt = jSo fs_93 (v1_6.toInt) := by unfold jSo; rw [ez_94]
            have hHf_95 : jHc dC dI ca G0 r0 co_76 cs_76 fs_93 H_92 := ⟨ycs_20, ycl_20, yco_20, ⟨_, hg_r0⟩, ⟨hgcs_85, hgcl_85, hgco_85⟩, hh_92.2.2.1.sub (L1 := [(r0, 16, 61, .ref ycs_20), (r0, 16, 62, .ref ycl_20), (r0, 16, 60, .ref yco_20)]) [0, 1, 2] rfl, hh_92.2.2.2.2.2.2.2.1.sub (L1 := [(ycs_20, 207, 2, ca 1, cs_76), (ycl_20, 115, 2, ca 1, fs_93)]) [1, 0] rfl, hh_92.iv 0 rfl, trivial⟩
            have hh_96 := hh_92.sub (L1 := [(r0, 16, 61, .ref ycs_20), (r0, 16, 62, .ref ycl_20), (r0, 16, 60, .ref yco_20), (r0, 16, 64, .int z_4)]) [0, 1, 2, 3] rfl (M1 := [(ycl_20, 115, 2, ca 1, fs_93), (ycs_20, 207, 2, ca 1, cs_76)]) [0, 1] rfl (I1 := [(jFHd, jHd dC dI ca G0 r0 fd_76 dc_76), (jFrd, jRD dC dI ca G0 none rt_76), (jFxd, jXD dC dI ca G0 none fq_76), (jFHw, jHw dC dI ca G0 r0 WW_76), (jFHk, jHk dC dI ca G0 r0 (Z9x_6.2.2.2)), (jFHo, jHo dC dI ca G0 r0 ol_76 nw_76 td_76)]) [1, 2, 3, 4, 5, 6] rfl
            clear hh_92
            have hh_97 := hh_96.addI (jHc.ie hHf_95)
            clear hh_96
            have hBf_98 : jBZ dC dI ca G0 r0 S9 (jwDc Z9x_6 v1_6.toInt) H_92 := ⟨rt_76, fq_76, fd_76, dc_76, co_76, cs_76, fs_93, WW_76, ol_76, nw_76, td_76, hh_97.iv 1 rfl, hh_97.iv 2 rfl, hh_97.iv 3 rfl, hh_97.iv 0 rfl, hh_97.iv 4 rfl, hh_97.iv 5 rfl, hh_97.iv 6 rfl, hBz_76.dec (by omega) (by omega) (jUpd.mk (n := 2) hv_92 ho_92 rfl (by omega)) (by omega) (by rw [← heo_88]; simp)⟩
            have hh_99 := hh_97.sub (L1 := [(r0, 16, 61, .ref ycs_20), (r0, 16, 62, .ref ycl_20), (r0, 16, 60, .ref yco_20), (r0, 16, 64, .int z_4)]) [0, 1, 2, 3] rfl (M1 := [(ycl_20, 115, 2, ca 1, fs_93), (ycs_20, 207, 2, ca 1, cs_76)]) [0, 1] rfl (I1 := []) [] rfl
            clear hh_97
            have hh_100 := hh_99.addI (jBZ.ie hBf_98)
            clear hh_99
            refine lv_if_ne (tgt := 67) hx hb dX14_step_59 (by decide) (fun c_101 => ?_) (fun c_101 => ?_)
            · skip
              have c_101' : z_94.toInt ≠ 0 := jb_ne (rfl) ((by decide)) c_101
              obtain ⟨z_102, ez_102⟩ : ∃ y : Int32, y = v1_6 + 1 := ⟨_, rfl⟩
              refine lv_iinc (v := z_102) (lv' := [(1, .int z_102), (0, .ref r0)]) hx hb dX14_step_67 hl (k := 1) rfl (by rw [ez_102]; rfl) (by decide) rfl (fun ls hl => ?_)
              have hz_102 : z_102.toInt = v1_6.toInt + 1 := by rw [ez_102]; exact jb_iadd2 (rfl) (by decide) (by omega)
              refine lv_goto (tgt := 12) hx hb dX14_step_70 (by decide) ?_
              exact L12 z_102 (jwDc Z9x_6 v1_6.toInt) _ _ (hh_100.sub (L1 := [(r0, 16, 64, .int z_4)]) [3] rfl (M1 := []) [] rfl (I1 := [(jFBZ, jBZ dC dI ca G0 r0 S9 (jwDc Z9x_6 v1_6.toInt))]) [0] rfl) (by have he9 := (jwAd.ha (S := S9) (Z := Z9x_6) (w := v1_6.toInt) (by omega)).trans (jwDo.dc hB43 (by have h9 := hqz_94; have h8 := hv_92; omega)).symm; exact ⟨by omega, by omega, by rw [← he9]; exact hi_6_2.ad (by omega), he9.symm.trans (by rw [hi_6_3]; exact jwAk.s (by omega) (by omega))⟩) (by omega) _ (lv_sub hl [1, 0] rfl)
            · skip
              have c_101' : z_94.toInt = 0 := jb_ne_n (rfl) ((by decide)) c_101
              refine lv_aload_n hx hb dX14_step_62 rfl (lv_at hl 0 rfl) ?_
              refine lv_iload_n hx hb dX14_step_63 rfl (lv_at hl 1 rfl) ?_
              refine va_callv (A0 := jA base) (H0 := s.heap) (va_runV (As := [.int v1_6]) (rest := []) ⟨hx, hb, hml, hown, hts⟩ (uX14_finishW l dC dI ca base B hB hAp hB14 hB15 hB16 hB101 hB103 hB104 hB105 hB113 hB114 hB116 hB126 hB150 hB151 hB152 hB153 hB154 hB155 hB156 hB157 hB158 hB159 hB160 hB161 hB162 hB163 hB164 hB165 hB166 hB167 hB168 hB169 hB190 hB191 hB192 hB193 hB194 hB195 hB202 hB203 hB204 hB205 hB206 hB207 hB208 G0 H_92 r0 v1_6 S9 (jwDc Z9x_6 v1_6.toInt)) (cwV 1 hts (jgV (jWr_91 _ (List.mem_of_getElem? (i := 7) rfl)) (jWr_91 _ (List.mem_of_getElem? (i := 8) rfl)) (jWr_91 _ (List.mem_of_getElem? (i := 9) rfl)) (jWr_1 _ (List.mem_of_getElem? (i := 5) rfl)) (jWr_91 _ (List.mem_of_getElem? (i := 10) rfl))) rfl rfl rfl (by decide +kernel) ⟨by rw [← hR]; exact Nat.le_of_ble_eq_true rfl, by rw [← hR]; exact Nat.le_of_ble_eq_true rfl⟩) ⟨fun a U g mk q => by obtain ⟨q0, q1, q2, qK, q10, q11, q12, q13, q14⟩ := q; exact ⟨q0, q1, q2, jG.calling g mk a qK, (va_K.moved (Vm.Alike.refl U.vm) q10), q11, q12, q13, q14⟩, hh_100.recv (C := RX14) (T := TX14) (N := 74) hB16 rfl (by decide) hg_r0 hK, fun U hU hW => ⟨rfl, hU, hh_100.2.1, hG.step hW hU hh_100.1, va_K.moved hW.alike hK2, hg_r0, jP.nil, (hh_100.2.2.2.2.2.2.2.2.sub (L1 := [(jFBZ, jBZ dC dI ca G0 r0 S9 (jwDc Z9x_6 v1_6.toInt))]) [0] rfl), ⟨(by first | omega | rfl | assumption | (rw [jwDc.at]; exact hB43)), (by first | omega | rfl | assumption | (rw [jwDc.at]; exact hB43)), (by first | omega | rfl | assumption | (rw [jwDc.at]; exact hB43))⟩⟩⟩ rfl rfl hl.1 rfl (lv_room (Nat.le_of_ble_eq_true rfl)) dX14_step_64 ⟨Nat.zero_le _, Nat.zero_le _⟩) hh_100.1 (fun q _ h => h) (fun q h => h) (fun u_103 t_103 H_103 locs_103 ht_103 hvm_103 hr_104 hb_103 hz_103 hk_103 hS_103 => ?_)
              rw [ht_103] at hb_103
              obtain ⟨hb_103, hbE_103⟩ := hb_103
              obtain ⟨hb_1031, hb_1032, hb_1033, hb_1034, hb_1035⟩ := hb_103
              have hh_103 : jSt (dC, dI) B base G0 G0 EX14_stepW s.heap 0 0 [(r0, 16, 61, .ref ycs_20), (r0, 16, 62, .ref ycl_20), (r0, 16, 60, .ref yco_20), (r0, 16, 64, .int z_4)] [(ycl_20, 115, 2, ca 1, fs_93), (ycs_20, 207, 2, ca 1, cs_76)] [(jFBZ, jBZ dC dI ca G0 r0 S9 (jwFin S9 (jwDc Z9x_6 v1_6.toInt) v1_6.toInt ((jwDc Z9x_6 v1_6.toInt).2.1 v1_6.toInt).1))] H_103 locs_103 := (((hh_100.call hb_1031 hb_1032 hb_1033 hb_1034 hS_103 rfl (L1 := [(r0, 16, 61, .ref ycs_20), (r0, 16, 62, .ref ycl_20), (r0, 16, 60, .ref yco_20), (r0, 16, 64, .int z_4)]) [0, 1, 2, 3] rfl rfl (M1 := [(ycl_20, 115, 2, ca 1, fs_93), (ycs_20, 207, 2, ca 1, cs_76)]) [0, 1] rfl rfl (I1 := []) [] rfl rfl).more hb_1035)).addIs hbE_103
              clear hh_100 ht_103 hvm_103 hz_103 hk_103 hS_103 hb_1031 hb_1032 hb_1033 hb_1034 hb_1035
              clear  hbE_103
              obtain ⟨z_105, ez_105⟩ : ∃ y : Int32, y = v1_6 + 1 := ⟨_, rfl⟩
              refine lv_iinc (v := z_105) (lv' := [(1, .int z_105), (0, .ref r0)]) hx hb dX14_step_67 hl (k := 1) rfl (by rw [ez_105]; rfl) (by decide) rfl (fun ls hl => ?_)
              have hz_105 : z_105.toInt = v1_6.toInt + 1 := by rw [ez_105]; exact jb_iadd2 (rfl) (by decide) (by omega)
              refine lv_goto (tgt := 12) hx hb dX14_step_70 (by decide) ?_
              exact L12 z_105 (jwFin S9 (jwDc Z9x_6 v1_6.toInt) v1_6.toInt ((jwDc Z9x_6 v1_6.toInt).2.1 v1_6.toInt).1) _ _ (hh_103.sub (L1 := [(r0, 16, 64, .int z_4)]) [3] rfl (M1 := []) [] rfl (I1 := [(jFBZ, jBZ dC dI ca G0 r0 S9 (jwFin S9 (jwDc Z9x_6 v1_6.toInt) v1_6.toInt ((jwDc Z9x_6 v1_6.toInt).2.1 v1_6.toInt).1))]) [0] rfl) (by have he9 := (jwAd.ha (S := S9) (Z := Z9x_6) (w := v1_6.toInt) (by omega)).trans (jwDo.fi (d := ((jwDc Z9x_6 v1_6.toInt).2.1 v1_6.toInt).1) hB43 (by have h9 := hqz_94; have h8 := hv_92; omega) jwDc.at).symm; exact ⟨by omega, by omega, by rw [← he9]; exact hi_6_2.ad (by omega), he9.symm.trans (by rw [hi_6_3]; exact jwAk.s (by omega) (by omega))⟩) (by omega) _ (lv_sub hl [1, 0] rfl)
  exact L12 (2 - (0 : Int32).toInt : Int).toNat.succ 0 Z9 _ _ hh_5 (⟨by omega, by omega, hp0, by rw [hk0]; rfl⟩) (by omega) _ (lv_sub hl [1, 0] rfl)
set_option maxHeartbeats 4000000 in
set_option maxRecDepth 20000 in
theorem uX14_workW (l : Launch) (dC : Nat → ClassId) (dI : Nat → Nat → Nat) (ca : Nat → ClassId) (base : Nat) (B : jF) (hB : jBok B) (hAp : jAp (dC, dI)) (hB14 : ∀ n G a H, B 14 n G a H ↔ jOb (dC, dI) 14 11 (F14 n G) a H) (hB15 : ∀ n G a H, B 15 n G a H ↔ jOb (dC, dI) 15 50 (F15 n G) a H) (hB16 : ∀ n G a H, B 16 n G a H ↔ jOb (dC, dI) 16 74 (F16 n G) a H) (hB101 : ∀ n G a H, B 101 n G a H ↔ jAr (dC, dI) (ca 1) (fun j z => True) n a H) (hB103 : ∀ n G a H, B 103 n G a H ↔ jAr (dC, dI) (ca 3) (fun j z => (z = 0 ∨ z = 1)) n a H) (hB104 : ∀ n G a H, B 104 n G a H ↔ jAr (dC, dI) (ca 3) (fun j z => (z = 0 ∨ z = 1)) n a H) (hB105 : ∀ n G a H, B 105 n G a H ↔ jAr (dC, dI) (ca 3) (fun j z => (z = 0 ∨ z = 1)) n a H) (hB113 : ∀ n G a H, B 113 n G a H ↔ jAr (dC, dI) (ca 1) (fun j z => True) n a H) (hB114 : ∀ n G a H, B 114 n G a H ↔ jAr (dC, dI) (ca 1) (fun j z => True) n a H) (hB115 : ∀ n G a H, B 115 n G a H ↔ jAr (dC, dI) (ca 1) (fun j z => True) n a H) (hB116 : ∀ n G a H, B 116 n G a H ↔ jAr (dC, dI) (ca 1) (fun j z => True) n a H) (hB126 : ∀ n G a H, B 126 n G a H ↔ jAr (dC, dI) (ca 1) (fun j z => True) n a H) (hB150 : ∀ n G a H, B 150 n G a H ↔ jAr (dC, dI) (ca 1) (fun j z => True) n a H) (hB151 : ∀ n G a H, B 151 n G a H ↔ jAr (dC, dI) (ca 1) (fun j z => True) n a H) (hB152 : ∀ n G a H, B 152 n G a H ↔ jAr (dC, dI) (ca 1) (fun j z => True) n a H) (hB153 : ∀ n G a H, B 153 n G a H ↔ jAr (dC, dI) (ca 1) (fun j z => True) n a H) (hB154 : ∀ n G a H, B 154 n G a H ↔ jAr (dC, dI) (ca 1) (fun j z => True) n a H) (hB155 : ∀ n G a H, B 155 n G a H ↔ jAr (dC, dI) (ca 1) (fun j z => 0 ≤ z.toInt ∧ z.toInt ≤ 11990) n a H) (hB156 : ∀ n G a H, B 156 n G a H ↔ jAr (dC, dI) (ca 1) (fun j z => 0 ≤ z.toInt ∧ z.toInt ≤ 10) n a H) (hB157 : ∀ n G a H, B 157 n G a H ↔ jAr (dC, dI) (ca 1) (fun j z => 0 ≤ z.toInt ∧ z.toInt ≤ 1599) n a H) (hB158 : ∀ n G a H, B 158 n G a H ↔ jAr (dC, dI) (ca 1) (fun j z => 0 ≤ z.toInt ∧ z.toInt ≤ 6) n a H) (hB159 : ∀ n G a H, B 159 n G a H ↔ jAr (dC, dI) (ca 1) (fun j z => 0 ≤ z.toInt ∧ z.toInt ≤ 8) n a H) (hB160 : ∀ n G a H, B 160 n G a H ↔ jAr (dC, dI) (ca 1) (fun j z => 0 ≤ z.toInt ∧ z.toInt ≤ 119999) n a H) (hB161 : ∀ n G a H, B 161 n G a H ↔ jAr (dC, dI) (ca 1) (fun j z => 0 ≤ z.toInt ∧ z.toInt ≤ 119999) n a H) (hB162 : ∀ n G a H, B 162 n G a H ↔ jAr (dC, dI) (ca 1) (fun j z => 0 ≤ z.toInt ∧ z.toInt ≤ 119999) n a H) (hB163 : ∀ n G a H, B 163 n G a H ↔ jAr (dC, dI) (ca 1) (fun j z => 0 ≤ z.toInt ∧ z.toInt ≤ 1599) n a H) (hB164 : ∀ n G a H, B 164 n G a H ↔ jAr (dC, dI) (ca 1) (fun j z => 0 ≤ z.toInt ∧ z.toInt ≤ 100000) n a H) (hB165 : ∀ n G a H, B 165 n G a H ↔ jAr (dC, dI) (ca 1) (fun j z => 0 ≤ z.toInt ∧ z.toInt ≤ 3) n a H) (hB166 : ∀ n G a H, B 166 n G a H ↔ jAr (dC, dI) (ca 1) (fun j z => True) n a H) (hB167 : ∀ n G a H, B 167 n G a H ↔ jAr (dC, dI) (ca 1) (fun j z => True) n a H) (hB168 : ∀ n G a H, B 168 n G a H ↔ jAr (dC, dI) (ca 1) (fun j z => 0 ≤ z.toInt ∧ z.toInt ≤ 119999) n a H) (hB169 : ∀ n G a H, B 169 n G a H ↔ jAr (dC, dI) (ca 1) (fun j z => True) n a H) (hB190 : ∀ n G a H, B 190 n G a H ↔ jAr (dC, dI) (ca 1) (fun j z => 0 ≤ z.toInt ∧ z.toInt ≤ 1500) n a H) (hB191 : ∀ n G a H, B 191 n G a H ↔ jAr (dC, dI) (ca 1) (fun j z => 0 ≤ z.toInt ∧ z.toInt ≤ 1500) n a H) (hB192 : ∀ n G a H, B 192 n G a H ↔ jAr (dC, dI) (ca 1) (fun j z => 0 ≤ z.toInt ∧ z.toInt ≤ 2) n a H) (hB193 : ∀ n G a H, B 193 n G a H ↔ jAr (dC, dI) (ca 1) (fun j z => True) n a H) (hB194 : ∀ n G a H, B 194 n G a H ↔ jAr (dC, dI) (ca 1) (fun j z => True) n a H) (hB195 : ∀ n G a H, B 195 n G a H ↔ jAr (dC, dI) (ca 1) (fun j z => True) n a H) (hB201 : ∀ n G a H, B 201 n G a H ↔ jAq (dC, dI) (ca 4) (jQs 14 0) n G a H) (hB202 : ∀ n G a H, B 202 n G a H ↔ jAq (dC, dI) (ca 4) (jQn 14 0) n G a H) (hB203 : ∀ n G a H, B 203 n G a H ↔ jAr (dC, dI) (ca 1) (fun j z => -3300 ≤ z.toInt ∧ z.toInt ≤ 20) n a H) (hB204 : ∀ n G a H, B 204 n G a H ↔ jAr (dC, dI) (ca 1) (fun j z => -3100 ≤ z.toInt ∧ z.toInt ≤ 3100) n a H) (hB205 : ∀ n G a H, B 205 n G a H ↔ jAr (dC, dI) (ca 1) (fun j z => 0 ≤ z.toInt ∧ z.toInt ≤ 1600) n a H) (hB206 : ∀ n G a H, B 206 n G a H ↔ jAr (dC, dI) (ca 1) (fun j z => 0 ≤ z.toInt ∧ z.toInt ≤ 40) n a H) (hB207 : ∀ n G a H, B 207 n G a H ↔ jAr (dC, dI) (ca 1) (fun j z => 0 ≤ z.toInt ∧ z.toInt ≤ 39) n a H) (hB208 : ∀ n G a H, B 208 n G a H ↔ jAq (dC, dI) (ca 4) (jQn 14 0) n G a H) (G0 : jT) (H0 : Heap) (r0 : Nat) (a1 : Int32) (S9 : Int × (Int → jdD)) (Z9 : jwSt) : Met l yX14_work (jw yX14_work cX14_work 3 (some .int)) ({ frames := 1708, cells := 0, slots := 0, locals := 71999 }) (va_Pc [.ref r0, .int a1] (fun U => U.heap = H0 ∧ jX B base G0 [] H0 ∧ jG dC dI ca base U ∧ jK2 dC dI ca U ∧ G0 r0 = some (16, 0) ∧ jP (dC, dI) G0 H0 [] ∧ jIs (dC, dI) G0 H0 [(jFBZ, jBZ dC dI ca G0 r0 S9 Z9)] ∧ jwOk S9 Z9)) (va_Qi (S := Unit) (fun r u => (r.toInt = (jwWork S9 a1.toInt Z9).1)) (fun u t => (jRt (dC, dI) B base G0 EX14_workW H0 [] t.heap) ∧ jIs (dC, dI) G0 t.heap [(jFBZ, jBZ dC dI ca G0 r0 S9 ((jwWork S9 a1.toInt Z9).2))]) (jA base)) 0 0 (jA base) := by
  refine Met.ofW (cc := cX14_work) (maxL := 3) (ret := (some .int)) (by decide) rfl ?_
  intro p e s m args below meth c s₁ Bd hml hv
  obtain ⟨rfl, hH0, hX, hG, hK2, hg_r0, hP0, hI0, hp0⟩ := hv
  have hK := hG.1
  have hx := Bd.exec
  have hb := Bd.bytes
  have hr := Bd.returns
  have hts := atoms_spec (ws := (jw yX14_work cX14_work 3 (some .int))) Bd.pre
  have htw : ∀ w ∈ jWl, w.before _ s = true := fun w h => hts w (List.mem_cons_of_mem _ h)
  have hown : s.vm.findClass RX14 = some m.cls := findClass_of_methodNamed Bd.named
  have hlocks := Bd.notSynchronized
  obtain ⟨Q, hQ⟩ : ∃ Q, Q = MQ below (va_Qi (S := Unit) (fun r u => (r.toInt = (jwWork S9 a1.toInt Z9).1)) (fun u t => (jRt (dC, dI) B base G0 EX14_workW H0 [] t.heap) ∧ jIs (dC, dI) G0 t.heap [(jFBZ, jBZ dC dI ca G0 r0 S9 ((jwWork S9 a1.toInt Z9).2))]) (jA base)) ([.ref r0, .int a1] : List Value).toArray s 0 0 (jA base) := ⟨_, rfl⟩
  rw [← hQ]
  have hl := lv_entry ([.ref r0, .int a1]) (n := 3) (Nat.le_of_ble_eq_true rfl)
  rw [lg_entry_eq]
  generalize (lg_sl ([.ref r0, .int a1]) ++ List.replicate (3 - (lg_sl ([.ref r0, .int a1])).length) Slot.unset).toArray = ls at hl ⊢
  have hl : lv_has ls 3 [(0, .ref r0), (1, .int a1)] := hl
  generalize hR : (headSpec (jw yX14_work cX14_work 3 (some .int)) ({ frames := 1708, cells := 0, slots := 0, locals := 71999 })).room = R
  subst hH0
  have hh : jSt (dC, dI) B base G0 G0 EX14_workW s.heap 0 0 [] [] [(jFBZ, jBZ dC dI ca G0 r0 S9 Z9)] s.heap [] := jSt.start hX hP0 jMc.nil hI0
  clear hX hP0
  have hkm1 : ((-1) : Int32).toInt = (-1) := by decide
  have hk0 : (0 : Int32).toInt = 0 := by decide
  have hk1 : (1 : Int32).toInt = 1 := by decide
  have hk10000 : (10000 : Int32).toInt = 10000 := by decide
  have hly_16_60 := htw (u_lay RX14 TX14 60) (jWc_wsX140 _ (u_in_lay (by decide)))
  have hlk_129 := (htw (.fieldLink RX14 129 "ProofServerModel" "checkOf" "[LProofServerModel$Document;") (jWr_12 _ (List.mem_of_getElem? (i := 15) rfl)))
  have hrg_a1 := jb_rng a1
  refine lv_iload_n hx hb dX14_work_0 rfl (lv_at hl 1 rfl) ?_
  refine lv_iconst (v := 0) hx hb dX14_work_1 (by decide) ?_
  refine lv_sipush (v := 10000) hx hb dX14_work_2 (by decide) ?_
  refine va_calli (A0 := jA base) (H0 := s.heap) (va_runS (As := [.int a1, .int 0, .int 10000]) (rest := []) ⟨hx, hb, hml, hown, hts⟩ (uX14_in l dC dI ca base B hB hAp G0 s.heap a1 0 10000) (va_cwS 3 hts (jgS (jWr_48 _ (List.mem_of_getElem? (i := 10) rfl)) (jWr_48 _ (List.mem_of_getElem? (i := 11) rfl)) (jWr_1 _ (List.mem_of_getElem? (i := 5) rfl)) (jWr_48 _ (List.mem_of_getElem? (i := 12) rfl))) rfl rfl rfl (by decide +kernel) ⟨by rw [← hR]; exact Nat.le_of_ble_eq_true rfl, by rw [← hR]; exact Nat.le_of_ble_eq_true rfl⟩) ⟨fun a U g mk q => by obtain ⟨q0, q1, q2, qK, q10, q11⟩ := q; exact ⟨q0, q1, q2, jG.calling g mk a qK, q10, q11⟩, fun U hU hW => ⟨rfl, hU, hh.2.1, hG.step hW hU hh.1, jP.nil, trivial⟩⟩ rfl rfl hl.1 rfl (lv_room (Nat.le_of_ble_eq_true rfl)) dX14_work_5 ⟨Nat.zero_le _, Nat.zero_le _⟩) hh.1 (fun q _ h => h) (fun q h => h) (fun r_2 u_1 t_1 H_1 locs_1 ht_1 hvm_1 hr_2 hb_1 hz_1 hk_1 hS_1 => ?_)
  rw [ht_1] at hb_1
  obtain ⟨hb_11, hb_12, hb_13, hb_14, hb_15⟩ := hb_1
  have hh_1 : jSt (dC, dI) B base G0 G0 EX14_workW s.heap 0 0 [] [] [(jFBZ, jBZ dC dI ca G0 r0 S9 Z9)] H_1 locs_1 := ((hh.call hb_11 hb_12 hb_13 hb_14 hS_1 rfl (L1 := []) [] rfl rfl (M1 := []) [] rfl rfl (I1 := [(jFBZ, jBZ dC dI ca G0 r0 S9 Z9)]) [0] rfl rfl).more hb_15)
  clear hh ht_1 hvm_1 hz_1 hk_1 hS_1 hb_11 hb_12 hb_13 hb_14 hb_15
  obtain ⟨hr_2b, hr_2p⟩ := hr_2
  obtain ⟨hr_2p_0, hr_2p_1, hr_2p_2⟩ := hr_2p
  have hin9 := hr_2p_2
  rw [hk0, hk10000] at hin9
  have hr_2' := jb_01 hr_2b
  refine lv_if_ne (tgt := 13) hx hb dX14_work_8 (by decide) (fun c_3 => ?_) (fun c_3 => ?_)
  · skip
    have c_3' : r_2.toInt ≠ 0 := jb_ne (rfl) ((by decide)) c_3
    have hr01 : 0 ≤ a1.toInt ∧ a1.toInt ≤ 10000 := by unfold jIn at hin9; split at hin9; assumption; omega
    refine lv_iconst (v := 0) hx hb dX14_work_13 (by decide) ?_
    refine lv_istore_n (lv' := [(2, .int 0), (0, .ref r0), (1, .int a1)]) hx hb dX14_work_14 rfl hl (by decide) rfl (fun ls hl => ?_)
    have L15 : ∀ (N : Nat) (v2_4 : Int32) (Z9x_4 : jwSt) (H_4 : Heap) (locs_4 : List Loc), jSt (dC, dI) B base G0 G0 EX14_workW s.heap 0 0 [] [] [(jFBZ, jBZ dC dI ca G0 r0 S9 Z9x_4)] H_4 locs_4 → (0 ≤ v2_4.toInt ∧ v2_4.toInt ≤ a1.toInt ∧ jwOk S9 Z9x_4 ∧ ((jwWk S9 (a1.toInt - v2_4.toInt).toNat Z9x_4).1 + v2_4.toInt, (jwWk S9 (a1.toInt - v2_4.toInt).toNat Z9x_4).2) = (jwWk S9 (a1.toInt).toNat Z9)) → (a1.toInt - v2_4.toInt : Int) < N → ∀ ls : Array Slot, lv_has ls 3 [(0, .ref r0), (1, .int a1), (2, .int v2_4)] → W p l e R s m ([.ref r0, .int a1] : List Value).toArray below meth c H_4 locs_4 0 0 Q (F0 m 15 ls []) := by
      intro N
      induction N with
      | zero => intro v2_4 Z9x_4 H_4 locs_4 hh_4  hi_4 hm; exact absurd hm (by omega)
      | succ N L15 =>
        intro v2_4 Z9x_4 H_4 locs_4 hh_4  hi_4 hm_4 ls hl
        obtain ⟨hi_4_0, hi_4_1, hi_4_2, hi_4_3⟩ := hi_4
        refine lv_iload_n hx hb dX14_work_15 rfl (lv_at hl 2 rfl) ?_
        refine lv_iload_n hx hb dX14_work_16 rfl (lv_at hl 1 rfl) ?_
        refine lv_icmp_ge (tgt := 55) hx hb dX14_work_17 (by decide) (fun c_5 => ?_) (fun c_5 => ?_)
        · skip
          have c_5' : v2_4.toInt ≥ a1.toInt := jb_ge (rfl) (rfl) c_5
          have hA_6 : Z9x_4 = ((jwWork S9 a1.toInt Z9).2) := by have h9 := hi_4_3; rw [jwWk.e (Or.inl (by omega))] at h9; unfold jwWork; rw [if_pos hr01, ← h9]
          have hAe_6 : jBZ dC dI ca G0 r0 S9 ((jwWork S9 a1.toInt Z9).2) H_4 := by rw [← hA_6]; exact hh_4.iv 0 rfl
          have hh_7 := hh_4.sub (L1 := []) [] rfl (M1 := []) [] rfl (I1 := []) [] rfl
          clear hh_4
          have hh_8 := hh_7.addI (jBZ.ie hAe_6)
          clear hh_7
          refine lv_iload_n hx hb dX14_work_55 rfl (lv_at hl 2 rfl) ?_
          rw [hQ]
          exact W.iret (v := v2_4) hx hb hr (fun t ht hW => ⟨⟨v2_4, (), rfl, by have h9 := hi_4_3; rw [jwWk.e (Or.inl (by omega))] at h9; unfold jwWork; rw [if_pos hr01]; rw [← h9]; show v2_4.toInt = 0 + v2_4.toInt; omega, ⟨hh_8.rt (M1 := []) [] rfl ht, by rw [ht]; exact hh_8.2.2.2.2.2.2.2.2.sub (L1 := [(jFBZ, jBZ dC dI ca G0 r0 S9 ((jwWork S9 a1.toInt Z9).2))]) [0] rfl⟩⟩, by rw [ht]; try exact hh_8.1.1, fun q h9 hq => by rw [ht]; try exact hh_8.1.2.1 q h9 hq⟩) hh_8.1.2.2 dX14_work_56
        · skip
          have c_5' : v2_4.toInt < a1.toInt := jb_ge_n (rfl) (rfl) c_5
          obtain ⟨rt_9, fq_9, fd_9, dc_9, co_9, cs_9, cl_9, WW_9, ol_9, nw_9, td_9, hb1_9, hb2_9, hb3_9, hb4_9, hb5_9, hb6_9, hb7_9, hBz_9⟩ := hh_4.iv 0 rfl
          have hh_10 := hh_4.sub (L1 := []) [] rfl (M1 := []) [] rfl (I1 := []) [] rfl
          clear hh_4
          have hh_11 := hh_10.addI (jHo.ie hb7_9)
          clear hh_10
          have hh_12 := hh_11.addI (jHk.ie hb6_9)
          clear hh_11
          have hh_13 := hh_12.addI (jHw.ie hb5_9)
          clear hh_12
          have hh_14 := hh_13.addI (jHc.ie hb4_9)
          clear hh_13
          have hh_15 := hh_14.addI (jXD.ie hb3_9)
          clear hh_14
          have hh_16 := hh_15.addI (jRD.ie hb2_9)
          clear hh_15
          have hh_17 := hh_16.addI (jHd.ie hb1_9)
          clear hh_16
          obtain ⟨ycs_18, ycl_18, yco_18, -, ⟨hgcs_18, hgcl_18, hgco_18⟩, hoP_18, hoM_18, hqco_18, -⟩ := hh_17.iv 3 rfl
          have hh_19 := ((hh_17.sub (L1 := []) [] rfl (M1 := []) [] rfl (I1 := [(jFHd, jHd dC dI ca G0 r0 fd_9 dc_9), (jFrd, jRD dC dI ca G0 none rt_9), (jFxd, jXD dC dI ca G0 none fq_9), (jFHw, jHw dC dI ca G0 r0 WW_9), (jFHk, jHk dC dI ca G0 r0 (Z9x_4.2.2.2)), (jFHo, jHo dC dI ca G0 r0 ol_9 nw_9 td_9)]) [0, 1, 2, 4, 5, 6] rfl).more hoP_18).moreM hoM_18
          clear hh_17
          have hh_20 := hh_19.addI (jQc.ie hqco_18 hgco_18 (by decide) (by decide))
          clear hh_19
          refine lv_aload_n hx hb dX14_work_20 rfl (lv_at hl 0 rfl) ?_
          refine j7_read hx hb hown hK (C := RX14) (T := TX14) (N := 74) rfl hly_16_60 hlk_129 (hh_20.at 2 rfl) dX14_work_21 ?_
          refine lv_iconst (v := 0) hx hb dX14_work_24 (by decide) ?_
          refine j7_qaldI hx hb hK2 hh_20 hB208 0 rfl (by decide) hgco_18 (x := 0) ((by decide)) (by omega) (hh_20.iv 0 rfl) dX14_work_25 (fun o_21 ho_21 heo_21 => ?_)
          rcases ho_21 with rfl | ⟨el_22, rfl, hg_el_22⟩
          · simp only [va_rf]
            have hN0 := hBz_9.zn (w := 0) (by omega) (by omega) heo_21
            refine lv_ifnonnullN hx hb dX14_work_26 ?_
            refine lv_aload_n hx hb dX14_work_29 rfl (lv_at hl 0 rfl) ?_
            refine j7_read hx hb hown hK (C := RX14) (T := TX14) (N := 74) rfl hly_16_60 hlk_129 (hh_20.at 2 rfl) dX14_work_30 ?_
            refine lv_iconst (v := 1) hx hb dX14_work_33 (by decide) ?_
            refine j7_qaldI hx hb hK2 hh_20 hB208 0 rfl (by decide) hgco_18 (x := 1) ((by decide)) (by omega) (hh_20.iv 0 rfl) dX14_work_34 (fun o_23 ho_23 heo_23 => ?_)
            rcases ho_23 with rfl | ⟨el_24, rfl, hg_el_24⟩
            · simp only [va_rf]
              have hN1 := hBz_9.zn (w := 1) (by omega) (by omega) heo_23
              refine lv_ifnonnullN hx hb dX14_work_35 ?_
              have hz15 := hBz_9
              have hHf_25 : jHc dC dI ca G0 r0 co_9 cs_9 cl_9 H_4 := ⟨ycs_18, ycl_18, yco_18, ⟨_, hg_r0⟩, ⟨hgcs_18, hgcl_18, hgco_18⟩, hh_20.2.2.1.sub (L1 := [(r0, 16, 61, .ref ycs_18), (r0, 16, 62, .ref ycl_18), (r0, 16, 60, .ref yco_18)]) [0, 1, 2] rfl, hh_20.2.2.2.2.2.2.2.1.sub (L1 := [(ycs_18, 207, 2, ca 1, cs_9), (ycl_18, 115, 2, ca 1, cl_9)]) [0, 1] rfl, hh_20.iv 0 rfl, trivial⟩
              have hh_26 := hh_20.sub (L1 := [(r0, 16, 61, .ref ycs_18), (r0, 16, 62, .ref ycl_18), (r0, 16, 60, .ref yco_18)]) [0, 1, 2] rfl (M1 := [(ycs_18, 207, 2, ca 1, cs_9), (ycl_18, 115, 2, ca 1, cl_9)]) [0, 1] rfl (I1 := [(jFHd, jHd dC dI ca G0 r0 fd_9 dc_9), (jFrd, jRD dC dI ca G0 none rt_9), (jFxd, jXD dC dI ca G0 none fq_9), (jFHw, jHw dC dI ca G0 r0 WW_9), (jFHk, jHk dC dI ca G0 r0 (Z9x_4.2.2.2)), (jFHo, jHo dC dI ca G0 r0 ol_9 nw_9 td_9)]) [1, 2, 3, 4, 5, 6] rfl
              clear hh_20
              have hh_27 := hh_26.addI (jHc.ie hHf_25)
              clear hh_26
              refine lv_aload_n hx hb dX14_work_38 rfl (lv_at hl 0 rfl) ?_
              refine j_callx (A0 := jA base) (H0 := s.heap) (va_runV (As := []) (rest := []) ⟨hx, hb, hml, hown, hts⟩ (uX14_nextDocumentT l dC dI ca base B hB hAp hB14 hB16 hB201 hB202 hB208 G0 H_4 r0 rt_9 ol_9 nw_9 td_9 S9 Z9x_4 fq_9 fd_9 dc_9 co_9 cs_9 cl_9 WW_9) (cwV 0 hts (jgV (jWr_89 _ (List.mem_of_getElem? (i := 20) rfl)) (jWr_89 _ (List.mem_of_getElem? (i := 21) rfl)) (jWr_89 _ (List.mem_of_getElem? (i := 22) rfl)) (jWr_1 _ (List.mem_of_getElem? (i := 5) rfl)) (jWr_89 _ (List.mem_of_getElem? (i := 23) rfl))) rfl rfl rfl (by decide +kernel) ⟨by rw [← hR]; exact Nat.le_of_ble_eq_true rfl, by rw [← hR]; exact Nat.le_of_ble_eq_true rfl⟩) ⟨fun a U g mk q => by obtain ⟨q0, q1, q2, qK, q10, q11, q12, q13, q14⟩ := q; exact ⟨q0, q1, q2, jG.calling g mk a qK, (va_K.moved (Vm.Alike.refl U.vm) q10), q11, q12, q13, q14⟩, hh_27.recv (C := RX14) (T := TX14) (N := 74) hB16 rfl (by decide) hg_r0 hK, fun U hU hW => ⟨rfl, hU, hh_27.2.1, hG.step hW hU hh_27.1, va_K.moved hW.alike hK2, hg_r0, jP.nil, (hh_27.2.2.2.2.2.2.2.2.sub (L1 := [(jFxd, jXD dC dI ca G0 none fq_9), (jFHd, jHd dC dI ca G0 r0 fd_9 dc_9), (jFHc, jHc dC dI ca G0 r0 co_9 cs_9 cl_9), (jFHw, jHw dC dI ca G0 r0 WW_9)]) [3, 1, 0, 4] rfl), by first | omega | rfl | assumption | decide | exact Or.inl rfl | exact Or.inr rfl | (simp only; omega)⟩⟩ rfl rfl hl.1 rfl (lv_room (Nat.le_of_ble_eq_true rfl)) dX14_work_39 ⟨Nat.zero_le _, Nat.zero_le _⟩) hh_27.1 (fun q _ h => h) (fun q h => h) (fun r_29 u_28 t_28 H_28 locs_28 ht_28 hvm_28 hr_29 hb_28 hz_28 hk_28 hS_28 => ?_)
              rw [ht_28] at hb_28
              obtain ⟨hb_28, hbE_28⟩ := hb_28
              obtain ⟨hb_281, hb_282, hb_283, hb_284, hb_285⟩ := hb_28
              have hh_28 : jSt (dC, dI) B base G0 G0 EX14_workW s.heap 0 0 [(r0, 16, 61, .ref ycs_18), (r0, 16, 62, .ref ycl_18), (r0, 16, 60, .ref yco_18)] [(ycs_18, 207, 2, ca 1, cs_9), (ycl_18, 115, 2, ca 1, cl_9)] [(jFxd, jXD dC dI ca G0 none fq_9), (jFHd, jHd dC dI ca G0 r0 fd_9 dc_9), (jFHc, jHc dC dI ca G0 r0 co_9 cs_9 cl_9), (jFHw, jHw dC dI ca G0 r0 WW_9), (jFrd, jRD dC dI ca G0 none rt_9), (jFHk, jHk dC dI ca G0 r0 (Z9x_4.2.2.2)), (jFHo, jHo dC dI ca G0 r0 ol_9 nw_9 td_9)] H_28 locs_28 := (((hh_27.call hb_281 hb_282 hb_283 hb_284 hS_28 rfl (L1 := [(r0, 16, 61, .ref ycs_18), (r0, 16, 62, .ref ycl_18), (r0, 16, 60, .ref yco_18)]) [0, 1, 2] rfl rfl (M1 := [(ycs_18, 207, 2, ca 1, cs_9), (ycl_18, 115, 2, ca 1, cl_9)]) [0, 1] rfl rfl (I1 := [(jFrd, jRD dC dI ca G0 none rt_9), (jFHk, jHk dC dI ca G0 r0 (Z9x_4.2.2.2)), (jFHo, jHo dC dI ca G0 r0 ol_9 nw_9 td_9)]) [2, 5, 6] rfl rfl).more hb_285)).addIs hbE_28
              clear hh_27 ht_28 hvm_28 hz_28 hk_28 hS_28 hb_281 hb_282 hb_283 hb_284 hb_285
              clear  hbE_28
              obtain ⟨hr_29, hr_29p⟩ := hr_29
              have hnx9 := hr_29p
              rcases hr_29 with rfl | ⟨ret_30, rfl, hg_ret_30⟩
              · skip
                refine lv_ifnullN (tgt := 55) hx hb dX14_work_42 (by decide) ?_
                have hBf_31 : jBZ dC dI ca G0 r0 S9 Z9x_4 H_28 := ⟨rt_9, fq_9, fd_9, dc_9, co_9, cs_9, cl_9, WW_9, ol_9, nw_9, td_9, hh_28.iv 1 rfl, hh_28.iv 4 rfl, hh_28.iv 0 rfl, hh_28.iv 2 rfl, hh_28.iv 3 rfl, hh_28.iv 5 rfl, hh_28.iv 6 rfl, hBz_9⟩
                have hh_32 := hh_28.sub (L1 := [(r0, 16, 61, .ref ycs_18), (r0, 16, 62, .ref ycl_18), (r0, 16, 60, .ref yco_18)]) [0, 1, 2] rfl (M1 := [(ycs_18, 207, 2, ca 1, cs_9), (ycl_18, 115, 2, ca 1, cl_9)]) [0, 1] rfl (I1 := []) [] rfl
                clear hh_28
                have hh_33 := hh_32.addI (jBZ.ie hBf_31)
                clear hh_32
                have hA_34 : Z9x_4 = ((jwWork S9 a1.toInt Z9).2) := by have h9 := hi_4_3; rw [jwWk.e (Or.inr (jwHs.n (by rw [hN0]; decide) (by rw [hN1]; decide) (hz15.nxn hnx9)))] at h9; unfold jwWork; rw [if_pos hr01, ← h9]
                have hAe_34 : jBZ dC dI ca G0 r0 S9 ((jwWork S9 a1.toInt Z9).2) H_28 := by rw [← hA_34]; exact hh_33.iv 0 rfl
                have hh_35 := hh_33.sub (L1 := [(r0, 16, 61, .ref ycs_18), (r0, 16, 62, .ref ycl_18), (r0, 16, 60, .ref yco_18)]) [0, 1, 2] rfl (M1 := [(ycs_18, 207, 2, ca 1, cs_9), (ycl_18, 115, 2, ca 1, cl_9)]) [0, 1] rfl (I1 := []) [] rfl
                clear hh_33
                have hh_36 := hh_35.addI (jBZ.ie hAe_34)
                clear hh_35
                refine lv_iload_n hx hb dX14_work_55 rfl (lv_at hl 2 rfl) ?_
                rw [hQ]
                exact W.iret (v := v2_4) hx hb hr (fun t ht hW => ⟨⟨v2_4, (), rfl, by have h9 := hi_4_3; rw [jwWk.e (Or.inr (jwHs.n (by rw [hN0]; decide) (by rw [hN1]; decide) (hz15.nxn hnx9)))] at h9; unfold jwWork; rw [if_pos hr01]; rw [← h9]; show v2_4.toInt = 0 + v2_4.toInt; omega, ⟨hh_36.rt (M1 := []) [] rfl ht, by rw [ht]; exact hh_36.2.2.2.2.2.2.2.2.sub (L1 := [(jFBZ, jBZ dC dI ca G0 r0 S9 ((jwWork S9 a1.toInt Z9).2))]) [0] rfl⟩⟩, by rw [ht]; try exact hh_36.1.1, fun q h9 hq => by rw [ht]; try exact hh_36.1.2.1 q h9 hq⟩) hh_36.1.2.2 dX14_work_56
              · skip
                refine lv_ifnull hx hb dX14_work_42 ?_
                have hH9 := jwHs.y (S := S9) (Z := Z9x_4) (Or.inr (Or.inr (jdRr.y hnx9).1))
                have hBf_37 : jBZ dC dI ca G0 r0 S9 Z9x_4 H_28 := ⟨rt_9, fq_9, fd_9, dc_9, co_9, cs_9, cl_9, WW_9, ol_9, nw_9, td_9, hh_28.iv 1 rfl, hh_28.iv 4 rfl, hh_28.iv 0 rfl, hh_28.iv 2 rfl, hh_28.iv 3 rfl, hh_28.iv 5 rfl, hh_28.iv 6 rfl, hBz_9⟩
                have hh_38 := hh_28.sub (L1 := [(r0, 16, 61, .ref ycs_18), (r0, 16, 62, .ref ycl_18), (r0, 16, 60, .ref yco_18)]) [0, 1, 2] rfl (M1 := [(ycs_18, 207, 2, ca 1, cs_9), (ycl_18, 115, 2, ca 1, cl_9)]) [0, 1] rfl (I1 := []) [] rfl
                clear hh_28
                have hh_39 := hh_38.addI (jBZ.ie hBf_37)
                clear hh_38
                refine lv_aload_n hx hb dX14_work_45 rfl (lv_at hl 0 rfl) ?_
                refine va_callv (A0 := jA base) (H0 := s.heap) (va_runV (As := []) (rest := []) ⟨hx, hb, hml, hown, hts⟩ (uX14_stepW l dC dI ca base B hB hAp hB14 hB15 hB16 hB101 hB103 hB104 hB105 hB113 hB114 hB115 hB116 hB126 hB150 hB151 hB152 hB153 hB154 hB155 hB156 hB157 hB158 hB159 hB160 hB161 hB162 hB163 hB164 hB165 hB166 hB167 hB168 hB169 hB190 hB191 hB192 hB193 hB194 hB195 hB201 hB202 hB203 hB204 hB205 hB206 hB207 hB208 G0 H_28 r0 S9 Z9x_4) (cwV 0 hts (jgV (jWr_90 _ (List.mem_of_getElem? (i := 4) rfl)) (jWr_90 _ (List.mem_of_getElem? (i := 5) rfl)) (jWr_90 _ (List.mem_of_getElem? (i := 6) rfl)) (jWr_1 _ (List.mem_of_getElem? (i := 5) rfl)) (jWr_90 _ (List.mem_of_getElem? (i := 7) rfl))) rfl rfl rfl (by decide +kernel) ⟨by rw [← hR]; exact Nat.le_of_ble_eq_true rfl, by rw [← hR]; exact Nat.le_of_ble_eq_true rfl⟩) ⟨fun a U g mk q => by obtain ⟨q0, q1, q2, qK, q10, q11, q12, q13, q14⟩ := q; exact ⟨q0, q1, q2, jG.calling g mk a qK, (va_K.moved (Vm.Alike.refl U.vm) q10), q11, q12, q13, q14⟩, hh_39.recv (C := RX14) (T := TX14) (N := 74) hB16 rfl (by decide) hg_r0 hK, fun U hU hW => ⟨rfl, hU, hh_39.2.1, hG.step hW hU hh_39.1, va_K.moved hW.alike hK2, hg_r0, jP.nil, (hh_39.2.2.2.2.2.2.2.2.sub (L1 := [(jFBZ, jBZ dC dI ca G0 r0 S9 Z9x_4)]) [0] rfl), by first | omega | rfl | assumption | decide | exact Or.inl rfl | exact Or.inr rfl | (simp only; omega)⟩⟩ rfl rfl hl.1 rfl (lv_room (Nat.le_of_ble_eq_true rfl)) dX14_work_46 ⟨Nat.zero_le _, Nat.zero_le _⟩) hh_39.1 (fun q _ h => h) (fun q h => h) (fun u_40 t_40 H_40 locs_40 ht_40 hvm_40 hr_41 hb_40 hz_40 hk_40 hS_40 => ?_)
                rw [ht_40] at hb_40
                obtain ⟨hb_40, hbE_40⟩ := hb_40
                obtain ⟨hb_401, hb_402, hb_403, hb_404, hb_405⟩ := hb_40
                have hh_40 : jSt (dC, dI) B base G0 G0 EX14_workW s.heap 0 0 [(r0, 16, 61, .ref ycs_18), (r0, 16, 62, .ref ycl_18), (r0, 16, 60, .ref yco_18)] [] [(jFBZ, jBZ dC dI ca G0 r0 S9 (jwAd S9 (jwAd S9 Z9x_4 0) 1))] H_40 locs_40 := (((hh_39.call hb_401 hb_402 hb_403 hb_404 hS_40 rfl (L1 := [(r0, 16, 61, .ref ycs_18), (r0, 16, 62, .ref ycl_18), (r0, 16, 60, .ref yco_18)]) [0, 1, 2] rfl rfl (M1 := []) [] rfl rfl (I1 := []) [] rfl rfl).more hb_405)).addIs hbE_40
                clear hh_39 ht_40 hvm_40 hz_40 hk_40 hS_40 hb_401 hb_402 hb_403 hb_404 hb_405
                clear  hbE_40
                obtain ⟨z_42, ez_42⟩ : ∃ y : Int32, y = v2_4 + 1 := ⟨_, rfl⟩
                refine lv_iinc (v := z_42) (lv' := [(2, .int z_42), (0, .ref r0), (1, .int a1)]) hx hb dX14_work_49 hl (k := 2) rfl (by rw [ez_42]; rfl) (by decide) rfl (fun ls hl => ?_)
                have hz_42 : z_42.toInt = v2_4.toInt + 1 := by rw [ez_42]; exact jb_iadd2 (rfl) (by decide) (by omega)
                refine lv_goto (tgt := 15) hx hb dX14_work_52 (by decide) ?_
                exact L15 z_42 (jwAd S9 (jwAd S9 Z9x_4 0) 1) _ _ (hh_40.sub (L1 := []) [] rfl (M1 := []) [] rfl (I1 := [(jFBZ, jBZ dC dI ca G0 r0 S9 (jwAd S9 (jwAd S9 Z9x_4 0) 1))]) [0] rfl) (⟨by omega, by omega, (hi_4_2.ad (Or.inl rfl)).ad (Or.inr rfl), by rw [← hi_4_3, jwWk.s (k := (a1.toInt - v2_4.toInt).toNat) (k1 := (a1.toInt - (z_42).toInt).toNat) (by omega) hH9]; congr 1; omega⟩) (by omega) _ (lv_sub hl [1, 2, 0] rfl)
            · simp only [va_rf]
              obtain ⟨d9, j0, j1, j2, j3, j4, j5, j6, j7⟩ := hBz_9.at (w := 1) (by omega) (by omega) heo_23
              refine lv_ifnonnull (tgt := 45) hx hb dX14_work_35 (by decide) ?_
              have hH9 := jwHs.y (S := S9) (Z := Z9x_4) (Or.inr (Or.inl (by rw [j4]; exact j0)))
              have hHf_43 : jHc dC dI ca G0 r0 co_9 cs_9 cl_9 H_4 := ⟨ycs_18, ycl_18, yco_18, ⟨_, hg_r0⟩, ⟨hgcs_18, hgcl_18, hgco_18⟩, hh_20.2.2.1.sub (L1 := [(r0, 16, 61, .ref ycs_18), (r0, 16, 62, .ref ycl_18), (r0, 16, 60, .ref yco_18)]) [0, 1, 2] rfl, hh_20.2.2.2.2.2.2.2.1.sub (L1 := [(ycs_18, 207, 2, ca 1, cs_9), (ycl_18, 115, 2, ca 1, cl_9)]) [0, 1] rfl, hh_20.iv 0 rfl, trivial⟩
              have hh_44 := hh_20.sub (L1 := [(r0, 16, 61, .ref ycs_18), (r0, 16, 62, .ref ycl_18), (r0, 16, 60, .ref yco_18)]) [0, 1, 2] rfl (M1 := [(ycs_18, 207, 2, ca 1, cs_9), (ycl_18, 115, 2, ca 1, cl_9)]) [0, 1] rfl (I1 := [(jFHd, jHd dC dI ca G0 r0 fd_9 dc_9), (jFrd, jRD dC dI ca G0 none rt_9), (jFxd, jXD dC dI ca G0 none fq_9), (jFHw, jHw dC dI ca G0 r0 WW_9), (jFHk, jHk dC dI ca G0 r0 (Z9x_4.2.2.2)), (jFHo, jHo dC dI ca G0 r0 ol_9 nw_9 td_9)]) [1, 2, 3, 4, 5, 6] rfl
              clear hh_20
              have hh_45 := hh_44.addI (jHc.ie hHf_43)
              clear hh_44
              have hBf_46 : jBZ dC dI ca G0 r0 S9 Z9x_4 H_4 := ⟨rt_9, fq_9, fd_9, dc_9, co_9, cs_9, cl_9, WW_9, ol_9, nw_9, td_9, hh_45.iv 1 rfl, hh_45.iv 2 rfl, hh_45.iv 3 rfl, hh_45.iv 0 rfl, hh_45.iv 4 rfl, hh_45.iv 5 rfl, hh_45.iv 6 rfl, hBz_9⟩
              have hh_47 := hh_45.sub (L1 := [(r0, 16, 61, .ref ycs_18), (r0, 16, 62, .ref ycl_18), (r0, 16, 60, .ref yco_18)]) [0, 1, 2] rfl (M1 := [(ycs_18, 207, 2, ca 1, cs_9), (ycl_18, 115, 2, ca 1, cl_9)]) [0, 1] rfl (I1 := []) [] rfl
              clear hh_45
              have hh_48 := hh_47.addI (jBZ.ie hBf_46)
              clear hh_47
              refine lv_aload_n hx hb dX14_work_45 rfl (lv_at hl 0 rfl) ?_
              refine va_callv (A0 := jA base) (H0 := s.heap) (va_runV (As := []) (rest := []) ⟨hx, hb, hml, hown, hts⟩ (uX14_stepW l dC dI ca base B hB hAp hB14 hB15 hB16 hB101 hB103 hB104 hB105 hB113 hB114 hB115 hB116 hB126 hB150 hB151 hB152 hB153 hB154 hB155 hB156 hB157 hB158 hB159 hB160 hB161 hB162 hB163 hB164 hB165 hB166 hB167 hB168 hB169 hB190 hB191 hB192 hB193 hB194 hB195 hB201 hB202 hB203 hB204 hB205 hB206 hB207 hB208 G0 H_4 r0 S9 Z9x_4) (cwV 0 hts (jgV (jWr_90 _ (List.mem_of_getElem? (i := 4) rfl)) (jWr_90 _ (List.mem_of_getElem? (i := 5) rfl)) (jWr_90 _ (List.mem_of_getElem? (i := 6) rfl)) (jWr_1 _ (List.mem_of_getElem? (i := 5) rfl)) (jWr_90 _ (List.mem_of_getElem? (i := 7) rfl))) rfl rfl rfl (by decide +kernel) ⟨by rw [← hR]; exact Nat.le_of_ble_eq_true rfl, by rw [← hR]; exact Nat.le_of_ble_eq_true rfl⟩) ⟨fun a U g mk q => by obtain ⟨q0, q1, q2, qK, q10, q11, q12, q13, q14⟩ := q; exact ⟨q0, q1, q2, jG.calling g mk a qK, (va_K.moved (Vm.Alike.refl U.vm) q10), q11, q12, q13, q14⟩, hh_48.recv (C := RX14) (T := TX14) (N := 74) hB16 rfl (by decide) hg_r0 hK, fun U hU hW => ⟨rfl, hU, hh_48.2.1, hG.step hW hU hh_48.1, va_K.moved hW.alike hK2, hg_r0, jP.nil, (hh_48.2.2.2.2.2.2.2.2.sub (L1 := [(jFBZ, jBZ dC dI ca G0 r0 S9 Z9x_4)]) [0] rfl), by first | omega | rfl | assumption | decide | exact Or.inl rfl | exact Or.inr rfl | (simp only; omega)⟩⟩ rfl rfl hl.1 rfl (lv_room (Nat.le_of_ble_eq_true rfl)) dX14_work_46 ⟨Nat.zero_le _, Nat.zero_le _⟩) hh_48.1 (fun q _ h => h) (fun q h => h) (fun u_49 t_49 H_49 locs_49 ht_49 hvm_49 hr_50 hb_49 hz_49 hk_49 hS_49 => ?_)
              rw [ht_49] at hb_49
              obtain ⟨hb_49, hbE_49⟩ := hb_49
              obtain ⟨hb_491, hb_492, hb_493, hb_494, hb_495⟩ := hb_49
              have hh_49 : jSt (dC, dI) B base G0 G0 EX14_workW s.heap 0 0 [(r0, 16, 61, .ref ycs_18), (r0, 16, 62, .ref ycl_18), (r0, 16, 60, .ref yco_18)] [] [(jFBZ, jBZ dC dI ca G0 r0 S9 (jwAd S9 (jwAd S9 Z9x_4 0) 1))] H_49 locs_49 := (((hh_48.call hb_491 hb_492 hb_493 hb_494 hS_49 rfl (L1 := [(r0, 16, 61, .ref ycs_18), (r0, 16, 62, .ref ycl_18), (r0, 16, 60, .ref yco_18)]) [0, 1, 2] rfl rfl (M1 := []) [] rfl rfl (I1 := []) [] rfl rfl).more hb_495)).addIs hbE_49
              clear hh_48 ht_49 hvm_49 hz_49 hk_49 hS_49 hb_491 hb_492 hb_493 hb_494 hb_495
              clear  hbE_49
              obtain ⟨z_51, ez_51⟩ : ∃ y : Int32, y = v2_4 + 1 := ⟨_, rfl⟩
              refine lv_iinc (v := z_51) (lv' := [(2, .int z_51), (0, .ref r0), (1, .int a1)]) hx hb dX14_work_49 hl (k := 2) rfl (by rw [ez_51]; rfl) (by decide) rfl (fun ls hl => ?_)
              have hz_51 : z_51.toInt = v2_4.toInt + 1 := by rw [ez_51]; exact jb_iadd2 (rfl) (by decide) (by omega)
              refine lv_goto (tgt := 15) hx hb dX14_work_52 (by decide) ?_
              exact L15 z_51 (jwAd S9 (jwAd S9 Z9x_4 0) 1) _ _ (hh_49.sub (L1 := []) [] rfl (M1 := []) [] rfl (I1 := [(jFBZ, jBZ dC dI ca G0 r0 S9 (jwAd S9 (jwAd S9 Z9x_4 0) 1))]) [0] rfl) (⟨by omega, by omega, (hi_4_2.ad (Or.inl rfl)).ad (Or.inr rfl), by rw [← hi_4_3, jwWk.s (k := (a1.toInt - v2_4.toInt).toNat) (k1 := (a1.toInt - (z_51).toInt).toNat) (by omega) hH9]; congr 1; omega⟩) (by omega) _ (lv_sub hl [1, 2, 0] rfl)
          · simp only [va_rf]
            obtain ⟨d8, i0, i1, i2, i3, i4, i5, i6, i7⟩ := hBz_9.at (w := 0) (by omega) (by omega) heo_21
            refine lv_ifnonnull (tgt := 45) hx hb dX14_work_26 (by decide) ?_
            have hH9 := jwHs.y (S := S9) (Z := Z9x_4) (Or.inl (by rw [i4]; exact i0))
            have hHf_52 : jHc dC dI ca G0 r0 co_9 cs_9 cl_9 H_4 := ⟨ycs_18, ycl_18, yco_18, ⟨_, hg_r0⟩, ⟨hgcs_18, hgcl_18, hgco_18⟩, hh_20.2.2.1.sub (L1 := [(r0, 16, 61, .ref ycs_18), (r0, 16, 62, .ref ycl_18), (r0, 16, 60, .ref yco_18)]) [0, 1, 2] rfl, hh_20.2.2.2.2.2.2.2.1.sub (L1 := [(ycs_18, 207, 2, ca 1, cs_9), (ycl_18, 115, 2, ca 1, cl_9)]) [0, 1] rfl, hh_20.iv 0 rfl, trivial⟩
            have hh_53 := hh_20.sub (L1 := [(r0, 16, 61, .ref ycs_18), (r0, 16, 62, .ref ycl_18), (r0, 16, 60, .ref yco_18)]) [0, 1, 2] rfl (M1 := [(ycs_18, 207, 2, ca 1, cs_9), (ycl_18, 115, 2, ca 1, cl_9)]) [0, 1] rfl (I1 := [(jFHd, jHd dC dI ca G0 r0 fd_9 dc_9), (jFrd, jRD dC dI ca G0 none rt_9), (jFxd, jXD dC dI ca G0 none fq_9), (jFHw, jHw dC dI ca G0 r0 WW_9), (jFHk, jHk dC dI ca G0 r0 (Z9x_4.2.2.2)), (jFHo, jHo dC dI ca G0 r0 ol_9 nw_9 td_9)]) [1, 2, 3, 4, 5, 6] rfl
            clear hh_20
            have hh_54 := hh_53.addI (jHc.ie hHf_52)
            clear hh_53
            have hBf_55 : jBZ dC dI ca G0 r0 S9 Z9x_4 H_4 := ⟨rt_9, fq_9, fd_9, dc_9, co_9, cs_9, cl_9, WW_9, ol_9, nw_9, td_9, hh_54.iv 1 rfl, hh_54.iv 2 rfl, hh_54.iv 3 rfl, hh_54.iv 0 rfl, hh_54.iv 4 rfl, hh_54.iv 5 rfl, hh_54.iv 6 rfl, hBz_9⟩
            have hh_56 := hh_54.sub (L1 := [(r0, 16, 61, .ref ycs_18), (r0, 16, 62, .ref ycl_18), (r0, 16, 60, .ref yco_18)]) [0, 1, 2] rfl (M1 := [(ycs_18, 207, 2, ca 1, cs_9), (ycl_18, 115, 2, ca 1, cl_9)]) [0, 1] rfl (I1 := []) [] rfl
            clear hh_54
            have hh_57 := hh_56.addI (jBZ.ie hBf_55)
            clear hh_56
            refine lv_aload_n hx hb dX14_work_45 rfl (lv_at hl 0 rfl) ?_
            refine va_callv (A0 := jA base) (H0 := s.heap) (va_runV (As := []) (rest := []) ⟨hx, hb, hml, hown, hts⟩ (uX14_stepW l dC dI ca base B hB hAp hB14 hB15 hB16 hB101 hB103 hB104 hB105 hB113 hB114 hB115 hB116 hB126 hB150 hB151 hB152 hB153 hB154 hB155 hB156 hB157 hB158 hB159 hB160 hB161 hB162 hB163 hB164 hB165 hB166 hB167 hB168 hB169 hB190 hB191 hB192 hB193 hB194 hB195 hB201 hB202 hB203 hB204 hB205 hB206 hB207 hB208 G0 H_4 r0 S9 Z9x_4) (cwV 0 hts (jgV (jWr_90 _ (List.mem_of_getElem? (i := 4) rfl)) (jWr_90 _ (List.mem_of_getElem? (i := 5) rfl)) (jWr_90 _ (List.mem_of_getElem? (i := 6) rfl)) (jWr_1 _ (List.mem_of_getElem? (i := 5) rfl)) (jWr_90 _ (List.mem_of_getElem? (i := 7) rfl))) rfl rfl rfl (by decide +kernel) ⟨by rw [← hR]; exact Nat.le_of_ble_eq_true rfl, by rw [← hR]; exact Nat.le_of_ble_eq_true rfl⟩) ⟨fun a U g mk q => by obtain ⟨q0, q1, q2, qK, q10, q11, q12, q13, q14⟩ := q; exact ⟨q0, q1, q2, jG.calling g mk a qK, (va_K.moved (Vm.Alike.refl U.vm) q10), q11, q12, q13, q14⟩, hh_57.recv (C := RX14) (T := TX14) (N := 74) hB16 rfl (by decide) hg_r0 hK, fun U hU hW => ⟨rfl, hU, hh_57.2.1, hG.step hW hU hh_57.1, va_K.moved hW.alike hK2, hg_r0, jP.nil, (hh_57.2.2.2.2.2.2.2.2.sub (L1 := [(jFBZ, jBZ dC dI ca G0 r0 S9 Z9x_4)]) [0] rfl), by first | omega | rfl | assumption | decide | exact Or.inl rfl | exact Or.inr rfl | (simp only; omega)⟩⟩ rfl rfl hl.1 rfl (lv_room (Nat.le_of_ble_eq_true rfl)) dX14_work_46 ⟨Nat.zero_le _, Nat.zero_le _⟩) hh_57.1 (fun q _ h => h) (fun q h => h) (fun u_58 t_58 H_58 locs_58 ht_58 hvm_58 hr_59 hb_58 hz_58 hk_58 hS_58 => ?_)
            rw [ht_58] at hb_58
            obtain ⟨hb_58, hbE_58⟩ := hb_58
            obtain ⟨hb_581, hb_582, hb_583, hb_584, hb_585⟩ := hb_58
            have hh_58 : jSt (dC, dI) B base G0 G0 EX14_workW s.heap 0 0 [(r0, 16, 61, .ref ycs_18), (r0, 16, 62, .ref ycl_18), (r0, 16, 60, .ref yco_18)] [] [(jFBZ, jBZ dC dI ca G0 r0 S9 (jwAd S9 (jwAd S9 Z9x_4 0) 1))] H_58 locs_58 := (((hh_57.call hb_581 hb_582 hb_583 hb_584 hS_58 rfl (L1 := [(r0, 16, 61, .ref ycs_18), (r0, 16, 62, .ref ycl_18), (r0, 16, 60, .ref yco_18)]) [0, 1, 2] rfl rfl (M1 := []) [] rfl rfl (I1 := []) [] rfl rfl).more hb_585)).addIs hbE_58
            clear hh_57 ht_58 hvm_58 hz_58 hk_58 hS_58 hb_581 hb_582 hb_583 hb_584 hb_585
            clear  hbE_58
            obtain ⟨z_60, ez_60⟩ : ∃ y : Int32, y = v2_4 + 1 := ⟨_, rfl⟩
            refine lv_iinc (v := z_60) (lv' := [(2, .int z_60), (0, .ref r0), (1, .int a1)]) hx hb dX14_work_49 hl (k := 2) rfl (by rw [ez_60]; rfl) (by decide) rfl (fun ls hl => ?_)
            have hz_60 : z_60.toInt = v2_4.toInt + 1 := by rw [ez_60]; exact jb_iadd2 (rfl) (by decide) (by omega)
            refine lv_goto (tgt := 15) hx hb dX14_work_52 (by decide) ?_
            exact L15 z_60 (jwAd S9 (jwAd S9 Z9x_4 0) 1) _ _ (hh_58.sub (L1 := []) [] rfl (M1 := []) [] rfl (I1 := [(jFBZ, jBZ dC dI ca G0 r0 S9 (jwAd S9 (jwAd S9 Z9x_4 0) 1))]) [0] rfl) (⟨by omega, by omega, (hi_4_2.ad (Or.inl rfl)).ad (Or.inr rfl), by rw [← hi_4_3, jwWk.s (k := (a1.toInt - v2_4.toInt).toNat) (k1 := (a1.toInt - (z_60).toInt).toNat) (by omega) hH9]; congr 1; omega⟩) (by omega) _ (lv_sub hl [1, 2, 0] rfl)
    exact L15 (a1.toInt - (0 : Int32).toInt : Int).toNat.succ 0 Z9 _ _ hh_1 (⟨by omega, by omega, hp0, by rw [hk0, Int.sub_zero, Int.add_zero]⟩) (by omega) _ (lv_sub hl [1, 2, 0] rfl)
  · skip
    have c_3' : r_2.toInt = 0 := jb_ne_n (rfl) ((by decide)) c_3
    refine lv_iconst (v := (-1)) hx hb dX14_work_11 (by decide) ?_
    have hA_61 : Z9 = ((jwWork S9 a1.toInt Z9).2) := by unfold jwWork; rw [if_neg (by intro q9; unfold jIn at hin9; rw [if_pos q9] at hin9; omega)]
    have hAe_61 : jBZ dC dI ca G0 r0 S9 ((jwWork S9 a1.toInt Z9).2) H_1 := by rw [← hA_61]; exact hh_1.iv 0 rfl
    have hh_62 := hh_1.sub (L1 := []) [] rfl (M1 := []) [] rfl (I1 := []) [] rfl
    clear hh_1
    have hh_63 := hh_62.addI (jBZ.ie hAe_61)
    clear hh_62
    rw [hQ]
    exact W.iret (v := (-1)) hx hb hr (fun t ht hW => ⟨⟨(-1), (), rfl, by unfold jwWork; rw [if_neg (by intro q9; unfold jIn at hin9; rw [if_pos q9] at hin9; omega)]; exact hkm1, ⟨hh_63.rt (M1 := []) [] rfl ht, by rw [ht]; exact hh_63.2.2.2.2.2.2.2.2.sub (L1 := [(jFBZ, jBZ dC dI ca G0 r0 S9 ((jwWork S9 a1.toInt Z9).2))]) [0] rfl⟩⟩, by rw [ht]; try exact hh_63.1.1, fun q h9 hq => by rw [ht]; try exact hh_63.1.2.1 q h9 hq⟩) hh_63.1.2.2 dX14_work_12
end
