section
def EX0_putS : List (Nat × Nat) := [(2, 0), (2, 1), (196, 0)]
def EX0_textS : List (Nat × Nat) := [(2, 0), (2, 1), (196, 0)]
def EX0_characterS : List (Nat × Nat) := [(2, 0), (2, 1), (196, 0)]
def EX0_numberS : List (Nat × Nat) := [(2, 0), (2, 1), (196, 0)]
def EX0_quotedS : List (Nat × Nat) := [(2, 0), (2, 1), (196, 0)]
def EX0_initY : List (Nat × Nat) := []
set_option maxHeartbeats 4000000 in
set_option maxRecDepth 20000 in
theorem uX0_putS (l : Launch) (dC : Nat → ClassId) (dI : Nat → Nat → Nat) (ca : Nat → ClassId) (base : Nat) (B : jF) (hB : jBok B) (hAp : jAp (dC, dI)) (hB2 : ∀ n G a H, B 2 n G a H ↔ jOb (dC, dI) 2 2 (F2 n G) a H) (hB196 : ∀ n G a H, B 196 n G a H ↔ jAr (dC, dI) (ca 0) (fun j z => jBf j z) n a H) (G0 : jT) (H0 : Heap) (r0 : Nat) (a1 : Int32) (pc : Int32) (pa : Nat) (n_pa : Nat) (LC LS : Nat) : Met l yX0_put (jw yX0_put cX0_put 2 none) ({ frames := 2, cells := LC - H0.size, slots := LS - jTot H0, locals := 62 }) (va_Pc [.ref r0, .int a1] (fun U => U.heap = H0 ∧ jX B base G0 [] H0 ∧ jG dC dI ca base U ∧ G0 r0 = some (2, 0) ∧ G0 pa = some (196, n_pa) ∧ jP (dC, dI) G0 H0 [(r0, 2, 1, .int pc), (r0, 2, 0, .ref pa)] ∧ H0.size + (128 - n_pa) / 16 + 1 ≤ LC ∧ jTot H0 + 2 * (128 - n_pa) ≤ LS ∧ 0 ≤ pc.toInt ∧ pc.toInt ≤ n_pa ∧ 16 ≤ n_pa ∧ n_pa ≤ 128 ∧ jPw n_pa ∧ pc.toInt < 128)) (va_Qv (S := Int32 × Nat × Nat × jT) (fun u => 0 ≤ u.1.toInt ∧ u.1.toInt ≤ u.2.2.1 ∧ n_pa ≤ u.2.2.1 ∧ u.2.2.1 ≤ 128 ∧ jPw u.2.2.1 ∧ u.1.toInt = pc.toInt + 1) (fun u t => jRa (dC, dI) B base G0 u.2.2.2 EX0_putS H0 ((u.2.2.1 - n_pa) / 16) (2 * (u.2.2.1 - n_pa)) [(r0, 2, 1, .int u.1), (r0, 2, 0, .ref u.2.1)] t.heap ∧ u.2.2.2 u.2.1 = some (196, u.2.2.1) ∧ (jNk [0, 1, 2, 3, 4, 5, 6, 7, 8, 9, 10, 11, 12, 13, 14, 15, 16]) G0 u.2.2.2 ∧ jOw (dC, dI) G0 2 r0 H0 t.heap) (jA base)) (LC - H0.size) (LS - jTot H0) (jA base) := by
  refine Met.ofW (cc := cX0_put) (maxL := 2) (ret := none) (by decide) rfl ?_
  intro p e s m args below meth c s₁ Bd hml hv
  obtain ⟨rfl, hH0, hX, hG, hg_r0, hg_pa, hP0, hLC0, hLS0, hp0, hp1, hp2, hp3, hp4, hp5⟩ := hv
  have hK := hG.1
  have hx := Bd.exec
  have hb := Bd.bytes
  have hr := Bd.returns
  have hts := atoms_spec (ws := (jw yX0_put cX0_put 2 none)) Bd.pre
  have htw : ∀ w ∈ jWl, w.before _ s = true := fun w h => hts w (List.mem_cons_of_mem _ h)
  have hown : s.vm.findClass RX0 = some m.cls := findClass_of_methodNamed Bd.named
  have hlocks := Bd.notSynchronized
  obtain ⟨Q, hQ⟩ : ∃ Q, Q = MQ below (va_Qv (S := Int32 × Nat × Nat × jT) (fun u => 0 ≤ u.1.toInt ∧ u.1.toInt ≤ u.2.2.1 ∧ n_pa ≤ u.2.2.1 ∧ u.2.2.1 ≤ 128 ∧ jPw u.2.2.1 ∧ u.1.toInt = pc.toInt + 1) (fun u t => jRa (dC, dI) B base G0 u.2.2.2 EX0_putS H0 ((u.2.2.1 - n_pa) / 16) (2 * (u.2.2.1 - n_pa)) [(r0, 2, 1, .int u.1), (r0, 2, 0, .ref u.2.1)] t.heap ∧ u.2.2.2 u.2.1 = some (196, u.2.2.1) ∧ (jNk [0, 1, 2, 3, 4, 5, 6, 7, 8, 9, 10, 11, 12, 13, 14, 15, 16]) G0 u.2.2.2 ∧ jOw (dC, dI) G0 2 r0 H0 t.heap) (jA base)) ([.ref r0, .int a1] : List Value).toArray s (LC - H0.size) (LS - jTot H0) (jA base) := ⟨_, rfl⟩
  rw [← hQ]
  have hl := lv_entry ([.ref r0, .int a1]) (n := 2) (Nat.le_of_ble_eq_true rfl)
  rw [lg_entry_eq]
  generalize (lg_sl ([.ref r0, .int a1]) ++ List.replicate (2 - (lg_sl ([.ref r0, .int a1])).length) Slot.unset).toArray = ls at hl ⊢
  have hl : lv_has ls 2 [(0, .ref r0), (1, .int a1)] := hl
  generalize hR : (headSpec (jw yX0_put cX0_put 2 none) ({ frames := 2, cells := LC - H0.size, slots := LS - jTot H0, locals := 62 })).room = R
  subst hH0
  have hh : jSt (dC, dI) B base G0 G0 EX0_putS s.heap 0 0 [(r0, 2, 1, .int pc), (r0, 2, 0, .ref pa)] [] [] s.heap [] := jSt.start hX hP0 jMc.nil jIs.nil
  clear hX hP0
  have hk0 : (0 : Int32).toInt = 0 := by decide
  have hk1 : (1 : Int32).toInt = 1 := by decide
  have hk2 : (2 : Int32).toInt = 2 := by decide
  have hk1000000 : (1000000 : Int32).toInt = 1000000 := by decide
  have hly_2_0 := htw (u_lay RX0 TX0 0) (jWc_wsX00 _ (u_in_lay (by decide)))
  have hly_2_1 := htw (u_lay RX0 TX0 1) (jWc_wsX00 _ (u_in_lay (by decide)))
  have hlk_19 := (htw (.fieldLink RX0 19 "ProofServer$Bytes" "count" "I") (jWr_16 _ (List.mem_of_getElem? (i := 3) rfl)))
  have hlk_13 := (htw (.fieldLink RX0 13 "ProofServer$Bytes" "row" "[B") (jWr_3 _ (List.mem_of_getElem? (i := 10) rfl)))
  have hcs_23 := htw (.constant RX0 23 1000000) (jWr_16 _ (List.mem_of_getElem? (i := 4) rfl))
  have hrg_a1 := jb_rng a1
  have hbs : base ≤ s.heap.size := Nat.le_of_lt (Nat.lt_of_le_of_lt (hh.ab hg_r0).1 (hh.ab hg_r0).2)
  have hRc : R.cells = LC - s.heap.size := by rw [← hR]; rfl
  have hRs : R.slots = LS - jTot s.heap := by rw [← hR]; rfl
  have hh_1 := hh.addI (jOw.ie (dC := dC) (dI := dI) (G0 := G0) (k := 2) (r := r0) (H0 := s.heap) (F := [(2, 0), (2, 1)]) (C := RX0) (T := TX0) (N := 2) rfl (by decide) hh.2.2.2.2.1 (jOw.rf))
  clear hh
  refine lv_aload_n hx hb dX0_put_0 rfl (lv_at hl 0 rfl) ?_
  refine j7_read hx hb hown hK (C := RX0) (T := TX0) (N := 2) rfl hly_2_1 hlk_19 (hh_1.at 0 rfl) dX0_put_1 ?_
  refine lv_aload_n hx hb dX0_put_4 rfl (lv_at hl 0 rfl) ?_
  refine j7_read hx hb hown hK (C := RX0) (T := TX0) (N := 2) rfl hly_2_0 hlk_13 (hh_1.at 1 rfl) dX0_put_5 ?_
  refine j7_len hx hb hK hh_1 hB196 0 rfl (by decide) hg_pa (by omega) dX0_put_8 (fun z_2 hz_2 => ?_)
  refine lv_icmp_lt (tgt := 39) hx hb dX0_put_9 (by decide) (fun c_3 => ?_) (fun c_3 => ?_)
  · skip
    have c_3' : pc.toInt < z_2.toInt := jb_lt (rfl) (rfl) c_3
    refine lv_aload_n hx hb dX0_put_39 rfl (lv_at hl 0 rfl) ?_
    refine j7_read hx hb hown hK (C := RX0) (T := TX0) (N := 2) rfl hly_2_1 hlk_19 (hh_1.at 0 rfl) dX0_put_40 ?_
    refine lv_if_lt (tgt := 79) hx hb dX0_put_43 (by decide) (fun c_4 => ?_) (fun c_4 => ?_)
    · skip
      have c_4' : pc.toInt < 0 := jb_lt (rfl) ((by decide)) c_4
      exact absurd c_4' (by omega)
    · skip
      have c_4' : pc.toInt ≥ 0 := jb_lt_n (rfl) ((by decide)) c_4
      refine lv_aload_n hx hb dX0_put_46 rfl (lv_at hl 0 rfl) ?_
      refine j7_read hx hb hown hK (C := RX0) (T := TX0) (N := 2) rfl hly_2_1 hlk_19 (hh_1.at 0 rfl) dX0_put_47 ?_
      refine lv_aload_n hx hb dX0_put_50 rfl (lv_at hl 0 rfl) ?_
      refine j7_read hx hb hown hK (C := RX0) (T := TX0) (N := 2) rfl hly_2_0 hlk_13 (hh_1.at 1 rfl) dX0_put_51 ?_
      refine j7_len hx hb hK hh_1 hB196 0 rfl (by decide) hg_pa (by omega) dX0_put_54 (fun z_5 hz_5 => ?_)
      refine lv_icmp_ge (tgt := 79) hx hb dX0_put_55 (by decide) (fun c_6 => ?_) (fun c_6 => ?_)
      · skip
        have c_6' : pc.toInt ≥ z_5.toInt := jb_ge (rfl) (rfl) c_6
        exact absurd c_6' (by omega)
      · skip
        have c_6' : pc.toInt < z_5.toInt := jb_ge_n (rfl) (rfl) c_6
        refine lv_aload_n hx hb dX0_put_58 rfl (lv_at hl 0 rfl) ?_
        refine j7_read hx hb hown hK (C := RX0) (T := TX0) (N := 2) rfl hly_2_0 hlk_13 (hh_1.at 1 rfl) dX0_put_59 ?_
        refine lv_aload_n hx hb dX0_put_62 rfl (lv_at hl 0 rfl) ?_
        refine j7_read hx hb hown hK (C := RX0) (T := TX0) (N := 2) rfl hly_2_1 hlk_19 (hh_1.at 0 rfl) dX0_put_63 ?_
        refine lv_iload_n hx hb dX0_put_66 rfl (lv_at hl 1 rfl) ?_
        refine lv_i2b hx hb dX0_put_67 rfl ?_
        refine lv_topi (fun z_7 ez_7 => ?_)
        refine j7_bastF hx hb hK hh_1 hB hB196 0 rfl (by decide) (by decide) rfl rfl rfl hg_pa (x := pc.toInt) (rfl) (by omega) dX0_put_68 (fun H_8 locs_8 hh_8 => ?_)
        clear hh_1
        refine lv_aload_n hx hb dX0_put_69 rfl (lv_at hl 0 rfl) ?_
        refine lv_dup hx hb dX0_put_70 rfl ?_
        refine j7_read hx hb hown hK (C := RX0) (T := TX0) (N := 2) rfl hly_2_1 hlk_19 (hh_8.at 0 rfl) dX0_put_71 ?_
        refine lv_iconst (v := 1) hx hb dX0_put_74 (by decide) ?_
        refine lv_iadd hx hb dX0_put_75 ?_
        refine lv_topi (fun z_9 ez_9 => ?_)
        have hz_9 : z_9.toInt = pc.toInt + 1 := by rw [ez_9]; exact jb_iadd2 (rfl) ((by decide)) (by omega)
        have hd_11 := hh_8.iv 0 rfl
        have hh_12 := hh_8.sub (L1 := [(r0, 2, 1, .int pc), (r0, 2, 0, .ref pa)]) [0, 1] rfl (M1 := []) [] rfl (I1 := []) [] rfl
        clear hh_8
        refine j7_putX hx hb hown hK hh_12 hB hAp hB2 (C := RX0) (T := TX0) (N := 2) rfl (by decide) hg_r0 (i := 1) (by decide) hly_2_1 rfl hlk_19 rfl (ty := .int) (v := .int z_9) (by decide +kernel) rfl rfl (⟨_, rfl, by omega, by omega, by omega⟩) rfl (L1 := [(r0, 2, 0, .ref pa)]) [1] rfl rfl rfl dX0_put_76 (fun H_10 locs_10 hr_10 hh_10 => ?_)
        clear hh_12
        have hd_11n := jOw.put hd_11 hr_10
        have hh_13 := hh_10.addI (jOw.ie (dC := dC) (dI := dI) (G0 := G0) (k := 2) (r := r0) (H0 := s.heap) (F := [(2, 0), (2, 1)]) (C := RX0) (T := TX0) (N := 2) rfl (by decide) hh_10.2.2.2.2.1 (hd_11n))
        clear hh_10
        clear hd_11 hd_11n hr_10
        have hsz_14 := hh_13.2.2.2.2.2.1
        have htt_14 := hh_13.2.2.2.2.2.2.1
        refine W.room (fun hrc_14 hrs_14 => ?_)
        refine W.widen (k := LC - s.heap.size) (n := LS - jTot s.heap) (by omega) (by omega) ?_
        rw [hQ]
        exact W.vret hx hb hr (fun t ht hW => ⟨⟨(z_9, pa, n_pa, G0), rfl, by (try dsimp only); exact ⟨(by first | omega | rfl | assumption | fail), (by first | omega | rfl | assumption | fail), (by first | omega | rfl | assumption | fail), (by first | omega | rfl | assumption | fail), (by first | assumption | fail | omega), (by first | omega | rfl | assumption | fail)⟩, ⟨hh_13.ra (by first | omega | (simp only; omega)) (by first | omega | (simp only; omega)) (M1 := [(r0, 2, 1, .int z_9), (r0, 2, 0, .ref pa)]) [0, 1] rfl ht, hg_pa, jNk.rf, by rw [ht]; exact hh_13.iv 0 rfl⟩⟩, by rw [ht]; try exact hh_13.1.1, fun q h9 hq => by rw [ht]; try exact hh_13.1.2.1 q h9 hq⟩) hh_13.1.2.2 dX0_put_79
  · skip
    have c_3' : pc.toInt ≥ z_2.toInt := jb_lt_n (rfl) (rfl) c_3
    refine lv_aload_n hx hb dX0_put_12 rfl (lv_at hl 0 rfl) ?_
    refine j7_read hx hb hown hK (C := RX0) (T := TX0) (N := 2) rfl hly_2_1 hlk_19 (hh_1.at 0 rfl) dX0_put_13 ?_
    refine lv_ldc hx hb hown hcs_23 dX0_put_16 ?_
    refine lv_icmp_ge (tgt := 39) hx hb dX0_put_18 (by decide) (fun c_15 => ?_) (fun c_15 => ?_)
    · skip
      have c_15' : pc.toInt ≥ 1000000 := jb_ge (rfl) ((by decide)) c_15
      exact absurd c_15' (by omega)
    · skip
      have c_15' : pc.toInt < 1000000 := jb_ge_n (rfl) ((by decide)) c_15
      refine lv_aload_n hx hb dX0_put_21 rfl (lv_at hl 0 rfl) ?_
      refine lv_aload_n hx hb dX0_put_22 rfl (lv_at hl 0 rfl) ?_
      refine j7_read hx hb hown hK (C := RX0) (T := TX0) (N := 2) rfl hly_2_0 hlk_13 (hh_1.at 1 rfl) dX0_put_23 ?_
      refine lv_iconst (v := 2) hx hb dX0_put_26 (by decide) ?_
      refine lv_aload_n hx hb dX0_put_27 rfl (lv_at hl 0 rfl) ?_
      refine j7_read hx hb hown hK (C := RX0) (T := TX0) (N := 2) rfl hly_2_0 hlk_13 (hh_1.at 1 rfl) dX0_put_28 ?_
      refine j7_len hx hb hK hh_1 hB196 0 rfl (by decide) hg_pa (by omega) dX0_put_31 (fun z_16 hz_16 => ?_)
      refine lv_imul hx hb dX0_put_32 ?_
      refine lv_topi (fun z_17 ez_17 => ?_)
      have hz_17 : z_17.toInt = 2 * z_16.toInt := by rw [ez_17]; exact jb_imul2 ((by decide)) (rfl) (by omega)
      have hpq := hp4.h128 (by omega)
      obtain ⟨nc_19, enc_19⟩ : ∃ q : Nat, q = (z_17.toInt).toNat := ⟨_, rfl⟩
      have hsz_18 := hh_1.2.2.2.2.2.1
      have htt_18 := hh_1.2.2.2.2.2.2.1
      refine j7_copyb (LC := LC) (LS := LS) (n1 := nc_19) ⟨hx, hb, hml, hown, hts⟩ hK hG hh_1 hB hB196 (by decide) hbs hg_pa (by omega) (by omega) (by omega) (by omega) (by omega) hRc hRs (va_cwS 2 hts (jgS (jWr_16 _ (List.mem_of_getElem? (i := 5) rfl)) (jWr_16 _ (List.mem_of_getElem? (i := 6) rfl)) (jWr_16 _ (List.mem_of_getElem? (i := 7) rfl)) (jWr_16 _ (List.mem_of_getElem? (i := 8) rfl))) rfl rfl rfl (by decide +kernel) ⟨by rw [← hR]; exact Nat.le_of_ble_eq_true rfl, by rw [← hR]; exact Nat.le_of_ble_eq_true rfl⟩) hl.1 (Nat.le_of_ble_eq_true rfl) dX0_put_33 (fun H_18 locs_18 hsy_18 hty_18 hh_18 => ?_)
      have hN_18 : (jNk [0, 1, 2, 3, 4, 5, 6, 7, 8, 9, 10, 11, 12, 13, 14, 15, 16]) G0 (va_up G0 s.heap.size (some (196, nc_19))) := jNk.new (by decide)
      have hgn_18 : (va_up G0 s.heap.size (some (196, nc_19))) s.heap.size = some (196, nc_19) := jUp_self
      have hle_18 : jLe G0 (va_up G0 s.heap.size (some (196, nc_19))) := jLe.new hh_1.2.1.fresh
      generalize va_up G0 s.heap.size (some (196, nc_19)) = G_18 at hN_18 hgn_18 hle_18 hh_18
      clear hh_1
      have hNn_18 : (jNk [0, 1, 2, 3, 4, 5, 6, 7, 8, 9, 10, 11, 12, 13, 14, 15, 16]) G0 G_18 := (jNk.rf).tr hN_18
      have hg_20 := hle_18 _ _ hg_r0
      have hg_21 := hle_18 _ _ hg_pa
      have hpd : jPw nc_19 := jPw.dbl hp4 (by omega) (by omega)
      have hpe := hpd.le
      have hd_23 := hh_18.iv 0 rfl
      have hh_24 := hh_18.sub (L1 := [(r0, 2, 1, .int pc), (r0, 2, 0, .ref pa)]) [0, 1] rfl (M1 := []) [] rfl (I1 := []) [] rfl
      clear hh_18
      refine j7_putX hx hb hown hK hh_24 hB hAp hB2 (C := RX0) (T := TX0) (N := 2) rfl (by decide) hg_20 (i := 0) (by decide) hly_2_0 rfl hlk_13 rfl (ty := (.array .byte)) (v := .ref s.heap.size) (by decide +kernel) rfl rfl (jBr.mk6 (by omega) hgn_18 (by omega) (by omega) (fun h9 => by first | assumption) (by omega)) rfl (L1 := [(r0, 2, 1, .int pc)]) [0] rfl rfl rfl dX0_put_36 (fun H_22 locs_22 hr_22 hh_22 => ?_)
      clear hh_24
      have hd_23n := jOw.put hd_23 hr_22
      have hh_25 := hh_22.addI (jOw.ie (dC := dC) (dI := dI) (G0 := G0) (k := 2) (r := r0) (H0 := s.heap) (F := [(2, 0), (2, 1)]) (C := RX0) (T := TX0) (N := 2) rfl (by decide) hh_22.2.2.2.2.1 (hd_23n))
      clear hh_22
      clear hd_23 hd_23n hr_22
      refine lv_aload_n hx hb dX0_put_39 rfl (lv_at hl 0 rfl) ?_
      refine j7_read hx hb hown hK (C := RX0) (T := TX0) (N := 2) rfl hly_2_1 hlk_19 (hh_25.at 1 rfl) dX0_put_40 ?_
      refine lv_if_lt (tgt := 79) hx hb dX0_put_43 (by decide) (fun c_26 => ?_) (fun c_26 => ?_)
      · skip
        have c_26' : pc.toInt < 0 := jb_lt (rfl) ((by decide)) c_26
        exact absurd c_26' (by omega)
      · skip
        have c_26' : pc.toInt ≥ 0 := jb_lt_n (rfl) ((by decide)) c_26
        refine lv_aload_n hx hb dX0_put_46 rfl (lv_at hl 0 rfl) ?_
        refine j7_read hx hb hown hK (C := RX0) (T := TX0) (N := 2) rfl hly_2_1 hlk_19 (hh_25.at 1 rfl) dX0_put_47 ?_
        refine lv_aload_n hx hb dX0_put_50 rfl (lv_at hl 0 rfl) ?_
        refine j7_read hx hb hown hK (C := RX0) (T := TX0) (N := 2) rfl hly_2_0 hlk_13 (hh_25.at 0 rfl) dX0_put_51 ?_
        refine j7_len hx hb hK hh_25 hB196 0 rfl (by decide) hgn_18 (by omega) dX0_put_54 (fun z_27 hz_27 => ?_)
        refine lv_icmp_ge (tgt := 79) hx hb dX0_put_55 (by decide) (fun c_28 => ?_) (fun c_28 => ?_)
        · skip
          have c_28' : pc.toInt ≥ z_27.toInt := jb_ge (rfl) (rfl) c_28
          exact absurd c_28' (by omega)
        · skip
          have c_28' : pc.toInt < z_27.toInt := jb_ge_n (rfl) (rfl) c_28
          refine lv_aload_n hx hb dX0_put_58 rfl (lv_at hl 0 rfl) ?_
          refine j7_read hx hb hown hK (C := RX0) (T := TX0) (N := 2) rfl hly_2_0 hlk_13 (hh_25.at 0 rfl) dX0_put_59 ?_
          refine lv_aload_n hx hb dX0_put_62 rfl (lv_at hl 0 rfl) ?_
          refine j7_read hx hb hown hK (C := RX0) (T := TX0) (N := 2) rfl hly_2_1 hlk_19 (hh_25.at 1 rfl) dX0_put_63 ?_
          refine lv_iload_n hx hb dX0_put_66 rfl (lv_at hl 1 rfl) ?_
          refine lv_i2b hx hb dX0_put_67 rfl ?_
          refine lv_topi (fun z_29 ez_29 => ?_)
          refine j7_bastF hx hb hK hh_25 hB hB196 0 rfl (by decide) (by decide) rfl rfl rfl hgn_18 (x := pc.toInt) (rfl) (by omega) dX0_put_68 (fun H_30 locs_30 hh_30 => ?_)
          clear hh_25
          refine lv_aload_n hx hb dX0_put_69 rfl (lv_at hl 0 rfl) ?_
          refine lv_dup hx hb dX0_put_70 rfl ?_
          refine j7_read hx hb hown hK (C := RX0) (T := TX0) (N := 2) rfl hly_2_1 hlk_19 (hh_30.at 1 rfl) dX0_put_71 ?_
          refine lv_iconst (v := 1) hx hb dX0_put_74 (by decide) ?_
          refine lv_iadd hx hb dX0_put_75 ?_
          refine lv_topi (fun z_31 ez_31 => ?_)
          have hz_31 : z_31.toInt = pc.toInt + 1 := by rw [ez_31]; exact jb_iadd2 (rfl) ((by decide)) (by omega)
          have hd_33 := hh_30.iv 0 rfl
          have hh_34 := hh_30.sub (L1 := [(r0, 2, 0, .ref s.heap.size), (r0, 2, 1, .int pc)]) [0, 1] rfl (M1 := []) [] rfl (I1 := []) [] rfl
          clear hh_30
          refine j7_putX hx hb hown hK hh_34 hB hAp hB2 (C := RX0) (T := TX0) (N := 2) rfl (by decide) hg_20 (i := 1) (by decide) hly_2_1 rfl hlk_19 rfl (ty := .int) (v := .int z_31) (by decide +kernel) rfl rfl (⟨_, rfl, by omega, by omega, by omega⟩) rfl (L1 := [(r0, 2, 0, .ref s.heap.size)]) [0] rfl rfl rfl dX0_put_76 (fun H_32 locs_32 hr_32 hh_32 => ?_)
          clear hh_34
          have hd_33n := jOw.put hd_33 hr_32
          have hh_35 := hh_32.addI (jOw.ie (dC := dC) (dI := dI) (G0 := G0) (k := 2) (r := r0) (H0 := s.heap) (F := [(2, 0), (2, 1)]) (C := RX0) (T := TX0) (N := 2) rfl (by decide) hh_32.2.2.2.2.1 (hd_33n))
          clear hh_32
          clear hd_33 hd_33n hr_32
          have hsz_36 := hh_35.2.2.2.2.2.1
          have htt_36 := hh_35.2.2.2.2.2.2.1
          refine W.room (fun hrc_36 hrs_36 => ?_)
          refine W.widen (k := LC - s.heap.size) (n := LS - jTot s.heap) (by omega) (by omega) ?_
          rw [hQ]
          exact W.vret hx hb hr (fun t ht hW => ⟨⟨(z_31, s.heap.size, nc_19, G_18), rfl, by (try dsimp only); exact ⟨(by first | omega | rfl | assumption | fail), (by first | omega | rfl | assumption | fail), (by first | omega | rfl | assumption | fail), (by first | omega | rfl | assumption | fail), (by first | assumption | fail | omega), (by first | omega | rfl | assumption | fail)⟩, ⟨hh_35.ra (by first | omega | (simp only; omega)) (by first | omega | (simp only; omega)) (M1 := [(r0, 2, 1, .int z_31), (r0, 2, 0, .ref s.heap.size)]) [0, 1] rfl ht, hgn_18, hNn_18, by rw [ht]; exact hh_35.iv 0 rfl⟩⟩, by rw [ht]; try exact hh_35.1.1, fun q h9 hq => by rw [ht]; try exact hh_35.1.2.1 q h9 hq⟩) hh_35.1.2.2 dX0_put_79
set_option maxHeartbeats 4000000 in
set_option maxRecDepth 20000 in
theorem uX0_textS (l : Launch) (dC : Nat → ClassId) (dI : Nat → Nat → Nat) (ca : Nat → ClassId) (base : Nat) (B : jF) (hB : jBok B) (hAp : jAp (dC, dI)) (hB2 : ∀ n G a H, B 2 n G a H ↔ jOb (dC, dI) 2 2 (F2 n G) a H) (hB196 : ∀ n G a H, B 196 n G a H ↔ jAr (dC, dI) (ca 0) (fun j z => jBf j z) n a H) (G0 : jT) (H0 : Heap) (r0 : Nat) (r1 : Nat) (n1 : Nat) (pc : Int32) (pa : Nat) (n_pa : Nat) (LC LS : Nat) : Met l yX0_text (jw yX0_text cX0_text 3 none) ({ frames := 4, cells := LC - H0.size, slots := LS - jTot H0, locals := 141 }) (va_Pc [.ref r0, .ref r1] (fun U => U.heap = H0 ∧ jX B base G0 [] H0 ∧ jG dC dI ca base U ∧ jStr base r1 n1 U H0 ∧ G0 r0 = some (2, 0) ∧ G0 pa = some (196, n_pa) ∧ jP (dC, dI) G0 H0 [(r0, 2, 1, .int pc), (r0, 2, 0, .ref pa)] ∧ H0.size + (128 - n_pa) / 16 + 1 ≤ LC ∧ jTot H0 + 2 * (128 - n_pa) ≤ LS ∧ 0 ≤ pc.toInt ∧ pc.toInt ≤ n_pa ∧ 16 ≤ n_pa ∧ n_pa ≤ 128 ∧ jPw n_pa ∧ pc.toInt + n1 ≤ 128)) (va_Qv (S := Int32 × Nat × Nat × jT) (fun u => 0 ≤ u.1.toInt ∧ u.1.toInt ≤ u.2.2.1 ∧ n_pa ≤ u.2.2.1 ∧ u.2.2.1 ≤ 128 ∧ jPw u.2.2.1 ∧ u.1.toInt = pc.toInt + n1) (fun u t => jRa (dC, dI) B base G0 u.2.2.2 EX0_textS H0 ((u.2.2.1 - n_pa) / 16) (2 * (u.2.2.1 - n_pa)) [(r0, 2, 1, .int u.1), (r0, 2, 0, .ref u.2.1)] t.heap ∧ u.2.2.2 u.2.1 = some (196, u.2.2.1) ∧ (jNk [0, 1, 2, 3, 4, 5, 6, 7, 8, 9, 10, 11, 12, 13, 14, 15, 16]) G0 u.2.2.2 ∧ jOw (dC, dI) G0 2 r0 H0 t.heap) (jA base)) (LC - H0.size) (LS - jTot H0) (jA base) := by
  refine Met.ofW (cc := cX0_text) (maxL := 3) (ret := none) (by decide) rfl ?_
  intro p e s m args below meth c s₁ Bd hml hv
  obtain ⟨rfl, hH0, hX, hG, hstr_r1, hg_r0, hg_pa, hP0, hLC0, hLS0, hp0, hp1, hp2, hp3, hp4, hp5⟩ := hv
  have hK := hG.1
  have hx := Bd.exec
  have hb := Bd.bytes
  have hr := Bd.returns
  have hts := atoms_spec (ws := (jw yX0_text cX0_text 3 none)) Bd.pre
  have htw : ∀ w ∈ jWl, w.before _ s = true := fun w h => hts w (List.mem_cons_of_mem _ h)
  have hown : s.vm.findClass RX0 = some m.cls := findClass_of_methodNamed Bd.named
  have hlocks := Bd.notSynchronized
  obtain ⟨Q, hQ⟩ : ∃ Q, Q = MQ below (va_Qv (S := Int32 × Nat × Nat × jT) (fun u => 0 ≤ u.1.toInt ∧ u.1.toInt ≤ u.2.2.1 ∧ n_pa ≤ u.2.2.1 ∧ u.2.2.1 ≤ 128 ∧ jPw u.2.2.1 ∧ u.1.toInt = pc.toInt + n1) (fun u t => jRa (dC, dI) B base G0 u.2.2.2 EX0_textS H0 ((u.2.2.1 - n_pa) / 16) (2 * (u.2.2.1 - n_pa)) [(r0, 2, 1, .int u.1), (r0, 2, 0, .ref u.2.1)] t.heap ∧ u.2.2.2 u.2.1 = some (196, u.2.2.1) ∧ (jNk [0, 1, 2, 3, 4, 5, 6, 7, 8, 9, 10, 11, 12, 13, 14, 15, 16]) G0 u.2.2.2 ∧ jOw (dC, dI) G0 2 r0 H0 t.heap) (jA base)) ([.ref r0, .ref r1] : List Value).toArray s (LC - H0.size) (LS - jTot H0) (jA base) := ⟨_, rfl⟩
  rw [← hQ]
  have hl := lv_entry ([.ref r0, .ref r1]) (n := 3) (Nat.le_of_ble_eq_true rfl)
  rw [lg_entry_eq]
  generalize (lg_sl ([.ref r0, .ref r1]) ++ List.replicate (3 - (lg_sl ([.ref r0, .ref r1])).length) Slot.unset).toArray = ls at hl ⊢
  have hl : lv_has ls 3 [(0, .ref r0), (1, .ref r1)] := hl
  generalize hR : (headSpec (jw yX0_text cX0_text 3 none) ({ frames := 4, cells := LC - H0.size, slots := LS - jTot H0, locals := 141 })).room = R
  subst hH0
  have hh : jSt (dC, dI) B base G0 G0 EX0_textS s.heap 0 0 [(r0, 2, 1, .int pc), (r0, 2, 0, .ref pa)] [] [] s.heap [] := jSt.start hX hP0 jMc.nil jIs.nil
  clear hX hP0
  have hk0 : (0 : Int32).toInt = 0 := by decide
  have hk1 : (1 : Int32).toInt = 1 := by decide
  have hbs : base ≤ s.heap.size := Nat.le_of_lt (Nat.lt_of_le_of_lt (hh.ab hg_r0).1 (hh.ab hg_r0).2)
  have hRc : R.cells = LC - s.heap.size := by rw [← hR]; rfl
  have hRs : R.slots = LS - jTot s.heap := by rw [← hR]; rfl
  have hh_1 := hh.addI (jOw.ie (dC := dC) (dI := dI) (G0 := G0) (k := 2) (r := r0) (H0 := s.heap) (F := [(2, 0), (2, 1)]) (C := RX0) (T := TX0) (N := 2) rfl (by decide) hh.2.2.2.2.1 (jOw.rf))
  clear hh
  refine lv_iconst (v := 0) hx hb dX0_text_0 (by decide) ?_
  refine lv_istore_n (lv' := [(2, .int 0), (0, .ref r0), (1, .ref r1)]) hx hb dX0_text_1 rfl hl (by decide) rfl (fun ls hl => ?_)
  have L2 : ∀ (N : Nat) (Gx_2 : jT) (zcx_2 : Nat) (zsx_2 : Nat) (v2_2 : Int32) (wc_2 : Int32) (wr_2 : Nat) (m_wr_2 : Nat) (H_2 : Heap) (locs_2 : List Loc), jSt (dC, dI) B base G0 Gx_2 EX0_textS s.heap zcx_2 zsx_2 [(r0, 2, 1, .int wc_2), (r0, 2, 0, .ref wr_2)] [] [([(2, 0), (2, 1)], jOw (dC, dI) G0 2 r0 s.heap)] H_2 locs_2 → (jNk [0, 1, 2, 3, 4, 5, 6, 7, 8, 9, 10, 11, 12, 13, 14, 15, 16]) G0 Gx_2 → jLe G0 Gx_2 → Gx_2 wr_2 = some (196, m_wr_2) → (0 ≤ wc_2.toInt ∧ wc_2.toInt ≤ m_wr_2 ∧ n_pa ≤ m_wr_2 ∧ m_wr_2 ≤ 128 ∧ jPw m_wr_2 ∧ zcx_2 ≤ (m_wr_2 - n_pa) / 16 ∧ zsx_2 ≤ 2 * (m_wr_2 - n_pa) ∧ 0 ≤ v2_2.toInt ∧ v2_2.toInt ≤ n1 ∧ wc_2.toInt = pc.toInt + v2_2.toInt) → (n1 - v2_2.toInt : Int) < N → ∀ ls : Array Slot, lv_has ls 3 [(0, .ref r0), (1, .ref r1), (2, .int v2_2)] → W p l e R s m ([.ref r0, .ref r1] : List Value).toArray below meth c H_2 locs_2 zcx_2 zsx_2 Q (F0 m 2 ls []) := by
    intro N
    induction N with
    | zero => intro Gx_2 zcx_2 zsx_2 v2_2 wc_2 wr_2 m_wr_2 H_2 locs_2 hh_2 hN_2 hle_2 hg_wr_2 hi_2 hm; exact absurd hm (by omega)
    | succ N L2 =>
      intro Gx_2 zcx_2 zsx_2 v2_2 wc_2 wr_2 m_wr_2 H_2 locs_2 hh_2 hN_2 hle_2 hg_wr_2 hi_2 hm_2 ls hl
      have hg_3 := hle_2 _ _ hg_r0
      obtain ⟨hi_2_0, hi_2_1, hi_2_2, hi_2_3, hi_2_4, hi_2_5, hi_2_6, hi_2_7, hi_2_8, hi_2_9⟩ := hi_2
      refine lv_iload_n hx hb dX0_text_2 rfl (lv_at hl 2 rfl) ?_
      refine lv_aload_n hx hb dX0_text_3 rfl (lv_at hl 1 rfl) ?_
      have hsz_6 := hh_2.2.2.2.2.2.1
      have htt_6 := hh_2.2.2.2.2.2.2.1
      refine W.room (fun hrc_6 hrs_6 => ?_)
      have hsz_5 := hh_2.2.2.2.2.2.1
      have htt_5 := hh_2.2.2.2.2.2.2.1
      refine W.room (fun hrc_5 hrs_5 => ?_)
      refine vp_callSi (W.runV (As := []) (rest := [.int v2_2]) ⟨hx, hb, hml, hown, hts⟩ (wJ0_length_8abf5 l dC dI ca base H_2 r1 n1) (cwV 0 hts (jgV (jWr_26 _ (List.mem_of_getElem? (i := 1) rfl)) (jWr_5 _ (List.mem_of_getElem? (i := 13) rfl)) (jWr_5 _ (List.mem_of_getElem? (i := 14) rfl)) (jWr_5 _ (List.mem_of_getElem? (i := 15) rfl)) (jWr_5 _ (List.mem_of_getElem? (i := 16) rfl))) rfl rfl rfl (by decide +kernel) ⟨by rw [← hR]; exact Nat.le_of_ble_eq_true rfl, by rw [← hR]; exact Nat.le_of_ble_eq_true rfl⟩) ⟨fun a U g mk q => by obtain ⟨q0, q1, q2, qK, q9⟩ := q; exact ⟨q0, q1, (q2.moved (Vm.Alike.refl U.vm)), jG.calling g mk a qK, q9⟩, jStr_recv hstr_r1 hh_2.1, fun U hU hW => ⟨rfl, hU, (hstr_r1.moved hW.alike).kept hh_2.1.2.1, hG.step hW hU hh_2.1, by omega⟩⟩ rfl rfl hl.1 rfl (lv_room (Nat.le_of_ble_eq_true rfl)) dX0_text_4 ⟨by rw [hRc]; omega, by rw [hRs]; omega⟩) (fun r_4 hr_4 => ?_)
      refine lv_icmp_ge (tgt := 25) hx hb dX0_text_7 (by decide) (fun c_7 => ?_) (fun c_7 => ?_)
      · skip
        have c_7' : v2_2.toInt ≥ r_4.toInt := jb_ge (rfl) (rfl) c_7
        have hsz_8 := hh_2.2.2.2.2.2.1
        have htt_8 := hh_2.2.2.2.2.2.2.1
        refine W.room (fun hrc_8 hrs_8 => ?_)
        refine W.widen (k := LC - s.heap.size) (n := LS - jTot s.heap) (by omega) (by omega) ?_
        rw [hQ]
        exact W.vret hx hb hr (fun t ht hW => ⟨⟨(wc_2, wr_2, m_wr_2, Gx_2), rfl, by (try dsimp only); exact ⟨(by first | omega | rfl | assumption | fail), (by first | omega | rfl | assumption | fail), (by first | omega | rfl | assumption | fail), (by first | omega | rfl | assumption | fail), (by first | assumption | fail | omega), (by first | omega | rfl | assumption | fail)⟩, ⟨hh_2.ra (by first | omega | (simp only; omega)) (by first | omega | (simp only; omega)) (M1 := [(r0, 2, 1, .int wc_2), (r0, 2, 0, .ref wr_2)]) [0, 1] rfl ht, hg_wr_2, hN_2, by rw [ht]; exact hh_2.iv 0 rfl⟩⟩, by rw [ht]; try exact hh_2.1.1, fun q h9 hq => by rw [ht]; try exact hh_2.1.2.1 q h9 hq⟩) hh_2.1.2.2 dX0_text_25
      · skip
        have c_7' : v2_2.toInt < r_4.toInt := jb_ge_n (rfl) (rfl) c_7
        refine lv_aload_n hx hb dX0_text_10 rfl (lv_at hl 0 rfl) ?_
        refine lv_aload_n hx hb dX0_text_11 rfl (lv_at hl 1 rfl) ?_
        refine lv_iload_n hx hb dX0_text_12 rfl (lv_at hl 2 rfl) ?_
        have hsz_11 := hh_2.2.2.2.2.2.1
        have htt_11 := hh_2.2.2.2.2.2.2.1
        refine W.room (fun hrc_11 hrs_11 => ?_)
        have hsz_10 := hh_2.2.2.2.2.2.1
        have htt_10 := hh_2.2.2.2.2.2.2.1
        refine W.room (fun hrc_10 hrs_10 => ?_)
        refine vp_callSi (W.runV (As := [.int v2_2]) (rest := [.ref r0]) ⟨hx, hb, hml, hown, hts⟩ (wJ0_charAt_5068e l dC dI ca base H_2 r1 n1 v2_2) (cwV 1 hts (jgV (jWr_26 _ (List.mem_of_getElem? (i := 2) rfl)) (jWr_6 _ (List.mem_of_getElem? (i := 1) rfl)) (jWr_6 _ (List.mem_of_getElem? (i := 2) rfl)) (jWr_5 _ (List.mem_of_getElem? (i := 15) rfl)) (jWr_6 _ (List.mem_of_getElem? (i := 3) rfl))) rfl rfl rfl (by decide +kernel) ⟨by rw [← hR]; exact Nat.le_of_ble_eq_true rfl, by rw [← hR]; exact Nat.le_of_ble_eq_true rfl⟩) ⟨fun a U g mk q => by obtain ⟨q0, q1, q2, qK, q9⟩ := q; exact ⟨q0, q1, (q2.moved (Vm.Alike.refl U.vm)), jG.calling g mk a qK, q9⟩, jStr_recv hstr_r1 hh_2.1, fun U hU hW => ⟨rfl, hU, (hstr_r1.moved hW.alike).kept hh_2.1.2.1, hG.step hW hU hh_2.1, ⟨by omega, by omega, by omega⟩⟩⟩ rfl rfl hl.1 rfl (lv_room (Nat.le_of_ble_eq_true rfl)) dX0_text_13 ⟨by rw [hRc]; omega, by rw [hRs]; omega⟩) (fun r_9 hr_9 => ?_)
        have hsz_12 := hh_2.2.2.2.2.2.1
        have htt_12 := hh_2.2.2.2.2.2.2.1
        refine W.room (fun hrc_12 hrs_12 => ?_)
        refine va_callv (A0 := jA base) (H0 := s.heap) (va_runV (As := [.int r_9]) (rest := []) ⟨hx, hb, hml, hown, hts⟩ (uX0_putS l dC dI ca base B hB hAp hB2 hB196 Gx_2 H_2 r0 r_9 wc_2 wr_2 m_wr_2 LC LS) (cwV 1 hts (jgV (jWr_24 _ (List.mem_of_getElem? (i := 22) rfl)) (jWr_16 _ (List.mem_of_getElem? (i := 0) rfl)) (jWr_16 _ (List.mem_of_getElem? (i := 1) rfl)) (jWr_1 _ (List.mem_of_getElem? (i := 14) rfl)) (jWr_16 _ (List.mem_of_getElem? (i := 2) rfl))) rfl rfl rfl (by decide +kernel) ⟨by rw [← hR]; exact Nat.le_of_ble_eq_true rfl, by rw [← hR]; exact Nat.le_of_ble_eq_true rfl⟩) ⟨fun a U g mk q => by obtain ⟨q0, q1, q2, qK, q10, q11, q12, q13⟩ := q; exact ⟨q0, q1, q2, jG.calling g mk a qK, q10, q11, q12, q13⟩, hh_2.recv (C := RX0) (T := TX0) (N := 2) hB2 rfl (by decide) hg_3 hK, fun U hU hW => ⟨rfl, hU, hh_2.2.1, hG.step hW hU hh_2.1, hg_3, hg_wr_2, (hh_2.2.2.1.sub (L1 := [(r0, 2, 1, .int wc_2), (r0, 2, 0, .ref wr_2)]) [0, 1] rfl), (by omega), (by omega), by first | omega | (refine ⟨?_, ?_, ?_, ?_, ?_, ?_⟩ <;> (first | omega | rfl | assumption | decide | exact Or.inl rfl | exact Or.inr rfl | (simp only; omega)))⟩⟩ rfl rfl hl.1 rfl (lv_room (Nat.le_of_ble_eq_true rfl)) dX0_text_16 ⟨by rw [hRc]; omega, by rw [hRs]; omega⟩) hh_2.1 (fun q _ h => h) (fun q h => h) (fun u_12 t_12 H_12 locs_12 ht_12 hvm_12 hr_13 hb_12 hz_12 hk_12 hS_12 => ?_)
        obtain ⟨qc_12, qa_12, m_qa_12, G_12⟩ := u_12
        rw [ht_12] at hb_12
        simp only at hb_12
        obtain ⟨⟨hb_121, hb_122, hb_123, hb_124, hb_125, hb_126⟩, hgq_12_0, hN_12, hbO_12⟩ := hb_12
        have hh_12 : jSt (dC, dI) B base G0 G_12 EX0_textS s.heap (zcx_2 + ((m_qa_12 - m_wr_2) / 16)) (zsx_2 + (2 * (m_qa_12 - m_wr_2))) [(r0, 2, 1, .int qc_12), (r0, 2, 0, .ref qa_12)] [] [] H_12 locs_12 := (hh_2.callG hb_121 hb_122 hb_123 hb_124 hb_125 hS_12 rfl (L1 := []) [] rfl rfl (M1 := []) [] rfl rfl (I1 := []) [] rfl rfl).more hb_126
        have hNn_12 : (jNk [0, 1, 2, 3, 4, 5, 6, 7, 8, 9, 10, 11, 12, 13, 14, 15, 16]) G0 G_12 := (hN_2).tr hN_12
        have hg_14 := hb_122 _ _ hg_3
        have hd_15 := jOw.tr (hh_2.iv 0 rfl) hh_2.2.2.2.2.1 hbO_12
        have hh_16 := hh_12.addI (jOw.ie (dC := dC) (dI := dI) (G0 := G0) (k := 2) (r := r0) (H0 := s.heap) (F := [(2, 0), (2, 1)]) (C := RX0) (T := TX0) (N := 2) rfl (by decide) hh_12.2.2.2.2.1 (hd_15))
        clear hh_12
        try simp only at hr_13
        obtain ⟨hr_13_0, hr_13_1, hr_13_2, hr_13_3, hr_13_4, hr_13_5⟩ := hr_13
        obtain ⟨z_17, ez_17⟩ : ∃ y : Int32, y = v2_2 + 1 := ⟨_, rfl⟩
        refine lv_iinc (v := z_17) (lv' := [(2, .int z_17), (0, .ref r0), (1, .ref r1)]) hx hb dX0_text_19 hl (k := 2) rfl (by rw [ez_17]; rfl) (by decide) rfl (fun ls hl => ?_)
        have hz_17 : z_17.toInt = v2_2.toInt + 1 := by rw [ez_17]; exact jb_iadd2 (rfl) (by decide) (by omega)
        refine lv_goto (tgt := 2) hx hb dX0_text_22 (by decide) ?_
        refine W.tight (c2 := (zcx_2 + ((m_qa_12 - m_wr_2) / 16))) (n2 := (zsx_2 + (2 * (m_qa_12 - m_wr_2)))) hh_16.2.2.2.2.2.1 hh_16.2.2.2.2.2.2.1 ?_
        exact L2 G_12 (zcx_2 + ((m_qa_12 - m_wr_2) / 16)) (zsx_2 + (2 * (m_qa_12 - m_wr_2))) z_17 qc_12 qa_12 m_qa_12 _ _ hh_16 (hNn_12) ((hle_2).tr hb_122) hgq_12_0 (by first | omega | (refine ⟨?_, ?_, ?_, ?_, ?_, ?_, ?_, ?_, ?_, ?_⟩ <;> (first | omega | rfl | assumption | decide | exact Or.inl rfl | exact Or.inr rfl | (simp only; omega)))) (by omega) _ (lv_sub hl [1, 2, 0] rfl)
  refine W.tight (c2 := 0) (n2 := 0) hh_1.2.2.2.2.2.1 hh_1.2.2.2.2.2.2.1 ?_
  exact L2 (n1 - (0 : Int32).toInt : Int).toNat.succ G0 0 0 0 pc pa n_pa _ _ hh_1 (jNk.rf) (jLe.rf) hg_pa (by first | omega | (refine ⟨?_, ?_, ?_, ?_, ?_, ?_, ?_, ?_, ?_, ?_⟩ <;> (first | omega | rfl | assumption | decide | exact Or.inl rfl | exact Or.inr rfl | (simp only; omega)))) (by omega) _ (lv_sub hl [1, 2, 0] rfl)
set_option maxHeartbeats 4000000 in
set_option maxRecDepth 20000 in
theorem uX0_characterS (l : Launch) (dC : Nat → ClassId) (dI : Nat → Nat → Nat) (ca : Nat → ClassId) (base : Nat) (B : jF) (hB : jBok B) (hAp : jAp (dC, dI)) (hB2 : ∀ n G a H, B 2 n G a H ↔ jOb (dC, dI) 2 2 (F2 n G) a H) (hB196 : ∀ n G a H, B 196 n G a H ↔ jAr (dC, dI) (ca 0) (fun j z => jBf j z) n a H) (G0 : jT) (H0 : Heap) (r0 : Nat) (a1 : Int32) (pc : Int32) (pa : Nat) (n_pa : Nat) (LC LS : Nat) : Met l yX0_character (jw yX0_character cX0_character 2 none) ({ frames := 3, cells := LC - H0.size, slots := LS - jTot H0, locals := 83 }) (va_Pc [.ref r0, .int a1] (fun U => U.heap = H0 ∧ jX B base G0 [] H0 ∧ jG dC dI ca base U ∧ G0 r0 = some (2, 0) ∧ G0 pa = some (196, n_pa) ∧ jP (dC, dI) G0 H0 [(r0, 2, 1, .int pc), (r0, 2, 0, .ref pa)] ∧ H0.size + (128 - n_pa) / 16 + 1 ≤ LC ∧ jTot H0 + 2 * (128 - n_pa) ≤ LS ∧ 0 ≤ pc.toInt ∧ pc.toInt ≤ n_pa ∧ 16 ≤ n_pa ∧ n_pa ≤ 128 ∧ jPw n_pa ∧ pc.toInt + 4 ≤ 128)) (va_Qv (S := Int32 × Nat × Nat × jT) (fun u => 0 ≤ u.1.toInt ∧ u.1.toInt ≤ u.2.2.1 ∧ n_pa ≤ u.2.2.1 ∧ u.2.2.1 ≤ 128 ∧ jPw u.2.2.1 ∧ pc.toInt ≤ u.1.toInt ∧ u.1.toInt ≤ pc.toInt + 4) (fun u t => jRa (dC, dI) B base G0 u.2.2.2 EX0_characterS H0 ((u.2.2.1 - n_pa) / 16) (2 * (u.2.2.1 - n_pa)) [(r0, 2, 1, .int u.1), (r0, 2, 0, .ref u.2.1)] t.heap ∧ u.2.2.2 u.2.1 = some (196, u.2.2.1) ∧ (jNk [0, 1, 2, 3, 4, 5, 6, 7, 8, 9, 10, 11, 12, 13, 14, 15, 16]) G0 u.2.2.2 ∧ jOw (dC, dI) G0 2 r0 H0 t.heap) (jA base)) (LC - H0.size) (LS - jTot H0) (jA base) := by
  refine Met.ofW (cc := cX0_character) (maxL := 2) (ret := none) (by decide) rfl ?_
  intro p e s m args below meth c s₁ Bd hml hv
  obtain ⟨rfl, hH0, hX, hG, hg_r0, hg_pa, hP0, hLC0, hLS0, hp0, hp1, hp2, hp3, hp4, hp5⟩ := hv
  have hK := hG.1
  have hx := Bd.exec
  have hb := Bd.bytes
  have hr := Bd.returns
  have hts := atoms_spec (ws := (jw yX0_character cX0_character 2 none)) Bd.pre
  have htw : ∀ w ∈ jWl, w.before _ s = true := fun w h => hts w (List.mem_cons_of_mem _ h)
  have hown : s.vm.findClass RX0 = some m.cls := findClass_of_methodNamed Bd.named
  have hlocks := Bd.notSynchronized
  obtain ⟨Q, hQ⟩ : ∃ Q, Q = MQ below (va_Qv (S := Int32 × Nat × Nat × jT) (fun u => 0 ≤ u.1.toInt ∧ u.1.toInt ≤ u.2.2.1 ∧ n_pa ≤ u.2.2.1 ∧ u.2.2.1 ≤ 128 ∧ jPw u.2.2.1 ∧ pc.toInt ≤ u.1.toInt ∧ u.1.toInt ≤ pc.toInt + 4) (fun u t => jRa (dC, dI) B base G0 u.2.2.2 EX0_characterS H0 ((u.2.2.1 - n_pa) / 16) (2 * (u.2.2.1 - n_pa)) [(r0, 2, 1, .int u.1), (r0, 2, 0, .ref u.2.1)] t.heap ∧ u.2.2.2 u.2.1 = some (196, u.2.2.1) ∧ (jNk [0, 1, 2, 3, 4, 5, 6, 7, 8, 9, 10, 11, 12, 13, 14, 15, 16]) G0 u.2.2.2 ∧ jOw (dC, dI) G0 2 r0 H0 t.heap) (jA base)) ([.ref r0, .int a1] : List Value).toArray s (LC - H0.size) (LS - jTot H0) (jA base) := ⟨_, rfl⟩
  rw [← hQ]
  have hl := lv_entry ([.ref r0, .int a1]) (n := 2) (Nat.le_of_ble_eq_true rfl)
  rw [lg_entry_eq]
  generalize (lg_sl ([.ref r0, .int a1]) ++ List.replicate (2 - (lg_sl ([.ref r0, .int a1])).length) Slot.unset).toArray = ls at hl ⊢
  have hl : lv_has ls 2 [(0, .ref r0), (1, .int a1)] := hl
  generalize hR : (headSpec (jw yX0_character cX0_character 2 none) ({ frames := 3, cells := LC - H0.size, slots := LS - jTot H0, locals := 83 })).room = R
  subst hH0
  have hh : jSt (dC, dI) B base G0 G0 EX0_characterS s.heap 0 0 [(r0, 2, 1, .int pc), (r0, 2, 0, .ref pa)] [] [] s.heap [] := jSt.start hX hP0 jMc.nil jIs.nil
  clear hX hP0
  have hk0 : (0 : Int32).toInt = 0 := by decide
  have hk1 : (1 : Int32).toInt = 1 := by decide
  have hk6 : (6 : Int32).toInt = 6 := by decide
  have hk12 : (12 : Int32).toInt = 12 := by decide
  have hk18 : (18 : Int32).toInt = 18 := by decide
  have hk63 : (63 : Int32).toInt = 63 := by decide
  have hk128 : (128 : Int32).toInt = 128 := by decide
  have hk192 : (192 : Int32).toInt = 192 := by decide
  have hk224 : (224 : Int32).toInt = 224 := by decide
  have hk240 : (240 : Int32).toInt = 240 := by decide
  have hk2048 : (2048 : Int32).toInt = 2048 := by decide
  have hk65536 : (65536 : Int32).toInt = 65536 := by decide
  have hcs_60 := htw (.constant RX0 60 65536) (jWr_20 _ (List.mem_of_getElem? (i := 15) rfl))
  have hrg_a1 := jb_rng a1
  have hbs : base ≤ s.heap.size := Nat.le_of_lt (Nat.lt_of_le_of_lt (hh.ab hg_r0).1 (hh.ab hg_r0).2)
  have hRc : R.cells = LC - s.heap.size := by rw [← hR]; rfl
  have hRs : R.slots = LS - jTot s.heap := by rw [← hR]; rfl
  have hh_1 := hh.addI (jOw.ie (dC := dC) (dI := dI) (G0 := G0) (k := 2) (r := r0) (H0 := s.heap) (F := [(2, 0), (2, 1)]) (C := RX0) (T := TX0) (N := 2) rfl (by decide) hh.2.2.2.2.1 (jOw.rf))
  clear hh
  refine lv_iload_n hx hb dX0_character_0 rfl (lv_at hl 1 rfl) ?_
  refine lv_sipush (v := 128) hx hb dX0_character_1 (by decide) ?_
  refine lv_icmp_ge (tgt := 13) hx hb dX0_character_4 (by decide) (fun c_2 => ?_) (fun c_2 => ?_)
  · skip
    have c_2' : a1.toInt ≥ 128 := jb_ge (rfl) ((by decide)) c_2
    refine lv_iload_n hx hb dX0_character_13 rfl (lv_at hl 1 rfl) ?_
    refine lv_sipush (v := 2048) hx hb dX0_character_14 (by decide) ?_
    have C98 : ∀ (Gx_3 : jT) (zcx_3 : Nat) (zsx_3 : Nat) (wc_3 : Int32) (wr_3 : Nat) (m_wr_3 : Nat) (H_3 : Heap) (locs_3 : List Loc), jSt (dC, dI) B base G0 Gx_3 EX0_characterS s.heap zcx_3 zsx_3 [(r0, 2, 1, .int wc_3), (r0, 2, 0, .ref wr_3)] [] [([(2, 0), (2, 1)], jOw (dC, dI) G0 2 r0 s.heap)] H_3 locs_3 → (jNk [0, 1, 2, 3, 4, 5, 6, 7, 8, 9, 10, 11, 12, 13, 14, 15, 16]) G0 Gx_3 → jLe G0 Gx_3 → Gx_3 wr_3 = some (196, m_wr_3) → (0 ≤ wc_3.toInt ∧ wc_3.toInt ≤ m_wr_3 ∧ n_pa ≤ m_wr_3 ∧ m_wr_3 ≤ 128 ∧ jPw m_wr_3 ∧ zcx_3 ≤ (m_wr_3 - n_pa) / 16 ∧ zsx_3 ≤ 2 * (m_wr_3 - n_pa) ∧ pc.toInt ≤ wc_3.toInt ∧ wc_3.toInt ≤ pc.toInt + 3) → ∀ ls : Array Slot, lv_has ls 2 [(0, .ref r0), (1, .int a1)] → W p l e R s m ([.ref r0, .int a1] : List Value).toArray below meth c H_3 locs_3 zcx_3 zsx_3 Q (F0 m 98 ls []) := by
      intro Gx_3 zcx_3 zsx_3 wc_3 wr_3 m_wr_3 H_3 locs_3 hh_3 hN_3 hle_3 hg_wr_3 hi_3 ls hl
      have hg_4 := hle_3 _ _ hg_r0
      obtain ⟨hi_3_0, hi_3_1, hi_3_2, hi_3_3, hi_3_4, hi_3_5, hi_3_6, hi_3_7, hi_3_8⟩ := hi_3
      refine lv_aload_n hx hb dX0_character_98 rfl (lv_at hl 0 rfl) ?_
      refine lv_sipush (v := 128) hx hb dX0_character_99 (by decide) ?_
      refine lv_iload_n hx hb dX0_character_102 rfl (lv_at hl 1 rfl) ?_
      refine lv_bipush (v := 63) hx hb dX0_character_103 (by decide) ?_
      refine lv_iand hx hb dX0_character_105 ?_
      refine lv_topi (fun z_5 ez_5 => ?_)
      have hz_5 : 0 ≤ z_5.toInt ∧ z_5.toInt ≤ 63 := by rw [ez_5]; exact jb_and a1 (m := 63) (k := 6) (by decide) (by decide)
      refine lv_ior hx hb dX0_character_106 ?_
      refine lv_topi (fun z_6 ez_6 => ?_)
      have hsz_7 := hh_3.2.2.2.2.2.1
      have htt_7 := hh_3.2.2.2.2.2.2.1
      refine W.room (fun hrc_7 hrs_7 => ?_)
      refine va_callv (A0 := jA base) (H0 := s.heap) (va_runV (As := [.int z_6]) (rest := []) ⟨hx, hb, hml, hown, hts⟩ (uX0_putS l dC dI ca base B hB hAp hB2 hB196 Gx_3 H_3 r0 z_6 wc_3 wr_3 m_wr_3 LC LS) (cwV 1 hts (jgV (jWr_24 _ (List.mem_of_getElem? (i := 22) rfl)) (jWr_16 _ (List.mem_of_getElem? (i := 0) rfl)) (jWr_16 _ (List.mem_of_getElem? (i := 1) rfl)) (jWr_1 _ (List.mem_of_getElem? (i := 14) rfl)) (jWr_16 _ (List.mem_of_getElem? (i := 2) rfl))) rfl rfl rfl (by decide +kernel) ⟨by rw [← hR]; exact Nat.le_of_ble_eq_true rfl, by rw [← hR]; exact Nat.le_of_ble_eq_true rfl⟩) ⟨fun a U g mk q => by obtain ⟨q0, q1, q2, qK, q10, q11, q12, q13⟩ := q; exact ⟨q0, q1, q2, jG.calling g mk a qK, q10, q11, q12, q13⟩, hh_3.recv (C := RX0) (T := TX0) (N := 2) hB2 rfl (by decide) hg_4 hK, fun U hU hW => ⟨rfl, hU, hh_3.2.1, hG.step hW hU hh_3.1, hg_4, hg_wr_3, (hh_3.2.2.1.sub (L1 := [(r0, 2, 1, .int wc_3), (r0, 2, 0, .ref wr_3)]) [0, 1] rfl), (by omega), (by omega), by first | omega | (refine ⟨?_, ?_, ?_, ?_, ?_, ?_⟩ <;> (first | omega | rfl | assumption | decide | exact Or.inl rfl | exact Or.inr rfl | (simp only; omega)))⟩⟩ rfl rfl hl.1 rfl (lv_room (Nat.le_of_ble_eq_true rfl)) dX0_character_107 ⟨by rw [hRc]; omega, by rw [hRs]; omega⟩) hh_3.1 (fun q _ h => h) (fun q h => h) (fun u_7 t_7 H_7 locs_7 ht_7 hvm_7 hr_8 hb_7 hz_7 hk_7 hS_7 => ?_)
      obtain ⟨qc_7, qa_7, m_qa_7, G_7⟩ := u_7
      rw [ht_7] at hb_7
      simp only at hb_7
      obtain ⟨⟨hb_71, hb_72, hb_73, hb_74, hb_75, hb_76⟩, hgq_7_0, hN_7, hbO_7⟩ := hb_7
      have hh_7 : jSt (dC, dI) B base G0 G_7 EX0_characterS s.heap (zcx_3 + ((m_qa_7 - m_wr_3) / 16)) (zsx_3 + (2 * (m_qa_7 - m_wr_3))) [(r0, 2, 1, .int qc_7), (r0, 2, 0, .ref qa_7)] [] [] H_7 locs_7 := (hh_3.callG hb_71 hb_72 hb_73 hb_74 hb_75 hS_7 rfl (L1 := []) [] rfl rfl (M1 := []) [] rfl rfl (I1 := []) [] rfl rfl).more hb_76
      have hNn_7 : (jNk [0, 1, 2, 3, 4, 5, 6, 7, 8, 9, 10, 11, 12, 13, 14, 15, 16]) G0 G_7 := (hN_3).tr hN_7
      have hg_9 := hb_72 _ _ hg_4
      have hd_10 := jOw.tr (hh_3.iv 0 rfl) hh_3.2.2.2.2.1 hbO_7
      have hh_11 := hh_7.addI (jOw.ie (dC := dC) (dI := dI) (G0 := G0) (k := 2) (r := r0) (H0 := s.heap) (F := [(2, 0), (2, 1)]) (C := RX0) (T := TX0) (N := 2) rfl (by decide) hh_7.2.2.2.2.1 (hd_10))
      clear hh_7
      try simp only at hr_8
      obtain ⟨hr_8_0, hr_8_1, hr_8_2, hr_8_3, hr_8_4, hr_8_5⟩ := hr_8
      have hsz_12 := hh_11.2.2.2.2.2.1
      have htt_12 := hh_11.2.2.2.2.2.2.1
      refine W.room (fun hrc_12 hrs_12 => ?_)
      refine W.widen (k := LC - s.heap.size) (n := LS - jTot s.heap) (by omega) (by omega) ?_
      rw [hQ]
      exact W.vret hx hb hr (fun t ht hW => ⟨⟨(qc_7, qa_7, m_qa_7, G_7), rfl, by (try dsimp only); exact ⟨(by first | omega | rfl | assumption | fail), (by first | omega | rfl | assumption | fail), (by first | omega | rfl | assumption | fail), (by first | omega | rfl | assumption | fail), (by first | assumption | fail | omega), (by first | omega | rfl | assumption | fail), (by first | omega | rfl | assumption | fail)⟩, ⟨hh_11.ra (by first | omega | (simp only; omega)) (by first | omega | (simp only; omega)) (M1 := [(r0, 2, 1, .int qc_7), (r0, 2, 0, .ref qa_7)]) [0, 1] rfl ht, hgq_7_0, hNn_7, by rw [ht]; exact hh_11.iv 0 rfl⟩⟩, by rw [ht]; try exact hh_11.1.1, fun q h9 hq => by rw [ht]; try exact hh_11.1.2.1 q h9 hq⟩) hh_11.1.2.2 dX0_character_110
    refine lv_icmp_ge (tgt := 35) hx hb dX0_character_17 (by decide) (fun c_13 => ?_) (fun c_13 => ?_)
    · skip
      have c_13' : a1.toInt ≥ 2048 := jb_ge (rfl) ((by decide)) c_13
      refine lv_iload_n hx hb dX0_character_35 rfl (lv_at hl 1 rfl) ?_
      refine lv_ldc hx hb hown hcs_60 dX0_character_36 ?_
      have C83 : ∀ (Gx_14 : jT) (zcx_14 : Nat) (zsx_14 : Nat) (wc_14 : Int32) (wr_14 : Nat) (m_wr_14 : Nat) (H_14 : Heap) (locs_14 : List Loc), jSt (dC, dI) B base G0 Gx_14 EX0_characterS s.heap zcx_14 zsx_14 [(r0, 2, 1, .int wc_14), (r0, 2, 0, .ref wr_14)] [] [([(2, 0), (2, 1)], jOw (dC, dI) G0 2 r0 s.heap)] H_14 locs_14 → (jNk [0, 1, 2, 3, 4, 5, 6, 7, 8, 9, 10, 11, 12, 13, 14, 15, 16]) G0 Gx_14 → jLe G0 Gx_14 → Gx_14 wr_14 = some (196, m_wr_14) → (0 ≤ wc_14.toInt ∧ wc_14.toInt ≤ m_wr_14 ∧ n_pa ≤ m_wr_14 ∧ m_wr_14 ≤ 128 ∧ jPw m_wr_14 ∧ zcx_14 ≤ (m_wr_14 - n_pa) / 16 ∧ zsx_14 ≤ 2 * (m_wr_14 - n_pa) ∧ pc.toInt ≤ wc_14.toInt ∧ wc_14.toInt ≤ pc.toInt + 2) → ∀ ls : Array Slot, lv_has ls 2 [(0, .ref r0), (1, .int a1)] → W p l e R s m ([.ref r0, .int a1] : List Value).toArray below meth c H_14 locs_14 zcx_14 zsx_14 Q (F0 m 83 ls []) := by
        intro Gx_14 zcx_14 zsx_14 wc_14 wr_14 m_wr_14 H_14 locs_14 hh_14 hN_14 hle_14 hg_wr_14 hi_14 ls hl
        have hg_15 := hle_14 _ _ hg_r0
        obtain ⟨hi_14_0, hi_14_1, hi_14_2, hi_14_3, hi_14_4, hi_14_5, hi_14_6, hi_14_7, hi_14_8⟩ := hi_14
        refine lv_aload_n hx hb dX0_character_83 rfl (lv_at hl 0 rfl) ?_
        refine lv_sipush (v := 128) hx hb dX0_character_84 (by decide) ?_
        refine lv_iload_n hx hb dX0_character_87 rfl (lv_at hl 1 rfl) ?_
        refine lv_bipush (v := 6) hx hb dX0_character_88 (by decide) ?_
        refine lv_ishr hx hb dX0_character_90 ?_
        refine lv_topi (fun z_16 ez_16 => ?_)
        have hz_16 : z_16.toInt = a1.toInt / 2 ^ 6 := by rw [ez_16]; exact jb_ishr 6 (rfl) (by decide)
        refine lv_bipush (v := 63) hx hb dX0_character_91 (by decide) ?_
        refine lv_iand hx hb dX0_character_93 ?_
        refine lv_topi (fun z_17 ez_17 => ?_)
        have hz_17 : 0 ≤ z_17.toInt ∧ z_17.toInt ≤ 63 := by rw [ez_17]; exact jb_and z_16 (m := 63) (k := 6) (by decide) (by decide)
        refine lv_ior hx hb dX0_character_94 ?_
        refine lv_topi (fun z_18 ez_18 => ?_)
        have hsz_19 := hh_14.2.2.2.2.2.1
        have htt_19 := hh_14.2.2.2.2.2.2.1
        refine W.room (fun hrc_19 hrs_19 => ?_)
        refine va_callv (A0 := jA base) (H0 := s.heap) (va_runV (As := [.int z_18]) (rest := []) ⟨hx, hb, hml, hown, hts⟩ (uX0_putS l dC dI ca base B hB hAp hB2 hB196 Gx_14 H_14 r0 z_18 wc_14 wr_14 m_wr_14 LC LS) (cwV 1 hts (jgV (jWr_24 _ (List.mem_of_getElem? (i := 22) rfl)) (jWr_16 _ (List.mem_of_getElem? (i := 0) rfl)) (jWr_16 _ (List.mem_of_getElem? (i := 1) rfl)) (jWr_1 _ (List.mem_of_getElem? (i := 14) rfl)) (jWr_16 _ (List.mem_of_getElem? (i := 2) rfl))) rfl rfl rfl (by decide +kernel) ⟨by rw [← hR]; exact Nat.le_of_ble_eq_true rfl, by rw [← hR]; exact Nat.le_of_ble_eq_true rfl⟩) ⟨fun a U g mk q => by obtain ⟨q0, q1, q2, qK, q10, q11, q12, q13⟩ := q; exact ⟨q0, q1, q2, jG.calling g mk a qK, q10, q11, q12, q13⟩, hh_14.recv (C := RX0) (T := TX0) (N := 2) hB2 rfl (by decide) hg_15 hK, fun U hU hW => ⟨rfl, hU, hh_14.2.1, hG.step hW hU hh_14.1, hg_15, hg_wr_14, (hh_14.2.2.1.sub (L1 := [(r0, 2, 1, .int wc_14), (r0, 2, 0, .ref wr_14)]) [0, 1] rfl), (by omega), (by omega), by first | omega | (refine ⟨?_, ?_, ?_, ?_, ?_, ?_⟩ <;> (first | omega | rfl | assumption | decide | exact Or.inl rfl | exact Or.inr rfl | (simp only; omega)))⟩⟩ rfl rfl hl.1 rfl (lv_room (Nat.le_of_ble_eq_true rfl)) dX0_character_95 ⟨by rw [hRc]; omega, by rw [hRs]; omega⟩) hh_14.1 (fun q _ h => h) (fun q h => h) (fun u_19 t_19 H_19 locs_19 ht_19 hvm_19 hr_20 hb_19 hz_19 hk_19 hS_19 => ?_)
        obtain ⟨qc_19, qa_19, m_qa_19, G_19⟩ := u_19
        rw [ht_19] at hb_19
        simp only at hb_19
        obtain ⟨⟨hb_191, hb_192, hb_193, hb_194, hb_195, hb_196⟩, hgq_19_0, hN_19, hbO_19⟩ := hb_19
        have hh_19 : jSt (dC, dI) B base G0 G_19 EX0_characterS s.heap (zcx_14 + ((m_qa_19 - m_wr_14) / 16)) (zsx_14 + (2 * (m_qa_19 - m_wr_14))) [(r0, 2, 1, .int qc_19), (r0, 2, 0, .ref qa_19)] [] [] H_19 locs_19 := (hh_14.callG hb_191 hb_192 hb_193 hb_194 hb_195 hS_19 rfl (L1 := []) [] rfl rfl (M1 := []) [] rfl rfl (I1 := []) [] rfl rfl).more hb_196
        have hNn_19 : (jNk [0, 1, 2, 3, 4, 5, 6, 7, 8, 9, 10, 11, 12, 13, 14, 15, 16]) G0 G_19 := (hN_14).tr hN_19
        have hg_21 := hb_192 _ _ hg_15
        have hd_22 := jOw.tr (hh_14.iv 0 rfl) hh_14.2.2.2.2.1 hbO_19
        have hh_23 := hh_19.addI (jOw.ie (dC := dC) (dI := dI) (G0 := G0) (k := 2) (r := r0) (H0 := s.heap) (F := [(2, 0), (2, 1)]) (C := RX0) (T := TX0) (N := 2) rfl (by decide) hh_19.2.2.2.2.1 (hd_22))
        clear hh_19
        try simp only at hr_20
        obtain ⟨hr_20_0, hr_20_1, hr_20_2, hr_20_3, hr_20_4, hr_20_5⟩ := hr_20
        refine W.tight (c2 := (zcx_14 + ((m_qa_19 - m_wr_14) / 16))) (n2 := (zsx_14 + (2 * (m_qa_19 - m_wr_14)))) hh_23.2.2.2.2.2.1 hh_23.2.2.2.2.2.2.1 ?_
        exact C98 G_19 (zcx_14 + ((m_qa_19 - m_wr_14) / 16)) (zsx_14 + (2 * (m_qa_19 - m_wr_14))) qc_19 qa_19 m_qa_19 _ _ hh_23 (hNn_19) ((hle_14).tr hb_192) hgq_19_0 (by first | omega | (refine ⟨?_, ?_, ?_, ?_, ?_, ?_, ?_, ?_, ?_⟩ <;> (first | omega | rfl | assumption | decide | exact Or.inl rfl | exact Or.inr rfl | (simp only; omega)))) _ (lv_sub hl [0, 1] rfl)
      refine lv_icmp_ge (tgt := 56) hx hb dX0_character_38 (by decide) (fun c_24 => ?_) (fun c_24 => ?_)
      · skip
        have c_24' : a1.toInt ≥ 65536 := jb_ge (rfl) ((by decide)) c_24
        refine lv_aload_n hx hb dX0_character_56 rfl (lv_at hl 0 rfl) ?_
        refine lv_sipush (v := 240) hx hb dX0_character_57 (by decide) ?_
        refine lv_iload_n hx hb dX0_character_60 rfl (lv_at hl 1 rfl) ?_
        refine lv_bipush (v := 18) hx hb dX0_character_61 (by decide) ?_
        refine lv_ishr hx hb dX0_character_63 ?_
        refine lv_topi (fun z_25 ez_25 => ?_)
        have hz_25 : z_25.toInt = a1.toInt / 2 ^ 18 := by rw [ez_25]; exact jb_ishr 18 (rfl) (by decide)
        refine lv_ior hx hb dX0_character_64 ?_
        refine lv_topi (fun z_26 ez_26 => ?_)
        have hsz_27 := hh_1.2.2.2.2.2.1
        have htt_27 := hh_1.2.2.2.2.2.2.1
        refine W.room (fun hrc_27 hrs_27 => ?_)
        refine va_callv (A0 := jA base) (H0 := s.heap) (va_runV (As := [.int z_26]) (rest := []) ⟨hx, hb, hml, hown, hts⟩ (uX0_putS l dC dI ca base B hB hAp hB2 hB196 G0 s.heap r0 z_26 pc pa n_pa LC LS) (cwV 1 hts (jgV (jWr_24 _ (List.mem_of_getElem? (i := 22) rfl)) (jWr_16 _ (List.mem_of_getElem? (i := 0) rfl)) (jWr_16 _ (List.mem_of_getElem? (i := 1) rfl)) (jWr_1 _ (List.mem_of_getElem? (i := 14) rfl)) (jWr_16 _ (List.mem_of_getElem? (i := 2) rfl))) rfl rfl rfl (by decide +kernel) ⟨by rw [← hR]; exact Nat.le_of_ble_eq_true rfl, by rw [← hR]; exact Nat.le_of_ble_eq_true rfl⟩) ⟨fun a U g mk q => by obtain ⟨q0, q1, q2, qK, q10, q11, q12, q13⟩ := q; exact ⟨q0, q1, q2, jG.calling g mk a qK, q10, q11, q12, q13⟩, hh_1.recv (C := RX0) (T := TX0) (N := 2) hB2 rfl (by decide) hg_r0 hK, fun U hU hW => ⟨rfl, hU, hh_1.2.1, hG.step hW hU hh_1.1, hg_r0, hg_pa, (hh_1.2.2.1.sub (L1 := [(r0, 2, 1, .int pc), (r0, 2, 0, .ref pa)]) [0, 1] rfl), (by omega), (by omega), by first | omega | (refine ⟨?_, ?_, ?_, ?_, ?_, ?_⟩ <;> (first | omega | rfl | assumption | decide | exact Or.inl rfl | exact Or.inr rfl | (simp only; omega)))⟩⟩ rfl rfl hl.1 rfl (lv_room (Nat.le_of_ble_eq_true rfl)) dX0_character_65 ⟨by rw [hRc]; omega, by rw [hRs]; omega⟩) hh_1.1 (fun q _ h => h) (fun q h => h) (fun u_27 t_27 H_27 locs_27 ht_27 hvm_27 hr_28 hb_27 hz_27 hk_27 hS_27 => ?_)
        obtain ⟨qc_27, qa_27, m_qa_27, G_27⟩ := u_27
        rw [ht_27] at hb_27
        simp only at hb_27
        obtain ⟨⟨hb_271, hb_272, hb_273, hb_274, hb_275, hb_276⟩, hgq_27_0, hN_27, hbO_27⟩ := hb_27
        have hh_27 : jSt (dC, dI) B base G0 G_27 EX0_characterS s.heap (0 + ((m_qa_27 - n_pa) / 16)) (0 + (2 * (m_qa_27 - n_pa))) [(r0, 2, 1, .int qc_27), (r0, 2, 0, .ref qa_27)] [] [] H_27 locs_27 := (hh_1.callG hb_271 hb_272 hb_273 hb_274 hb_275 hS_27 rfl (L1 := []) [] rfl rfl (M1 := []) [] rfl rfl (I1 := []) [] rfl rfl).more hb_276
        have hNn_27 : (jNk [0, 1, 2, 3, 4, 5, 6, 7, 8, 9, 10, 11, 12, 13, 14, 15, 16]) G0 G_27 := (jNk.rf).tr hN_27
        have hg_29 := hb_272 _ _ hg_r0
        have hd_30 := jOw.tr (hh_1.iv 0 rfl) hh_1.2.2.2.2.1 hbO_27
        have hh_31 := hh_27.addI (jOw.ie (dC := dC) (dI := dI) (G0 := G0) (k := 2) (r := r0) (H0 := s.heap) (F := [(2, 0), (2, 1)]) (C := RX0) (T := TX0) (N := 2) rfl (by decide) hh_27.2.2.2.2.1 (hd_30))
        clear hh_27
        try simp only at hr_28
        obtain ⟨hr_28_0, hr_28_1, hr_28_2, hr_28_3, hr_28_4, hr_28_5⟩ := hr_28
        refine lv_aload_n hx hb dX0_character_68 rfl (lv_at hl 0 rfl) ?_
        refine lv_sipush (v := 128) hx hb dX0_character_69 (by decide) ?_
        refine lv_iload_n hx hb dX0_character_72 rfl (lv_at hl 1 rfl) ?_
        refine lv_bipush (v := 12) hx hb dX0_character_73 (by decide) ?_
        refine lv_ishr hx hb dX0_character_75 ?_
        refine lv_topi (fun z_32 ez_32 => ?_)
        have hz_32 : z_32.toInt = a1.toInt / 2 ^ 12 := by rw [ez_32]; exact jb_ishr 12 (rfl) (by decide)
        refine lv_bipush (v := 63) hx hb dX0_character_76 (by decide) ?_
        refine lv_iand hx hb dX0_character_78 ?_
        refine lv_topi (fun z_33 ez_33 => ?_)
        have hz_33 : 0 ≤ z_33.toInt ∧ z_33.toInt ≤ 63 := by rw [ez_33]; exact jb_and z_32 (m := 63) (k := 6) (by decide) (by decide)
        refine lv_ior hx hb dX0_character_79 ?_
        refine lv_topi (fun z_34 ez_34 => ?_)
        have hsz_35 := hh_31.2.2.2.2.2.1
        have htt_35 := hh_31.2.2.2.2.2.2.1
        refine W.room (fun hrc_35 hrs_35 => ?_)
        refine va_callv (A0 := jA base) (H0 := s.heap) (va_runV (As := [.int z_34]) (rest := []) ⟨hx, hb, hml, hown, hts⟩ (uX0_putS l dC dI ca base B hB hAp hB2 hB196 G_27 H_27 r0 z_34 qc_27 qa_27 m_qa_27 LC LS) (cwV 1 hts (jgV (jWr_24 _ (List.mem_of_getElem? (i := 22) rfl)) (jWr_16 _ (List.mem_of_getElem? (i := 0) rfl)) (jWr_16 _ (List.mem_of_getElem? (i := 1) rfl)) (jWr_1 _ (List.mem_of_getElem? (i := 14) rfl)) (jWr_16 _ (List.mem_of_getElem? (i := 2) rfl))) rfl rfl rfl (by decide +kernel) ⟨by rw [← hR]; exact Nat.le_of_ble_eq_true rfl, by rw [← hR]; exact Nat.le_of_ble_eq_true rfl⟩) ⟨fun a U g mk q => by obtain ⟨q0, q1, q2, qK, q10, q11, q12, q13⟩ := q; exact ⟨q0, q1, q2, jG.calling g mk a qK, q10, q11, q12, q13⟩, hh_31.recv (C := RX0) (T := TX0) (N := 2) hB2 rfl (by decide) hg_29 hK, fun U hU hW => ⟨rfl, hU, hh_31.2.1, hG.step hW hU hh_31.1, hg_29, hgq_27_0, (hh_31.2.2.1.sub (L1 := [(r0, 2, 1, .int qc_27), (r0, 2, 0, .ref qa_27)]) [0, 1] rfl), (by omega), (by omega), by first | omega | (refine ⟨?_, ?_, ?_, ?_, ?_, ?_⟩ <;> (first | omega | rfl | assumption | decide | exact Or.inl rfl | exact Or.inr rfl | (simp only; omega)))⟩⟩ rfl rfl hl.1 rfl (lv_room (Nat.le_of_ble_eq_true rfl)) dX0_character_80 ⟨by rw [hRc]; omega, by rw [hRs]; omega⟩) hh_31.1 (fun q _ h => h) (fun q h => h) (fun u_35 t_35 H_35 locs_35 ht_35 hvm_35 hr_36 hb_35 hz_35 hk_35 hS_35 => ?_)
        obtain ⟨qc_35, qa_35, m_qa_35, G_35⟩ := u_35
        rw [ht_35] at hb_35
        simp only at hb_35
        obtain ⟨⟨hb_351, hb_352, hb_353, hb_354, hb_355, hb_356⟩, hgq_35_0, hN_35, hbO_35⟩ := hb_35
        have hh_35 : jSt (dC, dI) B base G0 G_35 EX0_characterS s.heap ((0 + ((m_qa_27 - n_pa) / 16)) + ((m_qa_35 - m_qa_27) / 16)) ((0 + (2 * (m_qa_27 - n_pa))) + (2 * (m_qa_35 - m_qa_27))) [(r0, 2, 1, .int qc_35), (r0, 2, 0, .ref qa_35)] [] [] H_35 locs_35 := (hh_31.callG hb_351 hb_352 hb_353 hb_354 hb_355 hS_35 rfl (L1 := []) [] rfl rfl (M1 := []) [] rfl rfl (I1 := []) [] rfl rfl).more hb_356
        have hNn_35 : (jNk [0, 1, 2, 3, 4, 5, 6, 7, 8, 9, 10, 11, 12, 13, 14, 15, 16]) G0 G_35 := (hNn_27).tr hN_35
        have hg_37 := hb_352 _ _ hg_29
        have hd_38 := jOw.tr (hh_31.iv 0 rfl) hh_31.2.2.2.2.1 hbO_35
        have hh_39 := hh_35.addI (jOw.ie (dC := dC) (dI := dI) (G0 := G0) (k := 2) (r := r0) (H0 := s.heap) (F := [(2, 0), (2, 1)]) (C := RX0) (T := TX0) (N := 2) rfl (by decide) hh_35.2.2.2.2.1 (hd_38))
        clear hh_35
        try simp only at hr_36
        obtain ⟨hr_36_0, hr_36_1, hr_36_2, hr_36_3, hr_36_4, hr_36_5⟩ := hr_36
        refine W.tight (c2 := ((0 + ((m_qa_27 - n_pa) / 16)) + ((m_qa_35 - m_qa_27) / 16))) (n2 := ((0 + (2 * (m_qa_27 - n_pa))) + (2 * (m_qa_35 - m_qa_27)))) hh_39.2.2.2.2.2.1 hh_39.2.2.2.2.2.2.1 ?_
        exact C83 G_35 ((0 + ((m_qa_27 - n_pa) / 16)) + ((m_qa_35 - m_qa_27) / 16)) ((0 + (2 * (m_qa_27 - n_pa))) + (2 * (m_qa_35 - m_qa_27))) qc_35 qa_35 m_qa_35 _ _ hh_39 (hNn_35) ((hb_272).tr hb_352) hgq_35_0 (by first | omega | (refine ⟨?_, ?_, ?_, ?_, ?_, ?_, ?_, ?_, ?_⟩ <;> (first | omega | rfl | assumption | decide | exact Or.inl rfl | exact Or.inr rfl | (simp only; omega)))) _ (lv_sub hl [0, 1] rfl)
      · skip
        have c_24' : a1.toInt < 65536 := jb_ge_n (rfl) ((by decide)) c_24
        refine lv_aload_n hx hb dX0_character_41 rfl (lv_at hl 0 rfl) ?_
        refine lv_sipush (v := 224) hx hb dX0_character_42 (by decide) ?_
        refine lv_iload_n hx hb dX0_character_45 rfl (lv_at hl 1 rfl) ?_
        refine lv_bipush (v := 12) hx hb dX0_character_46 (by decide) ?_
        refine lv_ishr hx hb dX0_character_48 ?_
        refine lv_topi (fun z_40 ez_40 => ?_)
        have hz_40 : z_40.toInt = a1.toInt / 2 ^ 12 := by rw [ez_40]; exact jb_ishr 12 (rfl) (by decide)
        refine lv_ior hx hb dX0_character_49 ?_
        refine lv_topi (fun z_41 ez_41 => ?_)
        have hsz_42 := hh_1.2.2.2.2.2.1
        have htt_42 := hh_1.2.2.2.2.2.2.1
        refine W.room (fun hrc_42 hrs_42 => ?_)
        refine va_callv (A0 := jA base) (H0 := s.heap) (va_runV (As := [.int z_41]) (rest := []) ⟨hx, hb, hml, hown, hts⟩ (uX0_putS l dC dI ca base B hB hAp hB2 hB196 G0 s.heap r0 z_41 pc pa n_pa LC LS) (cwV 1 hts (jgV (jWr_24 _ (List.mem_of_getElem? (i := 22) rfl)) (jWr_16 _ (List.mem_of_getElem? (i := 0) rfl)) (jWr_16 _ (List.mem_of_getElem? (i := 1) rfl)) (jWr_1 _ (List.mem_of_getElem? (i := 14) rfl)) (jWr_16 _ (List.mem_of_getElem? (i := 2) rfl))) rfl rfl rfl (by decide +kernel) ⟨by rw [← hR]; exact Nat.le_of_ble_eq_true rfl, by rw [← hR]; exact Nat.le_of_ble_eq_true rfl⟩) ⟨fun a U g mk q => by obtain ⟨q0, q1, q2, qK, q10, q11, q12, q13⟩ := q; exact ⟨q0, q1, q2, jG.calling g mk a qK, q10, q11, q12, q13⟩, hh_1.recv (C := RX0) (T := TX0) (N := 2) hB2 rfl (by decide) hg_r0 hK, fun U hU hW => ⟨rfl, hU, hh_1.2.1, hG.step hW hU hh_1.1, hg_r0, hg_pa, (hh_1.2.2.1.sub (L1 := [(r0, 2, 1, .int pc), (r0, 2, 0, .ref pa)]) [0, 1] rfl), (by omega), (by omega), by first | omega | (refine ⟨?_, ?_, ?_, ?_, ?_, ?_⟩ <;> (first | omega | rfl | assumption | decide | exact Or.inl rfl | exact Or.inr rfl | (simp only; omega)))⟩⟩ rfl rfl hl.1 rfl (lv_room (Nat.le_of_ble_eq_true rfl)) dX0_character_50 ⟨by rw [hRc]; omega, by rw [hRs]; omega⟩) hh_1.1 (fun q _ h => h) (fun q h => h) (fun u_42 t_42 H_42 locs_42 ht_42 hvm_42 hr_43 hb_42 hz_42 hk_42 hS_42 => ?_)
        obtain ⟨qc_42, qa_42, m_qa_42, G_42⟩ := u_42
        rw [ht_42] at hb_42
        simp only at hb_42
        obtain ⟨⟨hb_421, hb_422, hb_423, hb_424, hb_425, hb_426⟩, hgq_42_0, hN_42, hbO_42⟩ := hb_42
        have hh_42 : jSt (dC, dI) B base G0 G_42 EX0_characterS s.heap (0 + ((m_qa_42 - n_pa) / 16)) (0 + (2 * (m_qa_42 - n_pa))) [(r0, 2, 1, .int qc_42), (r0, 2, 0, .ref qa_42)] [] [] H_42 locs_42 := (hh_1.callG hb_421 hb_422 hb_423 hb_424 hb_425 hS_42 rfl (L1 := []) [] rfl rfl (M1 := []) [] rfl rfl (I1 := []) [] rfl rfl).more hb_426
        have hNn_42 : (jNk [0, 1, 2, 3, 4, 5, 6, 7, 8, 9, 10, 11, 12, 13, 14, 15, 16]) G0 G_42 := (jNk.rf).tr hN_42
        have hg_44 := hb_422 _ _ hg_r0
        have hd_45 := jOw.tr (hh_1.iv 0 rfl) hh_1.2.2.2.2.1 hbO_42
        have hh_46 := hh_42.addI (jOw.ie (dC := dC) (dI := dI) (G0 := G0) (k := 2) (r := r0) (H0 := s.heap) (F := [(2, 0), (2, 1)]) (C := RX0) (T := TX0) (N := 2) rfl (by decide) hh_42.2.2.2.2.1 (hd_45))
        clear hh_42
        try simp only at hr_43
        obtain ⟨hr_43_0, hr_43_1, hr_43_2, hr_43_3, hr_43_4, hr_43_5⟩ := hr_43
        refine lv_goto (tgt := 83) hx hb dX0_character_53 (by decide) ?_
        refine W.tight (c2 := (0 + ((m_qa_42 - n_pa) / 16))) (n2 := (0 + (2 * (m_qa_42 - n_pa)))) hh_46.2.2.2.2.2.1 hh_46.2.2.2.2.2.2.1 ?_
        exact C83 G_42 (0 + ((m_qa_42 - n_pa) / 16)) (0 + (2 * (m_qa_42 - n_pa))) qc_42 qa_42 m_qa_42 _ _ hh_46 (hNn_42) (hb_422) hgq_42_0 (by first | omega | (refine ⟨?_, ?_, ?_, ?_, ?_, ?_, ?_, ?_, ?_⟩ <;> (first | omega | rfl | assumption | decide | exact Or.inl rfl | exact Or.inr rfl | (simp only; omega)))) _ (lv_sub hl [0, 1] rfl)
    · skip
      have c_13' : a1.toInt < 2048 := jb_ge_n (rfl) ((by decide)) c_13
      refine lv_aload_n hx hb dX0_character_20 rfl (lv_at hl 0 rfl) ?_
      refine lv_sipush (v := 192) hx hb dX0_character_21 (by decide) ?_
      refine lv_iload_n hx hb dX0_character_24 rfl (lv_at hl 1 rfl) ?_
      refine lv_bipush (v := 6) hx hb dX0_character_25 (by decide) ?_
      refine lv_ishr hx hb dX0_character_27 ?_
      refine lv_topi (fun z_47 ez_47 => ?_)
      have hz_47 : z_47.toInt = a1.toInt / 2 ^ 6 := by rw [ez_47]; exact jb_ishr 6 (rfl) (by decide)
      refine lv_ior hx hb dX0_character_28 ?_
      refine lv_topi (fun z_48 ez_48 => ?_)
      have hsz_49 := hh_1.2.2.2.2.2.1
      have htt_49 := hh_1.2.2.2.2.2.2.1
      refine W.room (fun hrc_49 hrs_49 => ?_)
      refine va_callv (A0 := jA base) (H0 := s.heap) (va_runV (As := [.int z_48]) (rest := []) ⟨hx, hb, hml, hown, hts⟩ (uX0_putS l dC dI ca base B hB hAp hB2 hB196 G0 s.heap r0 z_48 pc pa n_pa LC LS) (cwV 1 hts (jgV (jWr_24 _ (List.mem_of_getElem? (i := 22) rfl)) (jWr_16 _ (List.mem_of_getElem? (i := 0) rfl)) (jWr_16 _ (List.mem_of_getElem? (i := 1) rfl)) (jWr_1 _ (List.mem_of_getElem? (i := 14) rfl)) (jWr_16 _ (List.mem_of_getElem? (i := 2) rfl))) rfl rfl rfl (by decide +kernel) ⟨by rw [← hR]; exact Nat.le_of_ble_eq_true rfl, by rw [← hR]; exact Nat.le_of_ble_eq_true rfl⟩) ⟨fun a U g mk q => by obtain ⟨q0, q1, q2, qK, q10, q11, q12, q13⟩ := q; exact ⟨q0, q1, q2, jG.calling g mk a qK, q10, q11, q12, q13⟩, hh_1.recv (C := RX0) (T := TX0) (N := 2) hB2 rfl (by decide) hg_r0 hK, fun U hU hW => ⟨rfl, hU, hh_1.2.1, hG.step hW hU hh_1.1, hg_r0, hg_pa, (hh_1.2.2.1.sub (L1 := [(r0, 2, 1, .int pc), (r0, 2, 0, .ref pa)]) [0, 1] rfl), (by omega), (by omega), by first | omega | (refine ⟨?_, ?_, ?_, ?_, ?_, ?_⟩ <;> (first | omega | rfl | assumption | decide | exact Or.inl rfl | exact Or.inr rfl | (simp only; omega)))⟩⟩ rfl rfl hl.1 rfl (lv_room (Nat.le_of_ble_eq_true rfl)) dX0_character_29 ⟨by rw [hRc]; omega, by rw [hRs]; omega⟩) hh_1.1 (fun q _ h => h) (fun q h => h) (fun u_49 t_49 H_49 locs_49 ht_49 hvm_49 hr_50 hb_49 hz_49 hk_49 hS_49 => ?_)
      obtain ⟨qc_49, qa_49, m_qa_49, G_49⟩ := u_49
      rw [ht_49] at hb_49
      simp only at hb_49
      obtain ⟨⟨hb_491, hb_492, hb_493, hb_494, hb_495, hb_496⟩, hgq_49_0, hN_49, hbO_49⟩ := hb_49
      have hh_49 : jSt (dC, dI) B base G0 G_49 EX0_characterS s.heap (0 + ((m_qa_49 - n_pa) / 16)) (0 + (2 * (m_qa_49 - n_pa))) [(r0, 2, 1, .int qc_49), (r0, 2, 0, .ref qa_49)] [] [] H_49 locs_49 := (hh_1.callG hb_491 hb_492 hb_493 hb_494 hb_495 hS_49 rfl (L1 := []) [] rfl rfl (M1 := []) [] rfl rfl (I1 := []) [] rfl rfl).more hb_496
      have hNn_49 : (jNk [0, 1, 2, 3, 4, 5, 6, 7, 8, 9, 10, 11, 12, 13, 14, 15, 16]) G0 G_49 := (jNk.rf).tr hN_49
      have hg_51 := hb_492 _ _ hg_r0
      have hd_52 := jOw.tr (hh_1.iv 0 rfl) hh_1.2.2.2.2.1 hbO_49
      have hh_53 := hh_49.addI (jOw.ie (dC := dC) (dI := dI) (G0 := G0) (k := 2) (r := r0) (H0 := s.heap) (F := [(2, 0), (2, 1)]) (C := RX0) (T := TX0) (N := 2) rfl (by decide) hh_49.2.2.2.2.1 (hd_52))
      clear hh_49
      try simp only at hr_50
      obtain ⟨hr_50_0, hr_50_1, hr_50_2, hr_50_3, hr_50_4, hr_50_5⟩ := hr_50
      refine lv_goto (tgt := 98) hx hb dX0_character_32 (by decide) ?_
      refine W.tight (c2 := (0 + ((m_qa_49 - n_pa) / 16))) (n2 := (0 + (2 * (m_qa_49 - n_pa)))) hh_53.2.2.2.2.2.1 hh_53.2.2.2.2.2.2.1 ?_
      exact C98 G_49 (0 + ((m_qa_49 - n_pa) / 16)) (0 + (2 * (m_qa_49 - n_pa))) qc_49 qa_49 m_qa_49 _ _ hh_53 (hNn_49) (hb_492) hgq_49_0 (by first | omega | (refine ⟨?_, ?_, ?_, ?_, ?_, ?_, ?_, ?_, ?_⟩ <;> (first | omega | rfl | assumption | decide | exact Or.inl rfl | exact Or.inr rfl | (simp only; omega)))) _ (lv_sub hl [0, 1] rfl)
  · skip
    have c_2' : a1.toInt < 128 := jb_ge_n (rfl) ((by decide)) c_2
    refine lv_aload_n hx hb dX0_character_7 rfl (lv_at hl 0 rfl) ?_
    refine lv_iload_n hx hb dX0_character_8 rfl (lv_at hl 1 rfl) ?_
    have hsz_54 := hh_1.2.2.2.2.2.1
    have htt_54 := hh_1.2.2.2.2.2.2.1
    refine W.room (fun hrc_54 hrs_54 => ?_)
    refine va_callv (A0 := jA base) (H0 := s.heap) (va_runV (As := [.int a1]) (rest := []) ⟨hx, hb, hml, hown, hts⟩ (uX0_putS l dC dI ca base B hB hAp hB2 hB196 G0 s.heap r0 a1 pc pa n_pa LC LS) (cwV 1 hts (jgV (jWr_24 _ (List.mem_of_getElem? (i := 22) rfl)) (jWr_16 _ (List.mem_of_getElem? (i := 0) rfl)) (jWr_16 _ (List.mem_of_getElem? (i := 1) rfl)) (jWr_1 _ (List.mem_of_getElem? (i := 14) rfl)) (jWr_16 _ (List.mem_of_getElem? (i := 2) rfl))) rfl rfl rfl (by decide +kernel) ⟨by rw [← hR]; exact Nat.le_of_ble_eq_true rfl, by rw [← hR]; exact Nat.le_of_ble_eq_true rfl⟩) ⟨fun a U g mk q => by obtain ⟨q0, q1, q2, qK, q10, q11, q12, q13⟩ := q; exact ⟨q0, q1, q2, jG.calling g mk a qK, q10, q11, q12, q13⟩, hh_1.recv (C := RX0) (T := TX0) (N := 2) hB2 rfl (by decide) hg_r0 hK, fun U hU hW => ⟨rfl, hU, hh_1.2.1, hG.step hW hU hh_1.1, hg_r0, hg_pa, (hh_1.2.2.1.sub (L1 := [(r0, 2, 1, .int pc), (r0, 2, 0, .ref pa)]) [0, 1] rfl), (by omega), (by omega), by first | omega | (refine ⟨?_, ?_, ?_, ?_, ?_, ?_⟩ <;> (first | omega | rfl | assumption | decide | exact Or.inl rfl | exact Or.inr rfl | (simp only; omega)))⟩⟩ rfl rfl hl.1 rfl (lv_room (Nat.le_of_ble_eq_true rfl)) dX0_character_9 ⟨by rw [hRc]; omega, by rw [hRs]; omega⟩) hh_1.1 (fun q _ h => h) (fun q h => h) (fun u_54 t_54 H_54 locs_54 ht_54 hvm_54 hr_55 hb_54 hz_54 hk_54 hS_54 => ?_)
    obtain ⟨qc_54, qa_54, m_qa_54, G_54⟩ := u_54
    rw [ht_54] at hb_54
    simp only at hb_54
    obtain ⟨⟨hb_541, hb_542, hb_543, hb_544, hb_545, hb_546⟩, hgq_54_0, hN_54, hbO_54⟩ := hb_54
    have hh_54 : jSt (dC, dI) B base G0 G_54 EX0_characterS s.heap (0 + ((m_qa_54 - n_pa) / 16)) (0 + (2 * (m_qa_54 - n_pa))) [(r0, 2, 1, .int qc_54), (r0, 2, 0, .ref qa_54)] [] [] H_54 locs_54 := (hh_1.callG hb_541 hb_542 hb_543 hb_544 hb_545 hS_54 rfl (L1 := []) [] rfl rfl (M1 := []) [] rfl rfl (I1 := []) [] rfl rfl).more hb_546
    have hNn_54 : (jNk [0, 1, 2, 3, 4, 5, 6, 7, 8, 9, 10, 11, 12, 13, 14, 15, 16]) G0 G_54 := (jNk.rf).tr hN_54
    have hg_56 := hb_542 _ _ hg_r0
    have hd_57 := jOw.tr (hh_1.iv 0 rfl) hh_1.2.2.2.2.1 hbO_54
    have hh_58 := hh_54.addI (jOw.ie (dC := dC) (dI := dI) (G0 := G0) (k := 2) (r := r0) (H0 := s.heap) (F := [(2, 0), (2, 1)]) (C := RX0) (T := TX0) (N := 2) rfl (by decide) hh_54.2.2.2.2.1 (hd_57))
    clear hh_54
    try simp only at hr_55
    obtain ⟨hr_55_0, hr_55_1, hr_55_2, hr_55_3, hr_55_4, hr_55_5⟩ := hr_55
    have hsz_59 := hh_58.2.2.2.2.2.1
    have htt_59 := hh_58.2.2.2.2.2.2.1
    refine W.room (fun hrc_59 hrs_59 => ?_)
    refine W.widen (k := LC - s.heap.size) (n := LS - jTot s.heap) (by omega) (by omega) ?_
    rw [hQ]
    exact W.vret hx hb hr (fun t ht hW => ⟨⟨(qc_54, qa_54, m_qa_54, G_54), rfl, by (try dsimp only); exact ⟨(by first | omega | rfl | assumption | fail), (by first | omega | rfl | assumption | fail), (by first | omega | rfl | assumption | fail), (by first | omega | rfl | assumption | fail), (by first | assumption | fail | omega), (by first | omega | rfl | assumption | fail), (by first | omega | rfl | assumption | fail)⟩, ⟨hh_58.ra (by first | omega | (simp only; omega)) (by first | omega | (simp only; omega)) (M1 := [(r0, 2, 1, .int qc_54), (r0, 2, 0, .ref qa_54)]) [0, 1] rfl ht, hgq_54_0, hNn_54, by rw [ht]; exact hh_58.iv 0 rfl⟩⟩, by rw [ht]; try exact hh_58.1.1, fun q h9 hq => by rw [ht]; try exact hh_58.1.2.1 q h9 hq⟩) hh_58.1.2.2 dX0_character_12
set_option maxHeartbeats 4000000 in
set_option maxRecDepth 20000 in
theorem uX0_numberS (l : Launch) (dC : Nat → ClassId) (dI : Nat → Nat → Nat) (ca : Nat → ClassId) (base : Nat) (B : jF) (hB : jBok B) (hAp : jAp (dC, dI)) (hB2 : ∀ n G a H, B 2 n G a H ↔ jOb (dC, dI) 2 2 (F2 n G) a H) (hB196 : ∀ n G a H, B 196 n G a H ↔ jAr (dC, dI) (ca 0) (fun j z => jBf j z) n a H) (G0 : jT) (H0 : Heap) (r0 : Nat) (a1 : Int32) (pc : Int32) (pa : Nat) (n_pa : Nat) (LC LS : Nat) : Met l yX0_number (jw yX0_number cX0_number 9 none) ({ frames := 3, cells := LC - H0.size, slots := LS - jTot H0, locals := 83 }) (va_Pc [.ref r0, .int a1] (fun U => U.heap = H0 ∧ jX B base G0 [] H0 ∧ jG dC dI ca base U ∧ G0 r0 = some (2, 0) ∧ G0 pa = some (196, n_pa) ∧ jP (dC, dI) G0 H0 [(r0, 2, 1, .int pc), (r0, 2, 0, .ref pa)] ∧ H0.size + (128 - n_pa) / 16 + 1 ≤ LC ∧ jTot H0 + 2 * (128 - n_pa) ≤ LS ∧ 0 ≤ pc.toInt ∧ pc.toInt ≤ n_pa ∧ 16 ≤ n_pa ∧ n_pa ≤ 128 ∧ jPw n_pa ∧ pc.toInt + 11 ≤ 128)) (va_Qv (S := Int32 × Nat × Nat × jT) (fun u => 0 ≤ u.1.toInt ∧ u.1.toInt ≤ u.2.2.1 ∧ n_pa ≤ u.2.2.1 ∧ u.2.2.1 ≤ 128 ∧ jPw u.2.2.1 ∧ u.1.toInt ≤ pc.toInt + 11) (fun u t => jRa (dC, dI) B base G0 u.2.2.2 EX0_numberS H0 ((u.2.2.1 - n_pa) / 16) (2 * (u.2.2.1 - n_pa)) [(r0, 2, 1, .int u.1), (r0, 2, 0, .ref u.2.1)] t.heap ∧ u.2.2.2 u.2.1 = some (196, u.2.2.1) ∧ (jNk [0, 1, 2, 3, 4, 5, 6, 7, 8, 9, 10, 11, 12, 13, 14, 15, 16]) G0 u.2.2.2 ∧ jOw (dC, dI) G0 2 r0 H0 t.heap) (jA base)) (LC - H0.size) (LS - jTot H0) (jA base) := by
  refine Met.ofW (cc := cX0_number) (maxL := 9) (ret := none) (by decide) rfl ?_
  intro p e s m args below meth c s₁ Bd hml hv
  obtain ⟨rfl, hH0, hX, hG, hg_r0, hg_pa, hP0, hLC0, hLS0, hp0, hp1, hp2, hp3, hp4, hp5⟩ := hv
  have hK := hG.1
  have hx := Bd.exec
  have hb := Bd.bytes
  have hr := Bd.returns
  have hts := atoms_spec (ws := (jw yX0_number cX0_number 9 none)) Bd.pre
  have htw : ∀ w ∈ jWl, w.before _ s = true := fun w h => hts w (List.mem_cons_of_mem _ h)
  have hown : s.vm.findClass RX0 = some m.cls := findClass_of_methodNamed Bd.named
  have hlocks := Bd.notSynchronized
  obtain ⟨Q, hQ⟩ : ∃ Q, Q = MQ below (va_Qv (S := Int32 × Nat × Nat × jT) (fun u => 0 ≤ u.1.toInt ∧ u.1.toInt ≤ u.2.2.1 ∧ n_pa ≤ u.2.2.1 ∧ u.2.2.1 ≤ 128 ∧ jPw u.2.2.1 ∧ u.1.toInt ≤ pc.toInt + 11) (fun u t => jRa (dC, dI) B base G0 u.2.2.2 EX0_numberS H0 ((u.2.2.1 - n_pa) / 16) (2 * (u.2.2.1 - n_pa)) [(r0, 2, 1, .int u.1), (r0, 2, 0, .ref u.2.1)] t.heap ∧ u.2.2.2 u.2.1 = some (196, u.2.2.1) ∧ (jNk [0, 1, 2, 3, 4, 5, 6, 7, 8, 9, 10, 11, 12, 13, 14, 15, 16]) G0 u.2.2.2 ∧ jOw (dC, dI) G0 2 r0 H0 t.heap) (jA base)) ([.ref r0, .int a1] : List Value).toArray s (LC - H0.size) (LS - jTot H0) (jA base) := ⟨_, rfl⟩
  rw [← hQ]
  have hl := lv_entry ([.ref r0, .int a1]) (n := 9) (Nat.le_of_ble_eq_true rfl)
  rw [lg_entry_eq]
  generalize (lg_sl ([.ref r0, .int a1]) ++ List.replicate (9 - (lg_sl ([.ref r0, .int a1])).length) Slot.unset).toArray = ls at hl ⊢
  have hl : lv_has ls 9 [(0, .ref r0), (1, .int a1)] := hl
  generalize hR : (headSpec (jw yX0_number cX0_number 9 none) ({ frames := 3, cells := LC - H0.size, slots := LS - jTot H0, locals := 83 })).room = R
  subst hH0
  have hh : jSt (dC, dI) B base G0 G0 EX0_numberS s.heap 0 0 [(r0, 2, 1, .int pc), (r0, 2, 0, .ref pa)] [] [] s.heap [] := jSt.start hX hP0 jMc.nil jIs.nil
  clear hX hP0
  have hk0 : (0 : Int32).toInt = 0 := by decide
  have hk1 : (1 : Int32).toInt = 1 := by decide
  have hk45 : (45 : Int32).toInt = 45 := by decide
  have hrg_a1 := jb_rng a1
  have hbs : base ≤ s.heap.size := Nat.le_of_lt (Nat.lt_of_le_of_lt (hh.ab hg_r0).1 (hh.ab hg_r0).2)
  have hRc : R.cells = LC - s.heap.size := by rw [← hR]; rfl
  have hRs : R.slots = LS - jTot s.heap := by rw [← hR]; rfl
  have hh_1 := hh.addI (jOw.ie (dC := dC) (dI := dI) (G0 := G0) (k := 2) (r := r0) (H0 := s.heap) (F := [(2, 0), (2, 1)]) (C := RX0) (T := TX0) (N := 2) rfl (by decide) hh.2.2.2.2.1 (jOw.rf))
  clear hh
  refine lv_iload_n hx hb dX0_number_0 rfl (lv_at hl 1 rfl) ?_
  refine lv_i2l hx hb dX0_number_1 rfl ?_
  refine lv_topl (fun z_2 ez_2 => ?_)
  refine lv_lstore_n (lv' := [(2, .long z_2), (0, .ref r0), (1, .int a1)]) hx hb dX0_number_2 rfl hl (by decide) rfl (fun ls hl => ?_)
  refine lv_lload_n hx hb dX0_number_3 rfl (lv_at hl 0 rfl) ?_
  refine lv_lconst (v := 0) hx hb dX0_number_4 (by decide) ?_
  refine W.lcmp hx hb dX0_number_5 ?_
  refine lv_topi (fun z_3 ez_3 => ?_)
  have hz_3 := jb_lcmp ez_3
  have hqz_3_0 : (0 : Int64).toInt = 0 := by decide
  have C18 : ∀ (Gx_4 : jT) (zcx_4 : Nat) (zsx_4 : Nat) (v2_4 : Int64) (wc_4 : Int32) (wr_4 : Nat) (m_wr_4 : Nat) (H_4 : Heap) (locs_4 : List Loc), jSt (dC, dI) B base G0 Gx_4 EX0_numberS s.heap zcx_4 zsx_4 [(r0, 2, 1, .int wc_4), (r0, 2, 0, .ref wr_4)] [] [([(2, 0), (2, 1)], jOw (dC, dI) G0 2 r0 s.heap)] H_4 locs_4 → (jNk [0, 1, 2, 3, 4, 5, 6, 7, 8, 9, 10, 11, 12, 13, 14, 15, 16]) G0 Gx_4 → jLe G0 Gx_4 → Gx_4 wr_4 = some (196, m_wr_4) → (0 ≤ wc_4.toInt ∧ wc_4.toInt ≤ m_wr_4 ∧ n_pa ≤ m_wr_4 ∧ m_wr_4 ≤ 128 ∧ jPw m_wr_4 ∧ zcx_4 ≤ (m_wr_4 - n_pa) / 16 ∧ zsx_4 ≤ 2 * (m_wr_4 - n_pa) ∧ wc_4.toInt ≤ pc.toInt + 1) → ∀ ls : Array Slot, lv_has ls 9 [(0, .ref r0), (1, .int a1), (2, .long v2_4)] → W p l e R s m ([.ref r0, .int a1] : List Value).toArray below meth c H_4 locs_4 zcx_4 zsx_4 Q (F0 m 18 ls []) := by
    intro Gx_4 zcx_4 zsx_4 v2_4 wc_4 wr_4 m_wr_4 H_4 locs_4 hh_4 hN_4 hle_4 hg_wr_4 hi_4 ls hl
    have hg_5 := hle_4 _ _ hg_r0
    obtain ⟨hi_4_0, hi_4_1, hi_4_2, hi_4_3, hi_4_4, hi_4_5, hi_4_6, hi_4_7⟩ := hi_4
    refine lv_iconst (v := 0) hx hb dX0_number_18 (by decide) ?_
    refine lv_istore (lv' := [(4, .int 0), (0, .ref r0), (1, .int a1), (2, .long v2_4)]) hx hb dX0_number_19 hl (by decide) rfl (fun ls hl => ?_)
    refine lv_ldc2 hx hb hown (htw (.constantLong RX0 44 1000000000) (jWr_24 _ (List.mem_of_getElem? (i := 19) rfl))) dX0_number_21 ?_
    refine lv_lstore (lv' := [(5, .long 1000000000), (4, .int 0), (0, .ref r0), (1, .int a1), (2, .long v2_4)]) hx hb dX0_number_24 hl (by decide) rfl (fun ls hl => ?_)
    have L26 : ∀ (N : Nat) (Gx_6 : jT) (zcx_6 : Nat) (zsx_6 : Nat) (v4_6 : Int32) (v5_6 : Int64) (wc_6 : Int32) (wr_6 : Nat) (m_wr_6 : Nat) (gk : Int) (H_6 : Heap) (locs_6 : List Loc), jSt (dC, dI) B base G0 Gx_6 EX0_numberS s.heap zcx_6 zsx_6 [(r0, 2, 1, .int wc_6), (r0, 2, 0, .ref wr_6)] [] [([(2, 0), (2, 1)], jOw (dC, dI) G0 2 r0 s.heap)] H_6 locs_6 → (jNk [0, 1, 2, 3, 4, 5, 6, 7, 8, 9, 10, 11, 12, 13, 14, 15, 16]) G0 Gx_6 → jLe Gx_4 Gx_6 → (v4_6 = 0 ∨ v4_6 = 1) → Gx_6 wr_6 = some (196, m_wr_6) → (0 ≤ wc_6.toInt ∧ wc_6.toInt ≤ m_wr_6 ∧ n_pa ≤ m_wr_6 ∧ m_wr_6 ≤ 128 ∧ jPw m_wr_6 ∧ zcx_6 ≤ (m_wr_6 - n_pa) / 16 ∧ zsx_6 ≤ 2 * (m_wr_6 - n_pa) ∧ 0 ≤ gk ∧ wc_6.toInt ≤ pc.toInt + 11 - gk ∧ jTen v5_6.toInt gk) → (gk : Int) < N → ∀ ls : Array Slot, lv_has ls 9 [(0, .ref r0), (1, .int a1), (2, .long v2_4), (4, .int v4_6), (5, .long v5_6)] → W p l e R s m ([.ref r0, .int a1] : List Value).toArray below meth c H_6 locs_6 zcx_6 zsx_6 Q (F0 m 26 ls []) := by
      intro N
      induction N with
      | zero => intro Gx_6 zcx_6 zsx_6 v4_6 v5_6 wc_6 wr_6 m_wr_6 gk H_6 locs_6 hh_6 hN_6 hle_6 hb_v4_6 hg_wr_6 hi_6 hm; exact absurd hm (by omega)
      | succ N L26 =>
        intro Gx_6 zcx_6 zsx_6 v4_6 v5_6 wc_6 wr_6 m_wr_6 gk H_6 locs_6 hh_6 hN_6 hle_6 hb_v4_6 hg_wr_6 hi_6 hm_6 ls hl
        have hg_7 := hle_6 _ _ hg_5
        obtain ⟨hi_6_0, hi_6_1, hi_6_2, hi_6_3, hi_6_4, hi_6_5, hi_6_6, hi_6_7, hi_6_8, hi_6_9⟩ := hi_6
        have hb_v4_6' := jb_01 hb_v4_6
        refine lv_lload hx hb dX0_number_26 (lv_at hl 4 rfl) ?_
        refine lv_lconst (v := 0) hx hb dX0_number_28 (by decide) ?_
        refine W.lcmp hx hb dX0_number_29 ?_
        refine lv_topi (fun z_8 ez_8 => ?_)
        have hz_8 := jb_lcmp ez_8
        have hqz_8_0 : (0 : Int64).toInt = 0 := by decide
        refine lv_if_le (tgt := 96) hx hb dX0_number_30 (by decide) (fun c_9 => ?_) (fun c_9 => ?_)
        · skip
          have c_9' : z_8.toInt ≤ 0 := jb_le (rfl) ((by decide)) c_9
          have hsz_10 := hh_6.2.2.2.2.2.1
          have htt_10 := hh_6.2.2.2.2.2.2.1
          refine W.room (fun hrc_10 hrs_10 => ?_)
          refine W.widen (k := LC - s.heap.size) (n := LS - jTot s.heap) (by omega) (by omega) ?_
          rw [hQ]
          exact W.vret hx hb hr (fun t ht hW => ⟨⟨(wc_6, wr_6, m_wr_6, Gx_6), rfl, by (try dsimp only); exact ⟨(by first | omega | rfl | assumption | fail), (by first | omega | rfl | assumption | fail), (by first | omega | rfl | assumption | fail), (by first | omega | rfl | assumption | fail), (by first | assumption | fail | omega), (by first | omega | rfl | assumption | fail)⟩, ⟨hh_6.ra (by first | omega | (simp only; omega)) (by first | omega | (simp only; omega)) (M1 := [(r0, 2, 1, .int wc_6), (r0, 2, 0, .ref wr_6)]) [0, 1] rfl ht, hg_wr_6, hN_6, by rw [ht]; exact hh_6.iv 0 rfl⟩⟩, by rw [ht]; try exact hh_6.1.1, fun q h9 hq => by rw [ht]; try exact hh_6.1.2.1 q h9 hq⟩) hh_6.1.2.2 dX0_number_96
        · skip
          have c_9' : z_8.toInt > 0 := jb_le_n (rfl) ((by decide)) c_9
          have hk1 := hi_6_9.pos (by omega)
          refine lv_lload_n hx hb dX0_number_33 rfl (lv_at hl 2 rfl) ?_
          refine lv_lload hx hb dX0_number_34 (lv_at hl 4 rfl) ?_
          refine lv_ldiv hx hb dX0_number_36 (jb_lne (by omega)) ?_
          refine lv_topl (fun z_11 ez_11 => ?_)
          refine lv_ldc2 hx hb hown (htw (.constantLong RX0 46 10) (jWr_24 _ (List.mem_of_getElem? (i := 20) rfl))) dX0_number_37 ?_
          refine lv_lrem hx hb dX0_number_40 (by decide) ?_
          refine lv_topl (fun z_12 ez_12 => ?_)
          refine lv_lstore (lv' := [(7, .long z_12), (0, .ref r0), (1, .int a1), (2, .long v2_4), (4, .int v4_6), (5, .long v5_6)]) hx hb dX0_number_41 hl (by decide) rfl (fun ls hl => ?_)
          refine lv_iload hx hb dX0_number_43 (lv_at hl 4 rfl) ?_
          have C67 : ∀ (w0_13 : Int32) (H_13 : Heap) (locs_13 : List Loc), jSt (dC, dI) B base G0 Gx_6 EX0_numberS s.heap zcx_6 zsx_6 [(r0, 2, 1, .int wc_6), (r0, 2, 0, .ref wr_6)] [] [([(2, 0), (2, 1)], jOw (dC, dI) G0 2 r0 s.heap)] H_13 locs_13 → (w0_13 = 0 ∨ w0_13 = 1) → (True) → ∀ ls : Array Slot, lv_has ls 9 [(0, .ref r0), (1, .int a1), (2, .long v2_4), (4, .int v4_6), (5, .long v5_6), (7, .long z_12)] → W p l e R s m ([.ref r0, .int a1] : List Value).toArray below meth c H_13 locs_13 zcx_6 zsx_6 Q (F0 m 67 ls [.int w0_13]) := by
            intro w0_13 H_13 locs_13 hh_13 hb_w0_13 hi_13 ls hl
            have hb_w0_13' := jb_01 hb_w0_13
            refine lv_istore (lv' := [(4, .int w0_13), (0, .ref r0), (1, .int a1), (2, .long v2_4), (5, .long v5_6), (7, .long z_12)]) hx hb dX0_number_67 hl (by decide) rfl (fun ls hl => ?_)
            refine lv_iload hx hb dX0_number_69 (lv_at hl 0 rfl) ?_
            refine lv_if_eq (tgt := 85) hx hb dX0_number_71 (by decide) (fun c_14 => ?_) (fun c_14 => ?_)
            · skip
              have c_14' : w0_13.toInt = 0 := jb_eq (rfl) ((by decide)) c_14
              refine lv_lload hx hb dX0_number_85 (lv_at hl 4 rfl) ?_
              refine lv_ldc2 hx hb hown (htw (.constantLong RX0 46 10) (jWr_24 _ (List.mem_of_getElem? (i := 20) rfl))) dX0_number_87 ?_
              refine lv_ldiv hx hb dX0_number_90 (by decide) ?_
              refine lv_topl (fun z_15 ez_15 => ?_)
              have hz_15 : z_15.toInt = v5_6.toInt / 10 := by rw [ez_15]; exact jb_ldiv (rfl) ((by decide)) (by omega) (by omega)
              refine lv_lstore (lv' := [(5, .long z_15), (4, .int w0_13), (0, .ref r0), (1, .int a1), (2, .long v2_4), (7, .long z_12)]) hx hb dX0_number_91 hl (by decide) rfl (fun ls hl => ?_)
              refine lv_goto (tgt := 26) hx hb dX0_number_93 (by decide) ?_
              refine W.tight (c2 := zcx_6) (n2 := zsx_6) hh_13.2.2.2.2.2.1 hh_13.2.2.2.2.2.2.1 ?_
              exact L26 Gx_6 zcx_6 zsx_6 w0_13 z_15 wc_6 wr_6 m_wr_6 (gk - 1) _ _ hh_13 (hN_6) (hle_6) (hb_w0_13) hg_wr_6 (by refine ⟨by omega, by omega, by omega, by omega, by assumption, by omega, by omega, by omega, by omega, hi_6_9.step (by omega) (by omega) (by omega)⟩) (by omega) _ (lv_sub hl [2, 3, 4, 1, 0] rfl)
            · skip
              have c_14' : w0_13.toInt ≠ 0 := jb_eq_n (rfl) ((by decide)) c_14
              refine lv_aload_n hx hb dX0_number_74 rfl (lv_at hl 1 rfl) ?_
              refine lv_ldc2 hx hb hown (htw (.constantLong RX0 48 48) (jWr_24 _ (List.mem_of_getElem? (i := 21) rfl))) dX0_number_75 ?_
              refine lv_lload hx hb dX0_number_78 (lv_at hl 5 rfl) ?_
              refine lv_ladd hx hb dX0_number_80 ?_
              refine lv_topl (fun z_16 ez_16 => ?_)
              refine lv_l2i hx hb dX0_number_81 rfl ?_
              refine lv_topi (fun z_17 ez_17 => ?_)
              have hsz_18 := hh_13.2.2.2.2.2.1
              have htt_18 := hh_13.2.2.2.2.2.2.1
              refine W.room (fun hrc_18 hrs_18 => ?_)
              refine va_callv (A0 := jA base) (H0 := s.heap) (va_runV (As := [.int z_17]) (rest := []) ⟨hx, hb, hml, hown, hts⟩ (uX0_putS l dC dI ca base B hB hAp hB2 hB196 Gx_6 H_13 r0 z_17 wc_6 wr_6 m_wr_6 LC LS) (cwV 1 hts (jgV (jWr_24 _ (List.mem_of_getElem? (i := 22) rfl)) (jWr_16 _ (List.mem_of_getElem? (i := 0) rfl)) (jWr_16 _ (List.mem_of_getElem? (i := 1) rfl)) (jWr_1 _ (List.mem_of_getElem? (i := 14) rfl)) (jWr_16 _ (List.mem_of_getElem? (i := 2) rfl))) rfl rfl rfl (by decide +kernel) ⟨by rw [← hR]; exact Nat.le_of_ble_eq_true rfl, by rw [← hR]; exact Nat.le_of_ble_eq_true rfl⟩) ⟨fun a U g mk q => by obtain ⟨q0, q1, q2, qK, q10, q11, q12, q13⟩ := q; exact ⟨q0, q1, q2, jG.calling g mk a qK, q10, q11, q12, q13⟩, hh_13.recv (C := RX0) (T := TX0) (N := 2) hB2 rfl (by decide) hg_7 hK, fun U hU hW => ⟨rfl, hU, hh_13.2.1, hG.step hW hU hh_13.1, hg_7, hg_wr_6, (hh_13.2.2.1.sub (L1 := [(r0, 2, 1, .int wc_6), (r0, 2, 0, .ref wr_6)]) [0, 1] rfl), (by omega), (by omega), by first | omega | (refine ⟨?_, ?_, ?_, ?_, ?_, ?_⟩ <;> (first | omega | rfl | assumption | decide | exact Or.inl rfl | exact Or.inr rfl | (simp only; omega)))⟩⟩ rfl rfl hl.1 rfl (lv_room (Nat.le_of_ble_eq_true rfl)) dX0_number_82 ⟨by rw [hRc]; omega, by rw [hRs]; omega⟩) hh_13.1 (fun q _ h => h) (fun q h => h) (fun u_18 t_18 H_18 locs_18 ht_18 hvm_18 hr_19 hb_18 hz_18 hk_18 hS_18 => ?_)
              obtain ⟨qc_18, qa_18, m_qa_18, G_18⟩ := u_18
              rw [ht_18] at hb_18
              simp only at hb_18
              obtain ⟨⟨hb_181, hb_182, hb_183, hb_184, hb_185, hb_186⟩, hgq_18_0, hN_18, hbO_18⟩ := hb_18
              have hh_18 : jSt (dC, dI) B base G0 G_18 EX0_numberS s.heap (zcx_6 + ((m_qa_18 - m_wr_6) / 16)) (zsx_6 + (2 * (m_qa_18 - m_wr_6))) [(r0, 2, 1, .int qc_18), (r0, 2, 0, .ref qa_18)] [] [] H_18 locs_18 := (hh_13.callG hb_181 hb_182 hb_183 hb_184 hb_185 hS_18 rfl (L1 := []) [] rfl rfl (M1 := []) [] rfl rfl (I1 := []) [] rfl rfl).more hb_186
              have hNn_18 : (jNk [0, 1, 2, 3, 4, 5, 6, 7, 8, 9, 10, 11, 12, 13, 14, 15, 16]) G0 G_18 := (hN_6).tr hN_18
              have hg_20 := hb_182 _ _ hg_7
              have hd_21 := jOw.tr (hh_13.iv 0 rfl) hh_13.2.2.2.2.1 hbO_18
              have hh_22 := hh_18.addI (jOw.ie (dC := dC) (dI := dI) (G0 := G0) (k := 2) (r := r0) (H0 := s.heap) (F := [(2, 0), (2, 1)]) (C := RX0) (T := TX0) (N := 2) rfl (by decide) hh_18.2.2.2.2.1 (hd_21))
              clear hh_18
              try simp only at hr_19
              obtain ⟨hr_19_0, hr_19_1, hr_19_2, hr_19_3, hr_19_4, hr_19_5⟩ := hr_19
              refine lv_lload hx hb dX0_number_85 (lv_at hl 4 rfl) ?_
              refine lv_ldc2 hx hb hown (htw (.constantLong RX0 46 10) (jWr_24 _ (List.mem_of_getElem? (i := 20) rfl))) dX0_number_87 ?_
              refine lv_ldiv hx hb dX0_number_90 (by decide) ?_
              refine lv_topl (fun z_23 ez_23 => ?_)
              have hz_23 : z_23.toInt = v5_6.toInt / 10 := by rw [ez_23]; exact jb_ldiv (rfl) ((by decide)) (by omega) (by omega)
              refine lv_lstore (lv' := [(5, .long z_23), (4, .int w0_13), (0, .ref r0), (1, .int a1), (2, .long v2_4), (7, .long z_12)]) hx hb dX0_number_91 hl (by decide) rfl (fun ls hl => ?_)
              refine lv_goto (tgt := 26) hx hb dX0_number_93 (by decide) ?_
              refine W.tight (c2 := (zcx_6 + ((m_qa_18 - m_wr_6) / 16))) (n2 := (zsx_6 + (2 * (m_qa_18 - m_wr_6)))) hh_22.2.2.2.2.2.1 hh_22.2.2.2.2.2.2.1 ?_
              exact L26 G_18 (zcx_6 + ((m_qa_18 - m_wr_6) / 16)) (zsx_6 + (2 * (m_qa_18 - m_wr_6))) w0_13 z_23 qc_18 qa_18 m_qa_18 (gk - 1) _ _ hh_22 (hNn_18) ((hle_6).tr hb_182) (hb_w0_13) hgq_18_0 (by refine ⟨by omega, by omega, by omega, by omega, by assumption, by omega, by omega, by omega, by omega, hi_6_9.step (by omega) (by omega) (by omega)⟩) (by omega) _ (lv_sub hl [2, 3, 4, 1, 0] rfl)
          have C62 : ∀ (H_24 : Heap) (locs_24 : List Loc), jSt (dC, dI) B base G0 Gx_6 EX0_numberS s.heap zcx_6 zsx_6 [(r0, 2, 1, .int wc_6), (r0, 2, 0, .ref wr_6)] [] [([(2, 0), (2, 1)], jOw (dC, dI) G0 2 r0 s.heap)] H_24 locs_24 → (True) → ∀ ls : Array Slot, lv_has ls 9 [(0, .ref r0), (1, .int a1), (2, .long v2_4), (4, .int v4_6), (5, .long v5_6), (7, .long z_12)] → W p l e R s m ([.ref r0, .int a1] : List Value).toArray below meth c H_24 locs_24 zcx_6 zsx_6 Q (F0 m 62 ls []) := by
            intro  H_24 locs_24 hh_24  hi_24 ls hl
            refine lv_iconst (v := 1) hx hb dX0_number_62 (by decide) ?_
            refine lv_goto (tgt := 67) hx hb dX0_number_63 (by decide) ?_
            refine W.tight (c2 := zcx_6) (n2 := zsx_6) hh_24.2.2.2.2.2.1 hh_24.2.2.2.2.2.2.1 ?_
            exact C67 1 _ _ hh_24 (Or.inr rfl) (trivial) _ (lv_sub hl [0, 1, 2, 3, 4, 5] rfl)
          refine lv_if_ne (tgt := 62) hx hb dX0_number_45 (by decide) (fun c_25 => ?_) (fun c_25 => ?_)
          · skip
            have c_25' : v4_6.toInt ≠ 0 := jb_ne (rfl) ((by decide)) c_25
            refine W.tight (c2 := zcx_6) (n2 := zsx_6) hh_6.2.2.2.2.2.1 hh_6.2.2.2.2.2.2.1 ?_
            exact C62  _ _ hh_6 (trivial) _ (lv_sub hl [1, 2, 3, 4, 5, 0] rfl)
          · skip
            have c_25' : v4_6.toInt = 0 := jb_ne_n (rfl) ((by decide)) c_25
            refine lv_lload hx hb dX0_number_48 (lv_at hl 0 rfl) ?_
            refine lv_lconst (v := 0) hx hb dX0_number_50 (by decide) ?_
            refine W.lcmp hx hb dX0_number_51 ?_
            refine lv_topi (fun z_26 ez_26 => ?_)
            have hz_26 := jb_lcmp ez_26
            have hqz_26_0 : (0 : Int64).toInt = 0 := by decide
            refine lv_if_gt (tgt := 62) hx hb dX0_number_52 (by decide) (fun c_27 => ?_) (fun c_27 => ?_)
            · skip
              have c_27' : z_26.toInt > 0 := jb_gt (rfl) ((by decide)) c_27
              refine W.tight (c2 := zcx_6) (n2 := zsx_6) hh_6.2.2.2.2.2.1 hh_6.2.2.2.2.2.2.1 ?_
              exact C62  _ _ hh_6 (trivial) _ (lv_sub hl [1, 2, 3, 4, 5, 0] rfl)
            · skip
              have c_27' : z_26.toInt ≤ 0 := jb_gt_n (rfl) ((by decide)) c_27
              refine lv_lload hx hb dX0_number_55 (lv_at hl 5 rfl) ?_
              refine lv_lconst (v := 1) hx hb dX0_number_57 (by decide) ?_
              refine W.lcmp hx hb dX0_number_58 ?_
              refine lv_topi (fun z_28 ez_28 => ?_)
              have hz_28 := jb_lcmp ez_28
              have hqz_28_1 : (1 : Int64).toInt = 1 := by decide
              refine lv_if_ne (tgt := 66) hx hb dX0_number_59 (by decide) (fun c_29 => ?_) (fun c_29 => ?_)
              · skip
                have c_29' : z_28.toInt ≠ 0 := jb_ne (rfl) ((by decide)) c_29
                refine lv_iconst (v := 0) hx hb dX0_number_66 (by decide) ?_
                refine W.tight (c2 := zcx_6) (n2 := zsx_6) hh_6.2.2.2.2.2.1 hh_6.2.2.2.2.2.2.1 ?_
                exact C67 0 _ _ hh_6 (Or.inl rfl) (trivial) _ (lv_sub hl [1, 2, 3, 4, 5, 0] rfl)
              · skip
                have c_29' : z_28.toInt = 0 := jb_ne_n (rfl) ((by decide)) c_29
                refine W.tight (c2 := zcx_6) (n2 := zsx_6) hh_6.2.2.2.2.2.1 hh_6.2.2.2.2.2.2.1 ?_
                exact C62  _ _ hh_6 (trivial) _ (lv_sub hl [1, 2, 3, 4, 5, 0] rfl)
    refine W.tight (c2 := zcx_4) (n2 := zsx_4) hh_4.2.2.2.2.2.1 hh_4.2.2.2.2.2.2.1 ?_
    exact L26 ((10) : Int).toNat.succ Gx_4 zcx_4 zsx_4 0 1000000000 wc_4 wr_4 m_wr_4 (10) _ _ hh_4 (hN_4) (jLe.rf) (Or.inl rfl) hg_wr_4 (by refine ⟨by omega, by omega, by omega, by omega, by assumption, by omega, by omega, by omega, by omega, ?_⟩; exact jTen.z) (by omega) _ (lv_sub hl [2, 3, 4, 1, 0] rfl)
  refine lv_if_ge (tgt := 18) hx hb dX0_number_6 (by decide) (fun c_30 => ?_) (fun c_30 => ?_)
  · skip
    have c_30' : z_3.toInt ≥ 0 := jb_ge (rfl) ((by decide)) c_30
    refine W.tight (c2 := 0) (n2 := 0) hh_1.2.2.2.2.2.1 hh_1.2.2.2.2.2.2.1 ?_
    exact C18 G0 0 0 z_2 pc pa n_pa _ _ hh_1 (jNk.rf) (jLe.rf) hg_pa (by first | omega | (refine ⟨?_, ?_, ?_, ?_, ?_, ?_, ?_, ?_⟩ <;> (first | omega | rfl | assumption | decide | exact Or.inl rfl | exact Or.inr rfl | (simp only; omega)))) _ (lv_sub hl [1, 2, 0] rfl)
  · skip
    have c_30' : z_3.toInt < 0 := jb_ge_n (rfl) ((by decide)) c_30
    refine lv_aload_n hx hb dX0_number_9 rfl (lv_at hl 1 rfl) ?_
    refine lv_bipush (v := 45) hx hb dX0_number_10 (by decide) ?_
    have hsz_31 := hh_1.2.2.2.2.2.1
    have htt_31 := hh_1.2.2.2.2.2.2.1
    refine W.room (fun hrc_31 hrs_31 => ?_)
    refine va_callv (A0 := jA base) (H0 := s.heap) (va_runV (As := [.int 45]) (rest := []) ⟨hx, hb, hml, hown, hts⟩ (uX0_putS l dC dI ca base B hB hAp hB2 hB196 G0 s.heap r0 45 pc pa n_pa LC LS) (cwV 1 hts (jgV (jWr_24 _ (List.mem_of_getElem? (i := 22) rfl)) (jWr_16 _ (List.mem_of_getElem? (i := 0) rfl)) (jWr_16 _ (List.mem_of_getElem? (i := 1) rfl)) (jWr_1 _ (List.mem_of_getElem? (i := 14) rfl)) (jWr_16 _ (List.mem_of_getElem? (i := 2) rfl))) rfl rfl rfl (by decide +kernel) ⟨by rw [← hR]; exact Nat.le_of_ble_eq_true rfl, by rw [← hR]; exact Nat.le_of_ble_eq_true rfl⟩) ⟨fun a U g mk q => by obtain ⟨q0, q1, q2, qK, q10, q11, q12, q13⟩ := q; exact ⟨q0, q1, q2, jG.calling g mk a qK, q10, q11, q12, q13⟩, hh_1.recv (C := RX0) (T := TX0) (N := 2) hB2 rfl (by decide) hg_r0 hK, fun U hU hW => ⟨rfl, hU, hh_1.2.1, hG.step hW hU hh_1.1, hg_r0, hg_pa, (hh_1.2.2.1.sub (L1 := [(r0, 2, 1, .int pc), (r0, 2, 0, .ref pa)]) [0, 1] rfl), (by omega), (by omega), by first | omega | (refine ⟨?_, ?_, ?_, ?_, ?_, ?_⟩ <;> (first | omega | rfl | assumption | decide | exact Or.inl rfl | exact Or.inr rfl | (simp only; omega)))⟩⟩ rfl rfl hl.1 rfl (lv_room (Nat.le_of_ble_eq_true rfl)) dX0_number_12 ⟨by rw [hRc]; omega, by rw [hRs]; omega⟩) hh_1.1 (fun q _ h => h) (fun q h => h) (fun u_31 t_31 H_31 locs_31 ht_31 hvm_31 hr_32 hb_31 hz_31 hk_31 hS_31 => ?_)
    obtain ⟨qc_31, qa_31, m_qa_31, G_31⟩ := u_31
    rw [ht_31] at hb_31
    simp only at hb_31
    obtain ⟨⟨hb_311, hb_312, hb_313, hb_314, hb_315, hb_316⟩, hgq_31_0, hN_31, hbO_31⟩ := hb_31
    have hh_31 : jSt (dC, dI) B base G0 G_31 EX0_numberS s.heap (0 + ((m_qa_31 - n_pa) / 16)) (0 + (2 * (m_qa_31 - n_pa))) [(r0, 2, 1, .int qc_31), (r0, 2, 0, .ref qa_31)] [] [] H_31 locs_31 := (hh_1.callG hb_311 hb_312 hb_313 hb_314 hb_315 hS_31 rfl (L1 := []) [] rfl rfl (M1 := []) [] rfl rfl (I1 := []) [] rfl rfl).more hb_316
    have hNn_31 : (jNk [0, 1, 2, 3, 4, 5, 6, 7, 8, 9, 10, 11, 12, 13, 14, 15, 16]) G0 G_31 := (jNk.rf).tr hN_31
    have hg_33 := hb_312 _ _ hg_r0
    have hd_34 := jOw.tr (hh_1.iv 0 rfl) hh_1.2.2.2.2.1 hbO_31
    have hh_35 := hh_31.addI (jOw.ie (dC := dC) (dI := dI) (G0 := G0) (k := 2) (r := r0) (H0 := s.heap) (F := [(2, 0), (2, 1)]) (C := RX0) (T := TX0) (N := 2) rfl (by decide) hh_31.2.2.2.2.1 (hd_34))
    clear hh_31
    try simp only at hr_32
    obtain ⟨hr_32_0, hr_32_1, hr_32_2, hr_32_3, hr_32_4, hr_32_5⟩ := hr_32
    refine lv_lload_n hx hb dX0_number_15 rfl (lv_at hl 0 rfl) ?_
    refine lv_lneg hx hb dX0_number_16 ?_
    refine lv_topl (fun z_36 ez_36 => ?_)
    refine lv_lstore_n (lv' := [(2, .long z_36), (0, .ref r0), (1, .int a1)]) hx hb dX0_number_17 rfl hl (by decide) rfl (fun ls hl => ?_)
    refine W.tight (c2 := (0 + ((m_qa_31 - n_pa) / 16))) (n2 := (0 + (2 * (m_qa_31 - n_pa)))) hh_35.2.2.2.2.2.1 hh_35.2.2.2.2.2.2.1 ?_
    exact C18 G_31 (0 + ((m_qa_31 - n_pa) / 16)) (0 + (2 * (m_qa_31 - n_pa))) z_36 qc_31 qa_31 m_qa_31 _ _ hh_35 (hNn_31) (hb_312) hgq_31_0 (by first | omega | (refine ⟨?_, ?_, ?_, ?_, ?_, ?_, ?_, ?_⟩ <;> (first | omega | rfl | assumption | decide | exact Or.inl rfl | exact Or.inr rfl | (simp only; omega)))) _ (lv_sub hl [1, 2, 0] rfl)
set_option maxHeartbeats 4000000 in
set_option maxRecDepth 20000 in
theorem uX0_quotedS (l : Launch) (dC : Nat → ClassId) (dI : Nat → Nat → Nat) (ca : Nat → ClassId) (base : Nat) (B : jF) (hB : jBok B) (hAp : jAp (dC, dI)) (hB2 : ∀ n G a H, B 2 n G a H ↔ jOb (dC, dI) 2 2 (F2 n G) a H) (hB101 : ∀ n G a H, B 101 n G a H ↔ jAr (dC, dI) (ca 1) (fun j z => True) n a H) (hB196 : ∀ n G a H, B 196 n G a H ↔ jAr (dC, dI) (ca 0) (fun j z => jBf j z) n a H) (G0 : jT) (H0 : Heap) (r0 : Nat) (r1 : Nat) (a2 : Int32) (a3 : Int32) (n1 : Nat) (pc : Int32) (pa : Nat) (n_pa : Nat) (LC LS : Nat) : Met l yX0_quoted (jw yX0_quoted cX0_quoted 7 none) ({ frames := 5, cells := LC - H0.size, slots := LS - jTot H0, locals := 163 }) (va_Pc [.ref r0, .ref r1, .int a2, .int a3] (fun U => U.heap = H0 ∧ jX B base G0 [] H0 ∧ jG dC dI ca base U ∧ G0 r0 = some (2, 0) ∧ G0 r1 = some (101, n1) ∧ G0 pa = some (196, n_pa) ∧ jP (dC, dI) G0 H0 [(r0, 2, 1, .int pc), (r0, 2, 0, .ref pa)] ∧ H0.size + (128 - n_pa) / 16 + 1 ≤ LC ∧ jTot H0 + 2 * (128 - n_pa) ≤ LS ∧ 0 ≤ pc.toInt ∧ pc.toInt ≤ n_pa ∧ 16 ≤ n_pa ∧ n_pa ≤ 128 ∧ jPw n_pa ∧ n1 ≤ 20 ∧ a2.toInt = 0 ∧ a3.toInt = n1 ∧ pc.toInt = 0)) (va_Qv (S := Int32 × Nat × Nat × jT) (fun u => 0 ≤ u.1.toInt ∧ u.1.toInt ≤ u.2.2.1 ∧ n_pa ≤ u.2.2.1 ∧ u.2.2.1 ≤ 128 ∧ jPw u.2.2.1 ∧ u.1.toInt ≤ 122) (fun u t => jRa (dC, dI) B base G0 u.2.2.2 EX0_quotedS H0 ((u.2.2.1 - n_pa) / 16) (2 * (u.2.2.1 - n_pa)) [(r0, 2, 1, .int u.1), (r0, 2, 0, .ref u.2.1)] t.heap ∧ u.2.2.2 u.2.1 = some (196, u.2.2.1) ∧ (jNk [0, 1, 2, 3, 4, 5, 6, 7, 8, 9, 10, 11, 12, 13, 14, 15, 16]) G0 u.2.2.2 ∧ jOw (dC, dI) G0 2 r0 H0 t.heap) (jA base)) (LC - H0.size) (LS - jTot H0) (jA base) := by
  refine Met.ofW (cc := cX0_quoted) (maxL := 7) (ret := none) (by decide) rfl ?_
  intro p e s m args below meth c s₁ Bd hml hv
  obtain ⟨rfl, hH0, hX, hG, hg_r0, hg_r1, hg_pa, hP0, hLC0, hLS0, hp0, hp1, hp2, hp3, hp4, hp5, hp6, hp7, hp8⟩ := hv
  have hK := hG.1
  have hx := Bd.exec
  have hb := Bd.bytes
  have hr := Bd.returns
  have hts := atoms_spec (ws := (jw yX0_quoted cX0_quoted 7 none)) Bd.pre
  have htw : ∀ w ∈ jWl, w.before _ s = true := fun w h => hts w (List.mem_cons_of_mem _ h)
  have hown : s.vm.findClass RX0 = some m.cls := findClass_of_methodNamed Bd.named
  have hlocks := Bd.notSynchronized
  obtain ⟨Q, hQ⟩ : ∃ Q, Q = MQ below (va_Qv (S := Int32 × Nat × Nat × jT) (fun u => 0 ≤ u.1.toInt ∧ u.1.toInt ≤ u.2.2.1 ∧ n_pa ≤ u.2.2.1 ∧ u.2.2.1 ≤ 128 ∧ jPw u.2.2.1 ∧ u.1.toInt ≤ 122) (fun u t => jRa (dC, dI) B base G0 u.2.2.2 EX0_quotedS H0 ((u.2.2.1 - n_pa) / 16) (2 * (u.2.2.1 - n_pa)) [(r0, 2, 1, .int u.1), (r0, 2, 0, .ref u.2.1)] t.heap ∧ u.2.2.2 u.2.1 = some (196, u.2.2.1) ∧ (jNk [0, 1, 2, 3, 4, 5, 6, 7, 8, 9, 10, 11, 12, 13, 14, 15, 16]) G0 u.2.2.2 ∧ jOw (dC, dI) G0 2 r0 H0 t.heap) (jA base)) ([.ref r0, .ref r1, .int a2, .int a3] : List Value).toArray s (LC - H0.size) (LS - jTot H0) (jA base) := ⟨_, rfl⟩
  rw [← hQ]
  have hl := lv_entry ([.ref r0, .ref r1, .int a2, .int a3]) (n := 7) (Nat.le_of_ble_eq_true rfl)
  rw [lg_entry_eq]
  generalize (lg_sl ([.ref r0, .ref r1, .int a2, .int a3]) ++ List.replicate (7 - (lg_sl ([.ref r0, .ref r1, .int a2, .int a3])).length) Slot.unset).toArray = ls at hl ⊢
  have hl : lv_has ls 7 [(0, .ref r0), (1, .ref r1), (2, .int a2), (3, .int a3)] := hl
  generalize hR : (headSpec (jw yX0_quoted cX0_quoted 7 none) ({ frames := 5, cells := LC - H0.size, slots := LS - jTot H0, locals := 163 })).room = R
  subst hH0
  have hh : jSt (dC, dI) B base G0 G0 EX0_quotedS s.heap 0 0 [(r0, 2, 1, .int pc), (r0, 2, 0, .ref pa)] [] [] s.heap [] := jSt.start hX hP0 jMc.nil jIs.nil
  clear hX hP0
  have hk0 : (0 : Int32).toInt = 0 := by decide
  have hk1 : (1 : Int32).toInt = 1 := by decide
  have hk4 : (4 : Int32).toInt = 4 := by decide
  have hk10 : (10 : Int32).toInt = 10 := by decide
  have hk15 : (15 : Int32).toInt = 15 := by decide
  have hk32 : (32 : Int32).toInt = 32 := by decide
  have hk34 : (34 : Int32).toInt = 34 := by decide
  have hk48 : (48 : Int32).toInt = 48 := by decide
  have hk92 : (92 : Int32).toInt = 92 := by decide
  have hk97 : (97 : Int32).toInt = 97 := by decide
  have hk55296 : (55296 : Int32).toInt = 55296 := by decide
  have hk56320 : (56320 : Int32).toInt = 56320 := by decide
  have hk65533 : (65533 : Int32).toInt = 65533 := by decide
  have hk65536 : (65536 : Int32).toInt = 65536 := by decide
  have hcs_60 := htw (.constant RX0 60 65536) (jWr_20 _ (List.mem_of_getElem? (i := 15) rfl))
  have hcs_61 := htw (.constant RX0 61 55296) (jWr_20 _ (List.mem_of_getElem? (i := 17) rfl))
  have hcs_62 := htw (.constant RX0 62 56320) (jWr_21 _ (List.mem_of_getElem? (i := 12) rfl))
  have hcs_66 := htw (.constant RX0 66 65533) (jWr_25 _ (List.mem_of_getElem? (i := 14) rfl))
  obtain ⟨str67, rstr67, hstr670⟩ := hG.str (o := RX0) (k := 67) (tx := "\\u00") (List.mem_of_getElem? (i := 790) (by decide +kernel))
  have hstr67 : jStr base str67 4 s s.heap := hstr670
  have hrg_a2 := jb_rng a2
  have hrg_a3 := jb_rng a3
  have hbs : base ≤ s.heap.size := Nat.le_of_lt (Nat.lt_of_le_of_lt (hh.ab hg_r0).1 (hh.ab hg_r0).2)
  have hRc : R.cells = LC - s.heap.size := by rw [← hR]; rfl
  have hRs : R.slots = LS - jTot s.heap := by rw [← hR]; rfl
  have hh_1 := hh.addI (jOw.ie (dC := dC) (dI := dI) (G0 := G0) (k := 2) (r := r0) (H0 := s.heap) (F := [(2, 0), (2, 1)]) (C := RX0) (T := TX0) (N := 2) rfl (by decide) hh.2.2.2.2.1 (jOw.rf))
  clear hh
  refine lv_aload_n hx hb dX0_quoted_0 rfl (lv_at hl 0 rfl) ?_
  refine lv_bipush (v := 34) hx hb dX0_quoted_1 (by decide) ?_
  have hsz_2 := hh_1.2.2.2.2.2.1
  have htt_2 := hh_1.2.2.2.2.2.2.1
  refine W.room (fun hrc_2 hrs_2 => ?_)
  refine va_callv (A0 := jA base) (H0 := s.heap) (va_runV (As := [.int 34]) (rest := []) ⟨hx, hb, hml, hown, hts⟩ (uX0_putS l dC dI ca base B hB hAp hB2 hB196 G0 s.heap r0 34 pc pa n_pa LC LS) (cwV 1 hts (jgV (jWr_24 _ (List.mem_of_getElem? (i := 22) rfl)) (jWr_16 _ (List.mem_of_getElem? (i := 0) rfl)) (jWr_16 _ (List.mem_of_getElem? (i := 1) rfl)) (jWr_1 _ (List.mem_of_getElem? (i := 14) rfl)) (jWr_16 _ (List.mem_of_getElem? (i := 2) rfl))) rfl rfl rfl (by decide +kernel) ⟨by rw [← hR]; exact Nat.le_of_ble_eq_true rfl, by rw [← hR]; exact Nat.le_of_ble_eq_true rfl⟩) ⟨fun a U g mk q => by obtain ⟨q0, q1, q2, qK, q10, q11, q12, q13⟩ := q; exact ⟨q0, q1, q2, jG.calling g mk a qK, q10, q11, q12, q13⟩, hh_1.recv (C := RX0) (T := TX0) (N := 2) hB2 rfl (by decide) hg_r0 hK, fun U hU hW => ⟨rfl, hU, hh_1.2.1, hG.step hW hU hh_1.1, hg_r0, hg_pa, (hh_1.2.2.1.sub (L1 := [(r0, 2, 1, .int pc), (r0, 2, 0, .ref pa)]) [0, 1] rfl), (by omega), (by omega), ⟨(by first | omega | rfl | assumption | fail), (by first | omega | rfl | assumption | fail), (by first | omega | rfl | assumption | fail), (by first | omega | rfl | assumption | fail), (by first | assumption | fail | omega), (by first | omega | rfl | assumption | fail)⟩⟩⟩ rfl rfl hl.1 rfl (lv_room (Nat.le_of_ble_eq_true rfl)) dX0_quoted_3 ⟨by rw [hRc]; omega, by rw [hRs]; omega⟩) hh_1.1 (fun q _ h => h) (fun q h => h) (fun u_2 t_2 H_2 locs_2 ht_2 hvm_2 hr_3 hb_2 hz_2 hk_2 hS_2 => ?_)
  obtain ⟨qc_2, qa_2, m_qa_2, G_2⟩ := u_2
  rw [ht_2] at hb_2
  simp only at hb_2
  obtain ⟨⟨hb_21, hb_22, hb_23, hb_24, hb_25, hb_26⟩, hgq_2_0, hN_2, hbO_2⟩ := hb_2
  have hh_2 : jSt (dC, dI) B base G0 G_2 EX0_quotedS s.heap (0 + ((m_qa_2 - n_pa) / 16)) (0 + (2 * (m_qa_2 - n_pa))) [(r0, 2, 1, .int qc_2), (r0, 2, 0, .ref qa_2)] [] [] H_2 locs_2 := (hh_1.callG hb_21 hb_22 hb_23 hb_24 hb_25 hS_2 rfl (L1 := []) [] rfl rfl (M1 := []) [] rfl rfl (I1 := []) [] rfl rfl).more hb_26
  have hNn_2 : (jNk [0, 1, 2, 3, 4, 5, 6, 7, 8, 9, 10, 11, 12, 13, 14, 15, 16]) G0 G_2 := (jNk.rf).tr hN_2
  have hg_4 := hb_22 _ _ hg_r0
  have hg_5 := hb_22 _ _ hg_r1
  have hd_6 := jOw.tr (hh_1.iv 0 rfl) hh_1.2.2.2.2.1 hbO_2
  have hh_7 := hh_2.addI (jOw.ie (dC := dC) (dI := dI) (G0 := G0) (k := 2) (r := r0) (H0 := s.heap) (F := [(2, 0), (2, 1)]) (C := RX0) (T := TX0) (N := 2) rfl (by decide) hh_2.2.2.2.2.1 (hd_6))
  clear hh_2
  try simp only at hr_3
  obtain ⟨hr_3_0, hr_3_1, hr_3_2, hr_3_3, hr_3_4, hr_3_5⟩ := hr_3
  have hh_8 := hh_7.wk (zc1 := (m_qa_2 - n_pa) / 16) (zs1 := 2 * (m_qa_2 - n_pa)) (by omega) (by omega)
  clear hh_7
  try clear hsz_2 htt_2 hrc_2 hrs_2
  try clear hb_24 hb_25
  refine lv_iload_n hx hb dX0_quoted_6 rfl (lv_at hl 2 rfl) ?_
  refine lv_iload_n hx hb dX0_quoted_7 rfl (lv_at hl 3 rfl) ?_
  refine lv_iadd hx hb dX0_quoted_8 ?_
  refine lv_topi (fun z_9 ez_9 => ?_)
  have hz_9 : z_9.toInt = a2.toInt + a3.toInt := by rw [ez_9]; exact jb_iadd2 (rfl) (rfl) (by omega)
  refine lv_aload_n hx hb dX0_quoted_9 rfl (lv_at hl 1 rfl) ?_
  refine j7_len hx hb hK hh_8 hB101 1 rfl (by decide) hg_5 (by omega) dX0_quoted_10 (fun z_10 hz_10 => ?_)
  have hsz_11 := hh_8.2.2.2.2.2.1
  have htt_11 := hh_8.2.2.2.2.2.2.1
  refine W.room (fun hrc_11 hrs_11 => ?_)
  refine va_mmin hx hb (by rw [hml]; exact hl.1.symm) hown (htw (.methodLink RX0 50 Lib.Math.min.name) (jWr_25 _ (List.mem_of_getElem? (i := 13) rfl))) (htw (.static Lib.Math.min.name) (jWr_16 _ (List.mem_of_getElem? (i := 16) rfl))) (htw (.initialized "java/lang/Math") (jWr_3 _ (List.mem_of_getElem? (i := 7) rfl))) (htw (.code Lib.Math.min.name Lib.Math.min.code 2 (some .int)) (jWr_16 _ (List.mem_of_getElem? (i := 17) rfl))) (by rw [← hR]; exact Nat.le_of_ble_eq_true rfl) (by rw [← hR]; exact Nat.le_of_ble_eq_true rfl) (by rw [hRc]; omega) (by rw [hRs]; omega) dX0_quoted_11 ?_
  refine lv_topi (fun z_12 ez_12 => ?_)
  have hz_12 := jb_min ez_12
  refine lv_istore (lv' := [(4, .int z_12), (0, .ref r0), (1, .ref r1), (2, .int a2), (3, .int a3)]) hx hb dX0_quoted_14 hl (by decide) rfl (fun ls hl => ?_)
  refine lv_iload_n hx hb dX0_quoted_16 rfl (lv_at hl 3 rfl) ?_
  refine lv_iconst (v := 0) hx hb dX0_quoted_17 (by decide) ?_
  have hsz_13 := hh_8.2.2.2.2.2.1
  have htt_13 := hh_8.2.2.2.2.2.2.1
  refine W.room (fun hrc_13 hrs_13 => ?_)
  refine va_mmax hx hb (by rw [hml]; exact hl.1.symm) hown (htw (.methodLink RX0 7 Lib.Math.max.name) (jWr_3 _ (List.mem_of_getElem? (i := 5) rfl))) (htw (.static Lib.Math.max.name) (jWr_3 _ (List.mem_of_getElem? (i := 6) rfl))) (htw (.initialized "java/lang/Math") (jWr_3 _ (List.mem_of_getElem? (i := 7) rfl))) (htw (.code Lib.Math.max.name Lib.Math.max.code 2 (some .int)) (jWr_3 _ (List.mem_of_getElem? (i := 8) rfl))) (by rw [← hR]; exact Nat.le_of_ble_eq_true rfl) (by rw [← hR]; exact Nat.le_of_ble_eq_true rfl) (by rw [hRc]; omega) (by rw [hRs]; omega) dX0_quoted_18 ?_
  refine lv_topi (fun z_14 ez_14 => ?_)
  have hz_14 := jb_max ez_14
  refine lv_istore (lv' := [(5, .int z_14), (4, .int z_12), (0, .ref r0), (1, .ref r1), (2, .int a2), (3, .int a3)]) hx hb dX0_quoted_21 hl (by decide) rfl (fun ls hl => ?_)
  have L23 : ∀ (N : Nat) (Gx_15 : jT) (zcx_15 : Nat) (zsx_15 : Nat) (v5_15 : Int32) (wc_15 : Int32) (wr_15 : Nat) (m_wr_15 : Nat) (H_15 : Heap) (locs_15 : List Loc), jSt (dC, dI) B base G0 Gx_15 EX0_quotedS s.heap zcx_15 zsx_15 [(r0, 2, 1, .int wc_15), (r0, 2, 0, .ref wr_15)] [] [([(2, 0), (2, 1)], jOw (dC, dI) G0 2 r0 s.heap)] H_15 locs_15 → (jNk [0, 1, 2, 3, 4, 5, 6, 7, 8, 9, 10, 11, 12, 13, 14, 15, 16]) G0 Gx_15 → jLe G_2 Gx_15 → Gx_15 wr_15 = some (196, m_wr_15) → (0 ≤ wc_15.toInt ∧ wc_15.toInt ≤ m_wr_15 ∧ n_pa ≤ m_wr_15 ∧ m_wr_15 ≤ 128 ∧ jPw m_wr_15 ∧ zcx_15 ≤ (m_wr_15 - n_pa) / 16 ∧ zsx_15 ≤ 2 * (m_wr_15 - n_pa) ∧ 0 ≤ v5_15.toInt ∧ v5_15.toInt ≤ z_12.toInt ∧ z_12.toInt ≤ 20 ∧ 1 ≤ wc_15.toInt ∧ wc_15.toInt ≤ 1 + 6 * v5_15.toInt) → (((z_12.toInt - v5_15.toInt).toNat : Int) : Int) < N → ∀ ls : Array Slot, lv_has ls 7 [(0, .ref r0), (1, .ref r1), (2, .int a2), (3, .int a3), (4, .int z_12), (5, .int v5_15)] → W p l e R s m ([.ref r0, .ref r1, .int a2, .int a3] : List Value).toArray below meth c H_15 locs_15 zcx_15 zsx_15 Q (F0 m 23 ls []) := by
    intro N
    induction N with
    | zero => intro Gx_15 zcx_15 zsx_15 v5_15 wc_15 wr_15 m_wr_15 H_15 locs_15 hh_15 hN_15 hle_15 hg_wr_15 hi_15 hm; exact absurd hm (by omega)
    | succ N L23 =>
      intro Gx_15 zcx_15 zsx_15 v5_15 wc_15 wr_15 m_wr_15 H_15 locs_15 hh_15 hN_15 hle_15 hg_wr_15 hi_15 hm_15 ls hl
      have hg_16 := hle_15 _ _ hg_4
      have hg_17 := hle_15 _ _ hg_5
      obtain ⟨hi_15_0, hi_15_1, hi_15_2, hi_15_3, hi_15_4, hi_15_5, hi_15_6, hi_15_7, hi_15_8, hi_15_9, hi_15_10, hi_15_11⟩ := hi_15
      refine lv_iload hx hb dX0_quoted_23 (lv_at hl 5 rfl) ?_
      refine lv_iload hx hb dX0_quoted_25 (lv_at hl 4 rfl) ?_
      refine lv_icmp_ge (tgt := 214) hx hb dX0_quoted_27 (by decide) (fun c_18 => ?_) (fun c_18 => ?_)
      · skip
        have c_18' : v5_15.toInt ≥ z_12.toInt := jb_ge (rfl) (rfl) c_18
        refine lv_aload_n hx hb dX0_quoted_214 rfl (lv_at hl 0 rfl) ?_
        refine lv_bipush (v := 34) hx hb dX0_quoted_215 (by decide) ?_
        have hsz_19 := hh_15.2.2.2.2.2.1
        have htt_19 := hh_15.2.2.2.2.2.2.1
        refine W.room (fun hrc_19 hrs_19 => ?_)
        refine va_callv (A0 := jA base) (H0 := s.heap) (va_runV (As := [.int 34]) (rest := []) ⟨hx, hb, hml, hown, hts⟩ (uX0_putS l dC dI ca base B hB hAp hB2 hB196 Gx_15 H_15 r0 34 wc_15 wr_15 m_wr_15 LC LS) (cwV 1 hts (jgV (jWr_24 _ (List.mem_of_getElem? (i := 22) rfl)) (jWr_16 _ (List.mem_of_getElem? (i := 0) rfl)) (jWr_16 _ (List.mem_of_getElem? (i := 1) rfl)) (jWr_1 _ (List.mem_of_getElem? (i := 14) rfl)) (jWr_16 _ (List.mem_of_getElem? (i := 2) rfl))) rfl rfl rfl (by decide +kernel) ⟨by rw [← hR]; exact Nat.le_of_ble_eq_true rfl, by rw [← hR]; exact Nat.le_of_ble_eq_true rfl⟩) ⟨fun a U g mk q => by obtain ⟨q0, q1, q2, qK, q10, q11, q12, q13⟩ := q; exact ⟨q0, q1, q2, jG.calling g mk a qK, q10, q11, q12, q13⟩, hh_15.recv (C := RX0) (T := TX0) (N := 2) hB2 rfl (by decide) hg_16 hK, fun U hU hW => ⟨rfl, hU, hh_15.2.1, hG.step hW hU hh_15.1, hg_16, hg_wr_15, (hh_15.2.2.1.sub (L1 := [(r0, 2, 1, .int wc_15), (r0, 2, 0, .ref wr_15)]) [0, 1] rfl), (by omega), (by omega), ⟨(by first | omega | rfl | assumption | fail), (by first | omega | rfl | assumption | fail), (by first | omega | rfl | assumption | fail), (by first | omega | rfl | assumption | fail), (by first | assumption | fail | omega), (by first | omega | rfl | assumption | fail)⟩⟩⟩ rfl rfl hl.1 rfl (lv_room (Nat.le_of_ble_eq_true rfl)) dX0_quoted_217 ⟨by rw [hRc]; omega, by rw [hRs]; omega⟩) hh_15.1 (fun q _ h => h) (fun q h => h) (fun u_19 t_19 H_19 locs_19 ht_19 hvm_19 hr_20 hb_19 hz_19 hk_19 hS_19 => ?_)
        obtain ⟨qc_19, qa_19, m_qa_19, G_19⟩ := u_19
        rw [ht_19] at hb_19
        simp only at hb_19
        obtain ⟨⟨hb_191, hb_192, hb_193, hb_194, hb_195, hb_196⟩, hgq_19_0, hN_19, hbO_19⟩ := hb_19
        have hh_19 : jSt (dC, dI) B base G0 G_19 EX0_quotedS s.heap (zcx_15 + ((m_qa_19 - m_wr_15) / 16)) (zsx_15 + (2 * (m_qa_19 - m_wr_15))) [(r0, 2, 1, .int qc_19), (r0, 2, 0, .ref qa_19)] [] [] H_19 locs_19 := (hh_15.callG hb_191 hb_192 hb_193 hb_194 hb_195 hS_19 rfl (L1 := []) [] rfl rfl (M1 := []) [] rfl rfl (I1 := []) [] rfl rfl).more hb_196
        have hNn_19 : (jNk [0, 1, 2, 3, 4, 5, 6, 7, 8, 9, 10, 11, 12, 13, 14, 15, 16]) G0 G_19 := (hN_15).tr hN_19
        have hg_21 := hb_192 _ _ hg_16
        have hg_22 := hb_192 _ _ hg_17
        have hd_23 := jOw.tr (hh_15.iv 0 rfl) hh_15.2.2.2.2.1 hbO_19
        have hh_24 := hh_19.addI (jOw.ie (dC := dC) (dI := dI) (G0 := G0) (k := 2) (r := r0) (H0 := s.heap) (F := [(2, 0), (2, 1)]) (C := RX0) (T := TX0) (N := 2) rfl (by decide) hh_19.2.2.2.2.1 (hd_23))
        clear hh_19
        try simp only at hr_20
        obtain ⟨hr_20_0, hr_20_1, hr_20_2, hr_20_3, hr_20_4, hr_20_5⟩ := hr_20
        have hh_25 := hh_24.wk (zc1 := (m_qa_19 - n_pa) / 16) (zs1 := 2 * (m_qa_19 - n_pa)) (by omega) (by omega)
        clear hh_24
        try clear hsz_19 htt_19 hrc_19 hrs_19
        try clear hb_194 hb_195
        have hsz_26 := hh_25.2.2.2.2.2.1
        have htt_26 := hh_25.2.2.2.2.2.2.1
        refine W.room (fun hrc_26 hrs_26 => ?_)
        refine W.widen (k := LC - s.heap.size) (n := LS - jTot s.heap) (by omega) (by omega) ?_
        rw [hQ]
        exact W.vret hx hb hr (fun t ht hW => ⟨⟨(qc_19, qa_19, m_qa_19, G_19), rfl, by (try dsimp only); exact ⟨(by first | omega | rfl | assumption | fail), (by first | omega | rfl | assumption | fail), (by first | omega | rfl | assumption | fail), (by first | omega | rfl | assumption | fail), (by first | assumption | fail | omega), (by first | omega | rfl | assumption | fail)⟩, ⟨hh_25.ra (by first | omega | (simp only; omega)) (by first | omega | (simp only; omega)) (M1 := [(r0, 2, 1, .int qc_19), (r0, 2, 0, .ref qa_19)]) [0, 1] rfl ht, hgq_19_0, hNn_19, by rw [ht]; exact hh_25.iv 0 rfl⟩⟩, by rw [ht]; try exact hh_25.1.1, fun q h9 hq => by rw [ht]; try exact hh_25.1.2.1 q h9 hq⟩) hh_25.1.2.2 dX0_quoted_220
      · skip
        have c_18' : v5_15.toInt < z_12.toInt := jb_ge_n (rfl) (rfl) c_18
        refine lv_aload_n hx hb dX0_quoted_30 rfl (lv_at hl 1 rfl) ?_
        refine lv_iload hx hb dX0_quoted_31 (lv_at hl 5 rfl) ?_
        refine j7_iald hx hb hK hh_15 hB101 1 rfl (by decide) hg_17 (x := v5_15.toInt) (rfl) (by omega) dX0_quoted_33 (fun z_27 (hz_27 : True) => ?_)
        refine lv_istore (lv' := [(6, .int z_27), (0, .ref r0), (1, .ref r1), (2, .int a2), (3, .int a3), (4, .int z_12), (5, .int v5_15)]) hx hb dX0_quoted_34 hl (by decide) rfl (fun ls hl => ?_)
        refine lv_iload hx hb dX0_quoted_36 (lv_at hl 0 rfl) ?_
        have hsz_30 := hh_15.2.2.2.2.2.1
        have htt_30 := hh_15.2.2.2.2.2.2.1
        refine W.room (fun hrc_30 hrs_30 => ?_)
        have hsz_29 := hh_15.2.2.2.2.2.1
        have htt_29 := hh_15.2.2.2.2.2.2.1
        refine W.room (fun hrc_29 hrs_29 => ?_)
        refine vp_callSi (W.runS (As := [.int z_27]) (rest := []) ⟨hx, hb, hml, hown, hts⟩ (wX0_isHigh l dC dI ca base H_15 z_27) (va_cwS 1 hts (jgS (jWr_25 _ (List.mem_of_getElem? (i := 15) rfl)) (jWr_21 _ (List.mem_of_getElem? (i := 18) rfl)) (jWr_1 _ (List.mem_of_getElem? (i := 14) rfl)) (jWr_21 _ (List.mem_of_getElem? (i := 19) rfl))) rfl rfl rfl (by decide +kernel) ⟨by rw [← hR]; exact Nat.le_of_ble_eq_true rfl, by rw [← hR]; exact Nat.le_of_ble_eq_true rfl⟩) ⟨fun a U g mk q => by obtain ⟨q0, q1, qK, q9⟩ := q; exact ⟨q0, q1, jG.calling g mk a qK, q9⟩, fun U hU hW => ⟨rfl, hU, hG.step hW hU hh_15.1, by first | trivial | omega | (constructor <;> omega)⟩⟩ rfl rfl hl.1 rfl (lv_room (Nat.le_of_ble_eq_true rfl)) dX0_quoted_38 ⟨by rw [hRc]; omega, by rw [hRs]; omega⟩) (fun r_28 hr_28 => ?_)
        have hr_28' : r_28.toInt = 0 ∨ r_28.toInt = 1 := jb_01 hr_28
        have C94 : ∀ (H_31 : Heap) (locs_31 : List Loc), jSt (dC, dI) B base G0 Gx_15 EX0_quotedS s.heap zcx_15 zsx_15 [(r0, 2, 1, .int wc_15), (r0, 2, 0, .ref wr_15)] [] [([(2, 0), (2, 1)], jOw (dC, dI) G0 2 r0 s.heap)] H_31 locs_31 → (True) → ∀ ls : Array Slot, lv_has ls 7 [(0, .ref r0), (1, .ref r1), (2, .int a2), (3, .int a3), (4, .int z_12), (5, .int v5_15), (6, .int z_27)] → W p l e R s m ([.ref r0, .ref r1, .int a2, .int a3] : List Value).toArray below meth c H_31 locs_31 zcx_15 zsx_15 Q (F0 m 94 ls []) := by
          intro  H_31 locs_31 hh_31  hi_31 ls hl
          refine lv_iload hx hb dX0_quoted_94 (lv_at hl 6 rfl) ?_
          have hsz_34 := hh_31.2.2.2.2.2.1
          have htt_34 := hh_31.2.2.2.2.2.2.1
          refine W.room (fun hrc_34 hrs_34 => ?_)
          have hsz_33 := hh_31.2.2.2.2.2.1
          have htt_33 := hh_31.2.2.2.2.2.2.1
          refine W.room (fun hrc_33 hrs_33 => ?_)
          refine vp_callSi (W.runS (As := [.int z_27]) (rest := []) ⟨hx, hb, hml, hown, hts⟩ (wX0_isHigh l dC dI ca base H_31 z_27) (va_cwS 1 hts (jgS (jWr_25 _ (List.mem_of_getElem? (i := 15) rfl)) (jWr_21 _ (List.mem_of_getElem? (i := 18) rfl)) (jWr_1 _ (List.mem_of_getElem? (i := 14) rfl)) (jWr_21 _ (List.mem_of_getElem? (i := 19) rfl))) rfl rfl rfl (by decide +kernel) ⟨by rw [← hR]; exact Nat.le_of_ble_eq_true rfl, by rw [← hR]; exact Nat.le_of_ble_eq_true rfl⟩) ⟨fun a U g mk q => by obtain ⟨q0, q1, qK, q9⟩ := q; exact ⟨q0, q1, jG.calling g mk a qK, q9⟩, fun U hU hW => ⟨rfl, hU, hG.step hW hU hh_31.1, by first | trivial | omega | (constructor <;> omega)⟩⟩ rfl rfl hl.1 rfl (lv_room (Nat.le_of_ble_eq_true rfl)) dX0_quoted_96 ⟨by rw [hRc]; omega, by rw [hRs]; omega⟩) (fun r_32 hr_32 => ?_)
          have hr_32' : r_32.toInt = 0 ∨ r_32.toInt = 1 := jb_01 hr_32
          refine lv_if_ne (tgt := 110) hx hb dX0_quoted_99 (by decide) (fun c_35 => ?_) (fun c_35 => ?_)
          · skip
            have c_35' : r_32.toInt ≠ 0 := jb_ne (rfl) ((by decide)) c_35
            refine lv_aload_n hx hb dX0_quoted_110 rfl (lv_at hl 0 rfl) ?_
            refine lv_ldc hx hb hown hcs_66 dX0_quoted_111 ?_
            have hsz_36 := hh_31.2.2.2.2.2.1
            have htt_36 := hh_31.2.2.2.2.2.2.1
            refine W.room (fun hrc_36 hrs_36 => ?_)
            refine va_callv (A0 := jA base) (H0 := s.heap) (va_runV (As := [.int 65533]) (rest := []) ⟨hx, hb, hml, hown, hts⟩ (uX0_characterS l dC dI ca base B hB hAp hB2 hB196 Gx_15 H_31 r0 65533 wc_15 wr_15 m_wr_15 LC LS) (cwV 1 hts (jgV (jWr_25 _ (List.mem_of_getElem? (i := 17) rfl)) (jWr_25 _ (List.mem_of_getElem? (i := 18) rfl)) (jWr_25 _ (List.mem_of_getElem? (i := 19) rfl)) (jWr_1 _ (List.mem_of_getElem? (i := 14) rfl)) (jWr_25 _ (List.mem_of_getElem? (i := 20) rfl))) rfl rfl rfl (by decide +kernel) ⟨by rw [← hR]; exact Nat.le_of_ble_eq_true rfl, by rw [← hR]; exact Nat.le_of_ble_eq_true rfl⟩) ⟨fun a U g mk q => by obtain ⟨q0, q1, q2, qK, q10, q11, q12, q13⟩ := q; exact ⟨q0, q1, q2, jG.calling g mk a qK, q10, q11, q12, q13⟩, hh_31.recv (C := RX0) (T := TX0) (N := 2) hB2 rfl (by decide) hg_16 hK, fun U hU hW => ⟨rfl, hU, hh_31.2.1, hG.step hW hU hh_31.1, hg_16, hg_wr_15, (hh_31.2.2.1.sub (L1 := [(r0, 2, 1, .int wc_15), (r0, 2, 0, .ref wr_15)]) [0, 1] rfl), (by omega), (by omega), ⟨(by first | omega | rfl | assumption | fail), (by first | omega | rfl | assumption | fail), (by first | omega | rfl | assumption | fail), (by first | omega | rfl | assumption | fail), (by first | assumption | fail | omega), (by first | omega | rfl | assumption | fail)⟩⟩⟩ rfl rfl hl.1 rfl (lv_room (Nat.le_of_ble_eq_true rfl)) dX0_quoted_113 ⟨by rw [hRc]; omega, by rw [hRs]; omega⟩) hh_31.1 (fun q _ h => h) (fun q h => h) (fun u_36 t_36 H_36 locs_36 ht_36 hvm_36 hr_37 hb_36 hz_36 hk_36 hS_36 => ?_)
            obtain ⟨qc_36, qa_36, m_qa_36, G_36⟩ := u_36
            rw [ht_36] at hb_36
            simp only at hb_36
            obtain ⟨⟨hb_361, hb_362, hb_363, hb_364, hb_365, hb_366⟩, hgq_36_0, hN_36, hbO_36⟩ := hb_36
            have hh_36 : jSt (dC, dI) B base G0 G_36 EX0_quotedS s.heap (zcx_15 + ((m_qa_36 - m_wr_15) / 16)) (zsx_15 + (2 * (m_qa_36 - m_wr_15))) [(r0, 2, 1, .int qc_36), (r0, 2, 0, .ref qa_36)] [] [] H_36 locs_36 := (hh_31.callG hb_361 hb_362 hb_363 hb_364 hb_365 hS_36 rfl (L1 := []) [] rfl rfl (M1 := []) [] rfl rfl (I1 := []) [] rfl rfl).more hb_366
            have hNn_36 : (jNk [0, 1, 2, 3, 4, 5, 6, 7, 8, 9, 10, 11, 12, 13, 14, 15, 16]) G0 G_36 := (hN_15).tr hN_36
            have hg_38 := hb_362 _ _ hg_16
            have hg_39 := hb_362 _ _ hg_17
            have hd_40 := jOw.tr (hh_31.iv 0 rfl) hh_31.2.2.2.2.1 hbO_36
            have hh_41 := hh_36.addI (jOw.ie (dC := dC) (dI := dI) (G0 := G0) (k := 2) (r := r0) (H0 := s.heap) (F := [(2, 0), (2, 1)]) (C := RX0) (T := TX0) (N := 2) rfl (by decide) hh_36.2.2.2.2.1 (hd_40))
            clear hh_36
            try simp only at hr_37
            obtain ⟨hr_37_0, hr_37_1, hr_37_2, hr_37_3, hr_37_4, hr_37_5, hr_37_6⟩ := hr_37
            have hh_42 := hh_41.wk (zc1 := (m_qa_36 - n_pa) / 16) (zs1 := 2 * (m_qa_36 - n_pa)) (by omega) (by omega)
            clear hh_41
            try clear hsz_36 htt_36 hrc_36 hrs_36
            try clear hb_364 hb_365
            refine lv_goto (tgt := 208) hx hb dX0_quoted_116 (by decide) ?_
            obtain ⟨z_43, ez_43⟩ : ∃ y : Int32, y = v5_15 + 1 := ⟨_, rfl⟩
            refine lv_iinc (v := z_43) (lv' := [(5, .int z_43), (0, .ref r0), (1, .ref r1), (2, .int a2), (3, .int a3), (4, .int z_12), (6, .int z_27)]) hx hb dX0_quoted_208 hl (k := 5) rfl (by rw [ez_43]; rfl) (by decide) rfl (fun ls hl => ?_)
            have hz_43 : z_43.toInt = v5_15.toInt + 1 := by rw [ez_43]; exact jb_iadd2 (rfl) (by decide) (by omega)
            refine lv_goto (tgt := 23) hx hb dX0_quoted_211 (by decide) ?_
            refine W.tight (c2 := ((m_qa_36 - n_pa) / 16)) (n2 := (2 * (m_qa_36 - n_pa))) hh_42.2.2.2.2.2.1 hh_42.2.2.2.2.2.2.1 ?_
            exact L23 G_36 ((m_qa_36 - n_pa) / 16) (2 * (m_qa_36 - n_pa)) z_43 qc_36 qa_36 m_qa_36 _ _ hh_42 (hNn_36) ((hle_15).tr hb_362) hgq_36_0 (⟨(by first | omega | rfl | assumption | fail), (by first | omega | rfl | assumption | fail), (by first | omega | rfl | assumption | fail), (by first | omega | rfl | assumption | fail), (by first | assumption | fail | omega), (by first | omega | rfl | assumption | fail), (by first | omega | rfl | assumption | fail), (by first | omega | rfl | assumption | fail), (by first | omega | rfl | assumption | fail), (by first | omega | rfl | assumption | fail), (by first | omega | rfl | assumption | fail), (by first | omega | rfl | assumption | fail)⟩) (by omega) _ (lv_sub hl [1, 2, 3, 4, 5, 0] rfl)
          · skip
            have c_35' : r_32.toInt = 0 := jb_ne_n (rfl) ((by decide)) c_35
            refine lv_iload hx hb dX0_quoted_102 (lv_at hl 6 rfl) ?_
            have hsz_46 := hh_31.2.2.2.2.2.1
            have htt_46 := hh_31.2.2.2.2.2.2.1
            refine W.room (fun hrc_46 hrs_46 => ?_)
            have hsz_45 := hh_31.2.2.2.2.2.1
            have htt_45 := hh_31.2.2.2.2.2.2.1
            refine W.room (fun hrc_45 hrs_45 => ?_)
            refine vp_callSi (W.runS (As := [.int z_27]) (rest := []) ⟨hx, hb, hml, hown, hts⟩ (wX0_isLow l dC dI ca base H_31 z_27) (va_cwS 1 hts (jgS (jWr_25 _ (List.mem_of_getElem? (i := 16) rfl)) (jWr_21 _ (List.mem_of_getElem? (i := 10) rfl)) (jWr_1 _ (List.mem_of_getElem? (i := 14) rfl)) (jWr_21 _ (List.mem_of_getElem? (i := 11) rfl))) rfl rfl rfl (by decide +kernel) ⟨by rw [← hR]; exact Nat.le_of_ble_eq_true rfl, by rw [← hR]; exact Nat.le_of_ble_eq_true rfl⟩) ⟨fun a U g mk q => by obtain ⟨q0, q1, qK, q9⟩ := q; exact ⟨q0, q1, jG.calling g mk a qK, q9⟩, fun U hU hW => ⟨rfl, hU, hG.step hW hU hh_31.1, by first | trivial | omega | (constructor <;> omega)⟩⟩ rfl rfl hl.1 rfl (lv_room (Nat.le_of_ble_eq_true rfl)) dX0_quoted_104 ⟨by rw [hRc]; omega, by rw [hRs]; omega⟩) (fun r_44 hr_44 => ?_)
            have hr_44' : r_44.toInt = 0 ∨ r_44.toInt = 1 := jb_01 hr_44
            refine lv_if_eq (tgt := 119) hx hb dX0_quoted_107 (by decide) (fun c_47 => ?_) (fun c_47 => ?_)
            · skip
              have c_47' : r_44.toInt = 0 := jb_eq (rfl) ((by decide)) c_47
              refine lv_iload hx hb dX0_quoted_119 (lv_at hl 6 rfl) ?_
              refine lv_bipush (v := 32) hx hb dX0_quoted_121 (by decide) ?_
              refine lv_icmp_ge (tgt := 182) hx hb dX0_quoted_123 (by decide) (fun c_48 => ?_) (fun c_48 => ?_)
              · skip
                have c_48' : z_27.toInt ≥ 32 := jb_ge (rfl) ((by decide)) c_48
                refine lv_iload hx hb dX0_quoted_182 (lv_at hl 6 rfl) ?_
                refine lv_bipush (v := 34) hx hb dX0_quoted_184 (by decide) ?_
                refine lv_icmp_eq (tgt := 196) hx hb dX0_quoted_186 (by decide) (fun c_49 => ?_) (fun c_49 => ?_)
                · skip
                  have c_49' : z_27.toInt = 34 := jb_eq (rfl) ((by decide)) c_49
                  refine lv_aload_n hx hb dX0_quoted_196 rfl (lv_at hl 0 rfl) ?_
                  refine lv_bipush (v := 92) hx hb dX0_quoted_197 (by decide) ?_
                  have hsz_50 := hh_31.2.2.2.2.2.1
                  have htt_50 := hh_31.2.2.2.2.2.2.1
                  refine W.room (fun hrc_50 hrs_50 => ?_)
                  refine va_callv (A0 := jA base) (H0 := s.heap) (va_runV (As := [.int 92]) (rest := []) ⟨hx, hb, hml, hown, hts⟩ (uX0_putS l dC dI ca base B hB hAp hB2 hB196 Gx_15 H_31 r0 92 wc_15 wr_15 m_wr_15 LC LS) (cwV 1 hts (jgV (jWr_24 _ (List.mem_of_getElem? (i := 22) rfl)) (jWr_16 _ (List.mem_of_getElem? (i := 0) rfl)) (jWr_16 _ (List.mem_of_getElem? (i := 1) rfl)) (jWr_1 _ (List.mem_of_getElem? (i := 14) rfl)) (jWr_16 _ (List.mem_of_getElem? (i := 2) rfl))) rfl rfl rfl (by decide +kernel) ⟨by rw [← hR]; exact Nat.le_of_ble_eq_true rfl, by rw [← hR]; exact Nat.le_of_ble_eq_true rfl⟩) ⟨fun a U g mk q => by obtain ⟨q0, q1, q2, qK, q10, q11, q12, q13⟩ := q; exact ⟨q0, q1, q2, jG.calling g mk a qK, q10, q11, q12, q13⟩, hh_31.recv (C := RX0) (T := TX0) (N := 2) hB2 rfl (by decide) hg_16 hK, fun U hU hW => ⟨rfl, hU, hh_31.2.1, hG.step hW hU hh_31.1, hg_16, hg_wr_15, (hh_31.2.2.1.sub (L1 := [(r0, 2, 1, .int wc_15), (r0, 2, 0, .ref wr_15)]) [0, 1] rfl), (by omega), (by omega), ⟨(by first | omega | rfl | assumption | fail), (by first | omega | rfl | assumption | fail), (by first | omega | rfl | assumption | fail), (by first | omega | rfl | assumption | fail), (by first | assumption | fail | omega), (by first | omega | rfl | assumption | fail)⟩⟩⟩ rfl rfl hl.1 rfl (lv_room (Nat.le_of_ble_eq_true rfl)) dX0_quoted_199 ⟨by rw [hRc]; omega, by rw [hRs]; omega⟩) hh_31.1 (fun q _ h => h) (fun q h => h) (fun u_50 t_50 H_50 locs_50 ht_50 hvm_50 hr_51 hb_50 hz_50 hk_50 hS_50 => ?_)
                  obtain ⟨qc_50, qa_50, m_qa_50, G_50⟩ := u_50
                  rw [ht_50] at hb_50
                  simp only at hb_50
                  obtain ⟨⟨hb_501, hb_502, hb_503, hb_504, hb_505, hb_506⟩, hgq_50_0, hN_50, hbO_50⟩ := hb_50
                  have hh_50 : jSt (dC, dI) B base G0 G_50 EX0_quotedS s.heap (zcx_15 + ((m_qa_50 - m_wr_15) / 16)) (zsx_15 + (2 * (m_qa_50 - m_wr_15))) [(r0, 2, 1, .int qc_50), (r0, 2, 0, .ref qa_50)] [] [] H_50 locs_50 := (hh_31.callG hb_501 hb_502 hb_503 hb_504 hb_505 hS_50 rfl (L1 := []) [] rfl rfl (M1 := []) [] rfl rfl (I1 := []) [] rfl rfl).more hb_506
                  have hNn_50 : (jNk [0, 1, 2, 3, 4, 5, 6, 7, 8, 9, 10, 11, 12, 13, 14, 15, 16]) G0 G_50 := (hN_15).tr hN_50
                  have hg_52 := hb_502 _ _ hg_16
                  have hg_53 := hb_502 _ _ hg_17
                  have hd_54 := jOw.tr (hh_31.iv 0 rfl) hh_31.2.2.2.2.1 hbO_50
                  have hh_55 := hh_50.addI (jOw.ie (dC := dC) (dI := dI) (G0 := G0) (k := 2) (r := r0) (H0 := s.heap) (F := [(2, 0), (2, 1)]) (C := RX0) (T := TX0) (N := 2) rfl (by decide) hh_50.2.2.2.2.1 (hd_54))
                  clear hh_50
                  try simp only at hr_51
                  obtain ⟨hr_51_0, hr_51_1, hr_51_2, hr_51_3, hr_51_4, hr_51_5⟩ := hr_51
                  have hh_56 := hh_55.wk (zc1 := (m_qa_50 - n_pa) / 16) (zs1 := 2 * (m_qa_50 - n_pa)) (by omega) (by omega)
                  clear hh_55
                  try clear hsz_50 htt_50 hrc_50 hrs_50
                  try clear hb_504 hb_505
                  refine lv_aload_n hx hb dX0_quoted_202 rfl (lv_at hl 0 rfl) ?_
                  refine lv_iload hx hb dX0_quoted_203 (lv_at hl 6 rfl) ?_
                  have hsz_57 := hh_56.2.2.2.2.2.1
                  have htt_57 := hh_56.2.2.2.2.2.2.1
                  refine W.room (fun hrc_57 hrs_57 => ?_)
                  refine va_callv (A0 := jA base) (H0 := s.heap) (va_runV (As := [.int z_27]) (rest := []) ⟨hx, hb, hml, hown, hts⟩ (uX0_characterS l dC dI ca base B hB hAp hB2 hB196 G_50 H_50 r0 z_27 qc_50 qa_50 m_qa_50 LC LS) (cwV 1 hts (jgV (jWr_25 _ (List.mem_of_getElem? (i := 17) rfl)) (jWr_25 _ (List.mem_of_getElem? (i := 18) rfl)) (jWr_25 _ (List.mem_of_getElem? (i := 19) rfl)) (jWr_1 _ (List.mem_of_getElem? (i := 14) rfl)) (jWr_25 _ (List.mem_of_getElem? (i := 20) rfl))) rfl rfl rfl (by decide +kernel) ⟨by rw [← hR]; exact Nat.le_of_ble_eq_true rfl, by rw [← hR]; exact Nat.le_of_ble_eq_true rfl⟩) ⟨fun a U g mk q => by obtain ⟨q0, q1, q2, qK, q10, q11, q12, q13⟩ := q; exact ⟨q0, q1, q2, jG.calling g mk a qK, q10, q11, q12, q13⟩, hh_56.recv (C := RX0) (T := TX0) (N := 2) hB2 rfl (by decide) hg_52 hK, fun U hU hW => ⟨rfl, hU, hh_56.2.1, hG.step hW hU hh_56.1, hg_52, hgq_50_0, (hh_56.2.2.1.sub (L1 := [(r0, 2, 1, .int qc_50), (r0, 2, 0, .ref qa_50)]) [0, 1] rfl), (by omega), (by omega), ⟨(by first | omega | rfl | assumption | fail), (by first | omega | rfl | assumption | fail), (by first | omega | rfl | assumption | fail), (by first | omega | rfl | assumption | fail), (by first | assumption | fail | omega), (by first | omega | rfl | assumption | fail)⟩⟩⟩ rfl rfl hl.1 rfl (lv_room (Nat.le_of_ble_eq_true rfl)) dX0_quoted_205 ⟨by rw [hRc]; omega, by rw [hRs]; omega⟩) hh_56.1 (fun q _ h => h) (fun q h => h) (fun u_57 t_57 H_57 locs_57 ht_57 hvm_57 hr_58 hb_57 hz_57 hk_57 hS_57 => ?_)
                  obtain ⟨qc_57, qa_57, m_qa_57, G_57⟩ := u_57
                  rw [ht_57] at hb_57
                  simp only at hb_57
                  obtain ⟨⟨hb_571, hb_572, hb_573, hb_574, hb_575, hb_576⟩, hgq_57_0, hN_57, hbO_57⟩ := hb_57
                  have hh_57 : jSt (dC, dI) B base G0 G_57 EX0_quotedS s.heap (((m_qa_50 - n_pa) / 16) + ((m_qa_57 - m_qa_50) / 16)) ((2 * (m_qa_50 - n_pa)) + (2 * (m_qa_57 - m_qa_50))) [(r0, 2, 1, .int qc_57), (r0, 2, 0, .ref qa_57)] [] [] H_57 locs_57 := (hh_56.callG hb_571 hb_572 hb_573 hb_574 hb_575 hS_57 rfl (L1 := []) [] rfl rfl (M1 := []) [] rfl rfl (I1 := []) [] rfl rfl).more hb_576
                  have hNn_57 : (jNk [0, 1, 2, 3, 4, 5, 6, 7, 8, 9, 10, 11, 12, 13, 14, 15, 16]) G0 G_57 := (hNn_50).tr hN_57
                  have hg_59 := hb_572 _ _ hg_52
                  have hg_60 := hb_572 _ _ hg_53
                  have hd_61 := jOw.tr (hh_56.iv 0 rfl) hh_56.2.2.2.2.1 hbO_57
                  have hh_62 := hh_57.addI (jOw.ie (dC := dC) (dI := dI) (G0 := G0) (k := 2) (r := r0) (H0 := s.heap) (F := [(2, 0), (2, 1)]) (C := RX0) (T := TX0) (N := 2) rfl (by decide) hh_57.2.2.2.2.1 (hd_61))
                  clear hh_57
                  try simp only at hr_58
                  obtain ⟨hr_58_0, hr_58_1, hr_58_2, hr_58_3, hr_58_4, hr_58_5, hr_58_6⟩ := hr_58
                  have hh_63 := hh_62.wk (zc1 := (m_qa_57 - n_pa) / 16) (zs1 := 2 * (m_qa_57 - n_pa)) (by omega) (by omega)
                  clear hh_62
                  try clear hsz_57 htt_57 hrc_57 hrs_57
                  try clear hb_574 hb_575
                  obtain ⟨z_64, ez_64⟩ : ∃ y : Int32, y = v5_15 + 1 := ⟨_, rfl⟩
                  refine lv_iinc (v := z_64) (lv' := [(5, .int z_64), (0, .ref r0), (1, .ref r1), (2, .int a2), (3, .int a3), (4, .int z_12), (6, .int z_27)]) hx hb dX0_quoted_208 hl (k := 5) rfl (by rw [ez_64]; rfl) (by decide) rfl (fun ls hl => ?_)
                  have hz_64 : z_64.toInt = v5_15.toInt + 1 := by rw [ez_64]; exact jb_iadd2 (rfl) (by decide) (by omega)
                  refine lv_goto (tgt := 23) hx hb dX0_quoted_211 (by decide) ?_
                  refine W.tight (c2 := ((m_qa_57 - n_pa) / 16)) (n2 := (2 * (m_qa_57 - n_pa))) hh_63.2.2.2.2.2.1 hh_63.2.2.2.2.2.2.1 ?_
                  exact L23 G_57 ((m_qa_57 - n_pa) / 16) (2 * (m_qa_57 - n_pa)) z_64 qc_57 qa_57 m_qa_57 _ _ hh_63 (hNn_57) (((hle_15).tr hb_502).tr hb_572) hgq_57_0 (⟨(by first | omega | rfl | assumption | fail), (by first | omega | rfl | assumption | fail), (by first | omega | rfl | assumption | fail), (by first | omega | rfl | assumption | fail), (by first | assumption | fail | omega), (by first | omega | rfl | assumption | fail), (by first | omega | rfl | assumption | fail), (by first | omega | rfl | assumption | fail), (by first | omega | rfl | assumption | fail), (by first | omega | rfl | assumption | fail), (by first | omega | rfl | assumption | fail), (by first | omega | rfl | assumption | fail)⟩) (by omega) _ (lv_sub hl [1, 2, 3, 4, 5, 0] rfl)
                · skip
                  have c_49' : z_27.toInt ≠ 34 := jb_eq_n (rfl) ((by decide)) c_49
                  refine lv_iload hx hb dX0_quoted_189 (lv_at hl 6 rfl) ?_
                  refine lv_bipush (v := 92) hx hb dX0_quoted_191 (by decide) ?_
                  refine lv_icmp_ne (tgt := 202) hx hb dX0_quoted_193 (by decide) (fun c_65 => ?_) (fun c_65 => ?_)
                  · skip
                    have c_65' : z_27.toInt ≠ 92 := jb_ne (rfl) ((by decide)) c_65
                    refine lv_aload_n hx hb dX0_quoted_202 rfl (lv_at hl 0 rfl) ?_
                    refine lv_iload hx hb dX0_quoted_203 (lv_at hl 6 rfl) ?_
                    have hsz_66 := hh_31.2.2.2.2.2.1
                    have htt_66 := hh_31.2.2.2.2.2.2.1
                    refine W.room (fun hrc_66 hrs_66 => ?_)
                    refine va_callv (A0 := jA base) (H0 := s.heap) (va_runV (As := [.int z_27]) (rest := []) ⟨hx, hb, hml, hown, hts⟩ (uX0_characterS l dC dI ca base B hB hAp hB2 hB196 Gx_15 H_31 r0 z_27 wc_15 wr_15 m_wr_15 LC LS) (cwV 1 hts (jgV (jWr_25 _ (List.mem_of_getElem? (i := 17) rfl)) (jWr_25 _ (List.mem_of_getElem? (i := 18) rfl)) (jWr_25 _ (List.mem_of_getElem? (i := 19) rfl)) (jWr_1 _ (List.mem_of_getElem? (i := 14) rfl)) (jWr_25 _ (List.mem_of_getElem? (i := 20) rfl))) rfl rfl rfl (by decide +kernel) ⟨by rw [← hR]; exact Nat.le_of_ble_eq_true rfl, by rw [← hR]; exact Nat.le_of_ble_eq_true rfl⟩) ⟨fun a U g mk q => by obtain ⟨q0, q1, q2, qK, q10, q11, q12, q13⟩ := q; exact ⟨q0, q1, q2, jG.calling g mk a qK, q10, q11, q12, q13⟩, hh_31.recv (C := RX0) (T := TX0) (N := 2) hB2 rfl (by decide) hg_16 hK, fun U hU hW => ⟨rfl, hU, hh_31.2.1, hG.step hW hU hh_31.1, hg_16, hg_wr_15, (hh_31.2.2.1.sub (L1 := [(r0, 2, 1, .int wc_15), (r0, 2, 0, .ref wr_15)]) [0, 1] rfl), (by omega), (by omega), ⟨(by first | omega | rfl | assumption | fail), (by first | omega | rfl | assumption | fail), (by first | omega | rfl | assumption | fail), (by first | omega | rfl | assumption | fail), (by first | assumption | fail | omega), (by first | omega | rfl | assumption | fail)⟩⟩⟩ rfl rfl hl.1 rfl (lv_room (Nat.le_of_ble_eq_true rfl)) dX0_quoted_205 ⟨by rw [hRc]; omega, by rw [hRs]; omega⟩) hh_31.1 (fun q _ h => h) (fun q h => h) (fun u_66 t_66 H_66 locs_66 ht_66 hvm_66 hr_67 hb_66 hz_66 hk_66 hS_66 => ?_)
                    obtain ⟨qc_66, qa_66, m_qa_66, G_66⟩ := u_66
                    rw [ht_66] at hb_66
                    simp only at hb_66
                    obtain ⟨⟨hb_661, hb_662, hb_663, hb_664, hb_665, hb_666⟩, hgq_66_0, hN_66, hbO_66⟩ := hb_66
                    have hh_66 : jSt (dC, dI) B base G0 G_66 EX0_quotedS s.heap (zcx_15 + ((m_qa_66 - m_wr_15) / 16)) (zsx_15 + (2 * (m_qa_66 - m_wr_15))) [(r0, 2, 1, .int qc_66), (r0, 2, 0, .ref qa_66)] [] [] H_66 locs_66 := (hh_31.callG hb_661 hb_662 hb_663 hb_664 hb_665 hS_66 rfl (L1 := []) [] rfl rfl (M1 := []) [] rfl rfl (I1 := []) [] rfl rfl).more hb_666
                    have hNn_66 : (jNk [0, 1, 2, 3, 4, 5, 6, 7, 8, 9, 10, 11, 12, 13, 14, 15, 16]) G0 G_66 := (hN_15).tr hN_66
                    have hg_68 := hb_662 _ _ hg_16
                    have hg_69 := hb_662 _ _ hg_17
                    have hd_70 := jOw.tr (hh_31.iv 0 rfl) hh_31.2.2.2.2.1 hbO_66
                    have hh_71 := hh_66.addI (jOw.ie (dC := dC) (dI := dI) (G0 := G0) (k := 2) (r := r0) (H0 := s.heap) (F := [(2, 0), (2, 1)]) (C := RX0) (T := TX0) (N := 2) rfl (by decide) hh_66.2.2.2.2.1 (hd_70))
                    clear hh_66
                    try simp only at hr_67
                    obtain ⟨hr_67_0, hr_67_1, hr_67_2, hr_67_3, hr_67_4, hr_67_5, hr_67_6⟩ := hr_67
                    have hh_72 := hh_71.wk (zc1 := (m_qa_66 - n_pa) / 16) (zs1 := 2 * (m_qa_66 - n_pa)) (by omega) (by omega)
                    clear hh_71
                    try clear hsz_66 htt_66 hrc_66 hrs_66
                    try clear hb_664 hb_665
                    obtain ⟨z_73, ez_73⟩ : ∃ y : Int32, y = v5_15 + 1 := ⟨_, rfl⟩
                    refine lv_iinc (v := z_73) (lv' := [(5, .int z_73), (0, .ref r0), (1, .ref r1), (2, .int a2), (3, .int a3), (4, .int z_12), (6, .int z_27)]) hx hb dX0_quoted_208 hl (k := 5) rfl (by rw [ez_73]; rfl) (by decide) rfl (fun ls hl => ?_)
                    have hz_73 : z_73.toInt = v5_15.toInt + 1 := by rw [ez_73]; exact jb_iadd2 (rfl) (by decide) (by omega)
                    refine lv_goto (tgt := 23) hx hb dX0_quoted_211 (by decide) ?_
                    refine W.tight (c2 := ((m_qa_66 - n_pa) / 16)) (n2 := (2 * (m_qa_66 - n_pa))) hh_72.2.2.2.2.2.1 hh_72.2.2.2.2.2.2.1 ?_
                    exact L23 G_66 ((m_qa_66 - n_pa) / 16) (2 * (m_qa_66 - n_pa)) z_73 qc_66 qa_66 m_qa_66 _ _ hh_72 (hNn_66) ((hle_15).tr hb_662) hgq_66_0 (⟨(by first | omega | rfl | assumption | fail), (by first | omega | rfl | assumption | fail), (by first | omega | rfl | assumption | fail), (by first | omega | rfl | assumption | fail), (by first | assumption | fail | omega), (by first | omega | rfl | assumption | fail), (by first | omega | rfl | assumption | fail), (by first | omega | rfl | assumption | fail), (by first | omega | rfl | assumption | fail), (by first | omega | rfl | assumption | fail), (by first | omega | rfl | assumption | fail), (by first | omega | rfl | assumption | fail)⟩) (by omega) _ (lv_sub hl [1, 2, 3, 4, 5, 0] rfl)
                  · skip
                    have c_65' : z_27.toInt = 92 := jb_ne_n (rfl) ((by decide)) c_65
                    refine lv_aload_n hx hb dX0_quoted_196 rfl (lv_at hl 0 rfl) ?_
                    refine lv_bipush (v := 92) hx hb dX0_quoted_197 (by decide) ?_
                    have hsz_74 := hh_31.2.2.2.2.2.1
                    have htt_74 := hh_31.2.2.2.2.2.2.1
                    refine W.room (fun hrc_74 hrs_74 => ?_)
                    refine va_callv (A0 := jA base) (H0 := s.heap) (va_runV (As := [.int 92]) (rest := []) ⟨hx, hb, hml, hown, hts⟩ (uX0_putS l dC dI ca base B hB hAp hB2 hB196 Gx_15 H_31 r0 92 wc_15 wr_15 m_wr_15 LC LS) (cwV 1 hts (jgV (jWr_24 _ (List.mem_of_getElem? (i := 22) rfl)) (jWr_16 _ (List.mem_of_getElem? (i := 0) rfl)) (jWr_16 _ (List.mem_of_getElem? (i := 1) rfl)) (jWr_1 _ (List.mem_of_getElem? (i := 14) rfl)) (jWr_16 _ (List.mem_of_getElem? (i := 2) rfl))) rfl rfl rfl (by decide +kernel) ⟨by rw [← hR]; exact Nat.le_of_ble_eq_true rfl, by rw [← hR]; exact Nat.le_of_ble_eq_true rfl⟩) ⟨fun a U g mk q => by obtain ⟨q0, q1, q2, qK, q10, q11, q12, q13⟩ := q; exact ⟨q0, q1, q2, jG.calling g mk a qK, q10, q11, q12, q13⟩, hh_31.recv (C := RX0) (T := TX0) (N := 2) hB2 rfl (by decide) hg_16 hK, fun U hU hW => ⟨rfl, hU, hh_31.2.1, hG.step hW hU hh_31.1, hg_16, hg_wr_15, (hh_31.2.2.1.sub (L1 := [(r0, 2, 1, .int wc_15), (r0, 2, 0, .ref wr_15)]) [0, 1] rfl), (by omega), (by omega), ⟨(by first | omega | rfl | assumption | fail), (by first | omega | rfl | assumption | fail), (by first | omega | rfl | assumption | fail), (by first | omega | rfl | assumption | fail), (by first | assumption | fail | omega), (by first | omega | rfl | assumption | fail)⟩⟩⟩ rfl rfl hl.1 rfl (lv_room (Nat.le_of_ble_eq_true rfl)) dX0_quoted_199 ⟨by rw [hRc]; omega, by rw [hRs]; omega⟩) hh_31.1 (fun q _ h => h) (fun q h => h) (fun u_74 t_74 H_74 locs_74 ht_74 hvm_74 hr_75 hb_74 hz_74 hk_74 hS_74 => ?_)
                    obtain ⟨qc_74, qa_74, m_qa_74, G_74⟩ := u_74
                    rw [ht_74] at hb_74
                    simp only at hb_74
                    obtain ⟨⟨hb_741, hb_742, hb_743, hb_744, hb_745, hb_746⟩, hgq_74_0, hN_74, hbO_74⟩ := hb_74
                    have hh_74 : jSt (dC, dI) B base G0 G_74 EX0_quotedS s.heap (zcx_15 + ((m_qa_74 - m_wr_15) / 16)) (zsx_15 + (2 * (m_qa_74 - m_wr_15))) [(r0, 2, 1, .int qc_74), (r0, 2, 0, .ref qa_74)] [] [] H_74 locs_74 := (hh_31.callG hb_741 hb_742 hb_743 hb_744 hb_745 hS_74 rfl (L1 := []) [] rfl rfl (M1 := []) [] rfl rfl (I1 := []) [] rfl rfl).more hb_746
                    have hNn_74 : (jNk [0, 1, 2, 3, 4, 5, 6, 7, 8, 9, 10, 11, 12, 13, 14, 15, 16]) G0 G_74 := (hN_15).tr hN_74
                    have hg_76 := hb_742 _ _ hg_16
                    have hg_77 := hb_742 _ _ hg_17
                    have hd_78 := jOw.tr (hh_31.iv 0 rfl) hh_31.2.2.2.2.1 hbO_74
                    have hh_79 := hh_74.addI (jOw.ie (dC := dC) (dI := dI) (G0 := G0) (k := 2) (r := r0) (H0 := s.heap) (F := [(2, 0), (2, 1)]) (C := RX0) (T := TX0) (N := 2) rfl (by decide) hh_74.2.2.2.2.1 (hd_78))
                    clear hh_74
                    try simp only at hr_75
                    obtain ⟨hr_75_0, hr_75_1, hr_75_2, hr_75_3, hr_75_4, hr_75_5⟩ := hr_75
                    have hh_80 := hh_79.wk (zc1 := (m_qa_74 - n_pa) / 16) (zs1 := 2 * (m_qa_74 - n_pa)) (by omega) (by omega)
                    clear hh_79
                    try clear hsz_74 htt_74 hrc_74 hrs_74
                    try clear hb_744 hb_745
                    refine lv_aload_n hx hb dX0_quoted_202 rfl (lv_at hl 0 rfl) ?_
                    refine lv_iload hx hb dX0_quoted_203 (lv_at hl 6 rfl) ?_
                    have hsz_81 := hh_80.2.2.2.2.2.1
                    have htt_81 := hh_80.2.2.2.2.2.2.1
                    refine W.room (fun hrc_81 hrs_81 => ?_)
                    refine va_callv (A0 := jA base) (H0 := s.heap) (va_runV (As := [.int z_27]) (rest := []) ⟨hx, hb, hml, hown, hts⟩ (uX0_characterS l dC dI ca base B hB hAp hB2 hB196 G_74 H_74 r0 z_27 qc_74 qa_74 m_qa_74 LC LS) (cwV 1 hts (jgV (jWr_25 _ (List.mem_of_getElem? (i := 17) rfl)) (jWr_25 _ (List.mem_of_getElem? (i := 18) rfl)) (jWr_25 _ (List.mem_of_getElem? (i := 19) rfl)) (jWr_1 _ (List.mem_of_getElem? (i := 14) rfl)) (jWr_25 _ (List.mem_of_getElem? (i := 20) rfl))) rfl rfl rfl (by decide +kernel) ⟨by rw [← hR]; exact Nat.le_of_ble_eq_true rfl, by rw [← hR]; exact Nat.le_of_ble_eq_true rfl⟩) ⟨fun a U g mk q => by obtain ⟨q0, q1, q2, qK, q10, q11, q12, q13⟩ := q; exact ⟨q0, q1, q2, jG.calling g mk a qK, q10, q11, q12, q13⟩, hh_80.recv (C := RX0) (T := TX0) (N := 2) hB2 rfl (by decide) hg_76 hK, fun U hU hW => ⟨rfl, hU, hh_80.2.1, hG.step hW hU hh_80.1, hg_76, hgq_74_0, (hh_80.2.2.1.sub (L1 := [(r0, 2, 1, .int qc_74), (r0, 2, 0, .ref qa_74)]) [0, 1] rfl), (by omega), (by omega), ⟨(by first | omega | rfl | assumption | fail), (by first | omega | rfl | assumption | fail), (by first | omega | rfl | assumption | fail), (by first | omega | rfl | assumption | fail), (by first | assumption | fail | omega), (by first | omega | rfl | assumption | fail)⟩⟩⟩ rfl rfl hl.1 rfl (lv_room (Nat.le_of_ble_eq_true rfl)) dX0_quoted_205 ⟨by rw [hRc]; omega, by rw [hRs]; omega⟩) hh_80.1 (fun q _ h => h) (fun q h => h) (fun u_81 t_81 H_81 locs_81 ht_81 hvm_81 hr_82 hb_81 hz_81 hk_81 hS_81 => ?_)
                    obtain ⟨qc_81, qa_81, m_qa_81, G_81⟩ := u_81
                    rw [ht_81] at hb_81
                    simp only at hb_81
                    obtain ⟨⟨hb_811, hb_812, hb_813, hb_814, hb_815, hb_816⟩, hgq_81_0, hN_81, hbO_81⟩ := hb_81
                    have hh_81 : jSt (dC, dI) B base G0 G_81 EX0_quotedS s.heap (((m_qa_74 - n_pa) / 16) + ((m_qa_81 - m_qa_74) / 16)) ((2 * (m_qa_74 - n_pa)) + (2 * (m_qa_81 - m_qa_74))) [(r0, 2, 1, .int qc_81), (r0, 2, 0, .ref qa_81)] [] [] H_81 locs_81 := (hh_80.callG hb_811 hb_812 hb_813 hb_814 hb_815 hS_81 rfl (L1 := []) [] rfl rfl (M1 := []) [] rfl rfl (I1 := []) [] rfl rfl).more hb_816
                    have hNn_81 : (jNk [0, 1, 2, 3, 4, 5, 6, 7, 8, 9, 10, 11, 12, 13, 14, 15, 16]) G0 G_81 := (hNn_74).tr hN_81
                    have hg_83 := hb_812 _ _ hg_76
                    have hg_84 := hb_812 _ _ hg_77
                    have hd_85 := jOw.tr (hh_80.iv 0 rfl) hh_80.2.2.2.2.1 hbO_81
                    have hh_86 := hh_81.addI (jOw.ie (dC := dC) (dI := dI) (G0 := G0) (k := 2) (r := r0) (H0 := s.heap) (F := [(2, 0), (2, 1)]) (C := RX0) (T := TX0) (N := 2) rfl (by decide) hh_81.2.2.2.2.1 (hd_85))
                    clear hh_81
                    try simp only at hr_82
                    obtain ⟨hr_82_0, hr_82_1, hr_82_2, hr_82_3, hr_82_4, hr_82_5, hr_82_6⟩ := hr_82
                    have hh_87 := hh_86.wk (zc1 := (m_qa_81 - n_pa) / 16) (zs1 := 2 * (m_qa_81 - n_pa)) (by omega) (by omega)
                    clear hh_86
                    try clear hsz_81 htt_81 hrc_81 hrs_81
                    try clear hb_814 hb_815
                    obtain ⟨z_88, ez_88⟩ : ∃ y : Int32, y = v5_15 + 1 := ⟨_, rfl⟩
                    refine lv_iinc (v := z_88) (lv' := [(5, .int z_88), (0, .ref r0), (1, .ref r1), (2, .int a2), (3, .int a3), (4, .int z_12), (6, .int z_27)]) hx hb dX0_quoted_208 hl (k := 5) rfl (by rw [ez_88]; rfl) (by decide) rfl (fun ls hl => ?_)
                    have hz_88 : z_88.toInt = v5_15.toInt + 1 := by rw [ez_88]; exact jb_iadd2 (rfl) (by decide) (by omega)
                    refine lv_goto (tgt := 23) hx hb dX0_quoted_211 (by decide) ?_
                    refine W.tight (c2 := ((m_qa_81 - n_pa) / 16)) (n2 := (2 * (m_qa_81 - n_pa))) hh_87.2.2.2.2.2.1 hh_87.2.2.2.2.2.2.1 ?_
                    exact L23 G_81 ((m_qa_81 - n_pa) / 16) (2 * (m_qa_81 - n_pa)) z_88 qc_81 qa_81 m_qa_81 _ _ hh_87 (hNn_81) (((hle_15).tr hb_742).tr hb_812) hgq_81_0 (⟨(by first | omega | rfl | assumption | fail), (by first | omega | rfl | assumption | fail), (by first | omega | rfl | assumption | fail), (by first | omega | rfl | assumption | fail), (by first | assumption | fail | omega), (by first | omega | rfl | assumption | fail), (by first | omega | rfl | assumption | fail), (by first | omega | rfl | assumption | fail), (by first | omega | rfl | assumption | fail), (by first | omega | rfl | assumption | fail), (by first | omega | rfl | assumption | fail), (by first | omega | rfl | assumption | fail)⟩) (by omega) _ (lv_sub hl [1, 2, 3, 4, 5, 0] rfl)
              · skip
                have c_48' : z_27.toInt < 32 := jb_ge_n (rfl) ((by decide)) c_48
                refine lv_aload_n hx hb dX0_quoted_126 rfl (lv_at hl 0 rfl) ?_
                refine va_ldcS hx hb hown rstr67 dX0_quoted_127 ?_
                have hsz_89 := hh_31.2.2.2.2.2.1
                have htt_89 := hh_31.2.2.2.2.2.2.1
                refine W.room (fun hrc_89 hrs_89 => ?_)
                refine va_callv (A0 := jA base) (H0 := s.heap) (va_runV (As := [.ref str67]) (rest := []) ⟨hx, hb, hml, hown, hts⟩ (uX0_textS l dC dI ca base B hB hAp hB2 hB196 Gx_15 H_31 r0 str67 4 wc_15 wr_15 m_wr_15 LC LS) (cwV 1 hts (jgV (jWr_25 _ (List.mem_of_getElem? (i := 21) rfl)) (jWr_25 _ (List.mem_of_getElem? (i := 22) rfl)) (jWr_25 _ (List.mem_of_getElem? (i := 23) rfl)) (jWr_1 _ (List.mem_of_getElem? (i := 14) rfl)) (jWr_26 _ (List.mem_of_getElem? (i := 0) rfl))) rfl rfl rfl (by decide +kernel) ⟨by rw [← hR]; exact Nat.le_of_ble_eq_true rfl, by rw [← hR]; exact Nat.le_of_ble_eq_true rfl⟩) ⟨fun a U g mk q => by obtain ⟨q0, q1, q2, qK, q10, q11, q12, q13, q14⟩ := q; exact ⟨q0, q1, q2, jG.calling g mk a qK, (q10.moved (Vm.Alike.refl U.vm)), q11, q12, q13, q14⟩, hh_31.recv (C := RX0) (T := TX0) (N := 2) hB2 rfl (by decide) hg_16 hK, fun U hU hW => ⟨rfl, hU, hh_31.2.1, hG.step hW hU hh_31.1, (hstr67.moved hW.alike).kept hh_31.1.2.1, hg_16, hg_wr_15, (hh_31.2.2.1.sub (L1 := [(r0, 2, 1, .int wc_15), (r0, 2, 0, .ref wr_15)]) [0, 1] rfl), (by omega), (by omega), ⟨(by first | omega | rfl | assumption | fail), (by first | omega | rfl | assumption | fail), (by first | omega | rfl | assumption | fail), (by first | omega | rfl | assumption | fail), (by first | assumption | fail | omega), (by first | omega | rfl | assumption | fail)⟩⟩⟩ rfl rfl hl.1 rfl (lv_room (Nat.le_of_ble_eq_true rfl)) dX0_quoted_129 ⟨by rw [hRc]; omega, by rw [hRs]; omega⟩) hh_31.1 (fun q _ h => h) (fun q h => h) (fun u_89 t_89 H_89 locs_89 ht_89 hvm_89 hr_90 hb_89 hz_89 hk_89 hS_89 => ?_)
                obtain ⟨qc_89, qa_89, m_qa_89, G_89⟩ := u_89
                rw [ht_89] at hb_89
                simp only at hb_89
                obtain ⟨⟨hb_891, hb_892, hb_893, hb_894, hb_895, hb_896⟩, hgq_89_0, hN_89, hbO_89⟩ := hb_89
                have hh_89 : jSt (dC, dI) B base G0 G_89 EX0_quotedS s.heap (zcx_15 + ((m_qa_89 - m_wr_15) / 16)) (zsx_15 + (2 * (m_qa_89 - m_wr_15))) [(r0, 2, 1, .int qc_89), (r0, 2, 0, .ref qa_89)] [] [] H_89 locs_89 := (hh_31.callG hb_891 hb_892 hb_893 hb_894 hb_895 hS_89 rfl (L1 := []) [] rfl rfl (M1 := []) [] rfl rfl (I1 := []) [] rfl rfl).more hb_896
                have hNn_89 : (jNk [0, 1, 2, 3, 4, 5, 6, 7, 8, 9, 10, 11, 12, 13, 14, 15, 16]) G0 G_89 := (hN_15).tr hN_89
                have hg_91 := hb_892 _ _ hg_16
                have hg_92 := hb_892 _ _ hg_17
                have hd_93 := jOw.tr (hh_31.iv 0 rfl) hh_31.2.2.2.2.1 hbO_89
                have hh_94 := hh_89.addI (jOw.ie (dC := dC) (dI := dI) (G0 := G0) (k := 2) (r := r0) (H0 := s.heap) (F := [(2, 0), (2, 1)]) (C := RX0) (T := TX0) (N := 2) rfl (by decide) hh_89.2.2.2.2.1 (hd_93))
                clear hh_89
                try simp only at hr_90
                obtain ⟨hr_90_0, hr_90_1, hr_90_2, hr_90_3, hr_90_4, hr_90_5⟩ := hr_90
                have hh_95 := hh_94.wk (zc1 := (m_qa_89 - n_pa) / 16) (zs1 := 2 * (m_qa_89 - n_pa)) (by omega) (by omega)
                clear hh_94
                try clear hsz_89 htt_89 hrc_89 hrs_89
                try clear hb_894 hb_895
                refine lv_aload_n hx hb dX0_quoted_132 rfl (lv_at hl 0 rfl) ?_
                refine lv_bipush (v := 48) hx hb dX0_quoted_133 (by decide) ?_
                refine lv_iload hx hb dX0_quoted_135 (lv_at hl 6 rfl) ?_
                refine lv_iconst (v := 4) hx hb dX0_quoted_137 (by decide) ?_
                refine lv_ishr hx hb dX0_quoted_138 ?_
                refine lv_topi (fun z_96 ez_96 => ?_)
                have hz_96 : z_96.toInt = z_27.toInt / 2 ^ 4 := by rw [ez_96]; exact jb_ishr 4 (rfl) (by decide)
                refine lv_iadd hx hb dX0_quoted_139 ?_
                refine lv_topi (fun z_97 ez_97 => ?_)
                have hsz_98 := hh_95.2.2.2.2.2.1
                have htt_98 := hh_95.2.2.2.2.2.2.1
                refine W.room (fun hrc_98 hrs_98 => ?_)
                refine va_callv (A0 := jA base) (H0 := s.heap) (va_runV (As := [.int z_97]) (rest := []) ⟨hx, hb, hml, hown, hts⟩ (uX0_putS l dC dI ca base B hB hAp hB2 hB196 G_89 H_89 r0 z_97 qc_89 qa_89 m_qa_89 LC LS) (cwV 1 hts (jgV (jWr_24 _ (List.mem_of_getElem? (i := 22) rfl)) (jWr_16 _ (List.mem_of_getElem? (i := 0) rfl)) (jWr_16 _ (List.mem_of_getElem? (i := 1) rfl)) (jWr_1 _ (List.mem_of_getElem? (i := 14) rfl)) (jWr_16 _ (List.mem_of_getElem? (i := 2) rfl))) rfl rfl rfl (by decide +kernel) ⟨by rw [← hR]; exact Nat.le_of_ble_eq_true rfl, by rw [← hR]; exact Nat.le_of_ble_eq_true rfl⟩) ⟨fun a U g mk q => by obtain ⟨q0, q1, q2, qK, q10, q11, q12, q13⟩ := q; exact ⟨q0, q1, q2, jG.calling g mk a qK, q10, q11, q12, q13⟩, hh_95.recv (C := RX0) (T := TX0) (N := 2) hB2 rfl (by decide) hg_91 hK, fun U hU hW => ⟨rfl, hU, hh_95.2.1, hG.step hW hU hh_95.1, hg_91, hgq_89_0, (hh_95.2.2.1.sub (L1 := [(r0, 2, 1, .int qc_89), (r0, 2, 0, .ref qa_89)]) [0, 1] rfl), (by omega), (by omega), ⟨(by first | omega | rfl | assumption | fail), (by first | omega | rfl | assumption | fail), (by first | omega | rfl | assumption | fail), (by first | omega | rfl | assumption | fail), (by first | assumption | fail | omega), (by first | omega | rfl | assumption | fail)⟩⟩⟩ rfl rfl hl.1 rfl (lv_room (Nat.le_of_ble_eq_true rfl)) dX0_quoted_140 ⟨by rw [hRc]; omega, by rw [hRs]; omega⟩) hh_95.1 (fun q _ h => h) (fun q h => h) (fun u_98 t_98 H_98 locs_98 ht_98 hvm_98 hr_99 hb_98 hz_98 hk_98 hS_98 => ?_)
                obtain ⟨qc_98, qa_98, m_qa_98, G_98⟩ := u_98
                rw [ht_98] at hb_98
                simp only at hb_98
                obtain ⟨⟨hb_981, hb_982, hb_983, hb_984, hb_985, hb_986⟩, hgq_98_0, hN_98, hbO_98⟩ := hb_98
                have hh_98 : jSt (dC, dI) B base G0 G_98 EX0_quotedS s.heap (((m_qa_89 - n_pa) / 16) + ((m_qa_98 - m_qa_89) / 16)) ((2 * (m_qa_89 - n_pa)) + (2 * (m_qa_98 - m_qa_89))) [(r0, 2, 1, .int qc_98), (r0, 2, 0, .ref qa_98)] [] [] H_98 locs_98 := (hh_95.callG hb_981 hb_982 hb_983 hb_984 hb_985 hS_98 rfl (L1 := []) [] rfl rfl (M1 := []) [] rfl rfl (I1 := []) [] rfl rfl).more hb_986
                have hNn_98 : (jNk [0, 1, 2, 3, 4, 5, 6, 7, 8, 9, 10, 11, 12, 13, 14, 15, 16]) G0 G_98 := (hNn_89).tr hN_98
                have hg_100 := hb_982 _ _ hg_91
                have hg_101 := hb_982 _ _ hg_92
                have hd_102 := jOw.tr (hh_95.iv 0 rfl) hh_95.2.2.2.2.1 hbO_98
                have hh_103 := hh_98.addI (jOw.ie (dC := dC) (dI := dI) (G0 := G0) (k := 2) (r := r0) (H0 := s.heap) (F := [(2, 0), (2, 1)]) (C := RX0) (T := TX0) (N := 2) rfl (by decide) hh_98.2.2.2.2.1 (hd_102))
                clear hh_98
                try simp only at hr_99
                obtain ⟨hr_99_0, hr_99_1, hr_99_2, hr_99_3, hr_99_4, hr_99_5⟩ := hr_99
                have hh_104 := hh_103.wk (zc1 := (m_qa_98 - n_pa) / 16) (zs1 := 2 * (m_qa_98 - n_pa)) (by omega) (by omega)
                clear hh_103
                try clear hsz_98 htt_98 hrc_98 hrs_98
                try clear hb_984 hb_985
                refine lv_aload_n hx hb dX0_quoted_143 rfl (lv_at hl 0 rfl) ?_
                refine lv_iload hx hb dX0_quoted_144 (lv_at hl 6 rfl) ?_
                refine lv_bipush (v := 15) hx hb dX0_quoted_146 (by decide) ?_
                refine lv_iand hx hb dX0_quoted_148 ?_
                refine lv_topi (fun z_105 ez_105 => ?_)
                have hz_105 : 0 ≤ z_105.toInt ∧ z_105.toInt ≤ 15 := by rw [ez_105]; exact jb_and z_27 (m := 15) (k := 4) (by decide) (by decide)
                refine lv_bipush (v := 10) hx hb dX0_quoted_149 (by decide) ?_
                refine lv_icmp_ge (tgt := 165) hx hb dX0_quoted_151 (by decide) (fun c_106 => ?_) (fun c_106 => ?_)
                · skip
                  have c_106' : z_105.toInt ≥ 10 := jb_ge (rfl) ((by decide)) c_106
                  refine lv_bipush (v := 97) hx hb dX0_quoted_165 (by decide) ?_
                  refine lv_iload hx hb dX0_quoted_167 (lv_at hl 6 rfl) ?_
                  refine lv_bipush (v := 15) hx hb dX0_quoted_169 (by decide) ?_
                  refine lv_iand hx hb dX0_quoted_171 ?_
                  refine lv_topi (fun z_107 ez_107 => ?_)
                  have hz_107 : 0 ≤ z_107.toInt ∧ z_107.toInt ≤ 15 := by rw [ez_107]; exact jb_and z_27 (m := 15) (k := 4) (by decide) (by decide)
                  refine lv_iadd hx hb dX0_quoted_172 ?_
                  refine lv_topi (fun z_108 ez_108 => ?_)
                  refine lv_bipush (v := 10) hx hb dX0_quoted_173 (by decide) ?_
                  refine lv_isub hx hb dX0_quoted_175 ?_
                  refine lv_topi (fun z_109 ez_109 => ?_)
                  have hsz_110 := hh_104.2.2.2.2.2.1
                  have htt_110 := hh_104.2.2.2.2.2.2.1
                  refine W.room (fun hrc_110 hrs_110 => ?_)
                  refine va_callv (A0 := jA base) (H0 := s.heap) (va_runV (As := [.int z_109]) (rest := []) ⟨hx, hb, hml, hown, hts⟩ (uX0_putS l dC dI ca base B hB hAp hB2 hB196 G_98 H_98 r0 z_109 qc_98 qa_98 m_qa_98 LC LS) (cwV 1 hts (jgV (jWr_24 _ (List.mem_of_getElem? (i := 22) rfl)) (jWr_16 _ (List.mem_of_getElem? (i := 0) rfl)) (jWr_16 _ (List.mem_of_getElem? (i := 1) rfl)) (jWr_1 _ (List.mem_of_getElem? (i := 14) rfl)) (jWr_16 _ (List.mem_of_getElem? (i := 2) rfl))) rfl rfl rfl (by decide +kernel) ⟨by rw [← hR]; exact Nat.le_of_ble_eq_true rfl, by rw [← hR]; exact Nat.le_of_ble_eq_true rfl⟩) ⟨fun a U g mk q => by obtain ⟨q0, q1, q2, qK, q10, q11, q12, q13⟩ := q; exact ⟨q0, q1, q2, jG.calling g mk a qK, q10, q11, q12, q13⟩, hh_104.recv (C := RX0) (T := TX0) (N := 2) hB2 rfl (by decide) hg_100 hK, fun U hU hW => ⟨rfl, hU, hh_104.2.1, hG.step hW hU hh_104.1, hg_100, hgq_98_0, (hh_104.2.2.1.sub (L1 := [(r0, 2, 1, .int qc_98), (r0, 2, 0, .ref qa_98)]) [0, 1] rfl), (by omega), (by omega), ⟨(by first | omega | rfl | assumption | fail), (by first | omega | rfl | assumption | fail), (by first | omega | rfl | assumption | fail), (by first | omega | rfl | assumption | fail), (by first | assumption | fail | omega), (by first | omega | rfl | assumption | fail)⟩⟩⟩ rfl rfl hl.1 rfl (lv_room (Nat.le_of_ble_eq_true rfl)) dX0_quoted_176 ⟨by rw [hRc]; omega, by rw [hRs]; omega⟩) hh_104.1 (fun q _ h => h) (fun q h => h) (fun u_110 t_110 H_110 locs_110 ht_110 hvm_110 hr_111 hb_110 hz_110 hk_110 hS_110 => ?_)
                  obtain ⟨qc_110, qa_110, m_qa_110, G_110⟩ := u_110
                  rw [ht_110] at hb_110
                  simp only at hb_110
                  obtain ⟨⟨hb_1101, hb_1102, hb_1103, hb_1104, hb_1105, hb_1106⟩, hgq_110_0, hN_110, hbO_110⟩ := hb_110
                  have hh_110 : jSt (dC, dI) B base G0 G_110 EX0_quotedS s.heap (((m_qa_98 - n_pa) / 16) + ((m_qa_110 - m_qa_98) / 16)) ((2 * (m_qa_98 - n_pa)) + (2 * (m_qa_110 - m_qa_98))) [(r0, 2, 1, .int qc_110), (r0, 2, 0, .ref qa_110)] [] [] H_110 locs_110 := (hh_104.callG hb_1101 hb_1102 hb_1103 hb_1104 hb_1105 hS_110 rfl (L1 := []) [] rfl rfl (M1 := []) [] rfl rfl (I1 := []) [] rfl rfl).more hb_1106
                  have hNn_110 : (jNk [0, 1, 2, 3, 4, 5, 6, 7, 8, 9, 10, 11, 12, 13, 14, 15, 16]) G0 G_110 := (hNn_98).tr hN_110
                  have hg_112 := hb_1102 _ _ hg_100
                  have hg_113 := hb_1102 _ _ hg_101
                  have hd_114 := jOw.tr (hh_104.iv 0 rfl) hh_104.2.2.2.2.1 hbO_110
                  have hh_115 := hh_110.addI (jOw.ie (dC := dC) (dI := dI) (G0 := G0) (k := 2) (r := r0) (H0 := s.heap) (F := [(2, 0), (2, 1)]) (C := RX0) (T := TX0) (N := 2) rfl (by decide) hh_110.2.2.2.2.1 (hd_114))
                  clear hh_110
                  try simp only at hr_111
                  obtain ⟨hr_111_0, hr_111_1, hr_111_2, hr_111_3, hr_111_4, hr_111_5⟩ := hr_111
                  have hh_116 := hh_115.wk (zc1 := (m_qa_110 - n_pa) / 16) (zs1 := 2 * (m_qa_110 - n_pa)) (by omega) (by omega)
                  clear hh_115
                  try clear hsz_110 htt_110 hrc_110 hrs_110
                  try clear hb_1104 hb_1105
                  refine lv_goto (tgt := 208) hx hb dX0_quoted_179 (by decide) ?_
                  obtain ⟨z_117, ez_117⟩ : ∃ y : Int32, y = v5_15 + 1 := ⟨_, rfl⟩
                  refine lv_iinc (v := z_117) (lv' := [(5, .int z_117), (0, .ref r0), (1, .ref r1), (2, .int a2), (3, .int a3), (4, .int z_12), (6, .int z_27)]) hx hb dX0_quoted_208 hl (k := 5) rfl (by rw [ez_117]; rfl) (by decide) rfl (fun ls hl => ?_)
                  have hz_117 : z_117.toInt = v5_15.toInt + 1 := by rw [ez_117]; exact jb_iadd2 (rfl) (by decide) (by omega)
                  refine lv_goto (tgt := 23) hx hb dX0_quoted_211 (by decide) ?_
                  refine W.tight (c2 := ((m_qa_110 - n_pa) / 16)) (n2 := (2 * (m_qa_110 - n_pa))) hh_116.2.2.2.2.2.1 hh_116.2.2.2.2.2.2.1 ?_
                  exact L23 G_110 ((m_qa_110 - n_pa) / 16) (2 * (m_qa_110 - n_pa)) z_117 qc_110 qa_110 m_qa_110 _ _ hh_116 (hNn_110) ((((hle_15).tr hb_892).tr hb_982).tr hb_1102) hgq_110_0 (⟨(by first | omega | rfl | assumption | fail), (by first | omega | rfl | assumption | fail), (by first | omega | rfl | assumption | fail), (by first | omega | rfl | assumption | fail), (by first | assumption | fail | omega), (by first | omega | rfl | assumption | fail), (by first | omega | rfl | assumption | fail), (by first | omega | rfl | assumption | fail), (by first | omega | rfl | assumption | fail), (by first | omega | rfl | assumption | fail), (by first | omega | rfl | assumption | fail), (by first | omega | rfl | assumption | fail)⟩) (by omega) _ (lv_sub hl [1, 2, 3, 4, 5, 0] rfl)
                · skip
                  have c_106' : z_105.toInt < 10 := jb_ge_n (rfl) ((by decide)) c_106
                  refine lv_bipush (v := 48) hx hb dX0_quoted_154 (by decide) ?_
                  refine lv_iload hx hb dX0_quoted_156 (lv_at hl 6 rfl) ?_
                  refine lv_bipush (v := 15) hx hb dX0_quoted_158 (by decide) ?_
                  refine lv_iand hx hb dX0_quoted_160 ?_
                  refine lv_topi (fun z_118 ez_118 => ?_)
                  have hz_118 : 0 ≤ z_118.toInt ∧ z_118.toInt ≤ 15 := by rw [ez_118]; exact jb_and z_27 (m := 15) (k := 4) (by decide) (by decide)
                  refine lv_iadd hx hb dX0_quoted_161 ?_
                  refine lv_topi (fun z_119 ez_119 => ?_)
                  refine lv_goto (tgt := 176) hx hb dX0_quoted_162 (by decide) ?_
                  have hsz_120 := hh_104.2.2.2.2.2.1
                  have htt_120 := hh_104.2.2.2.2.2.2.1
                  refine W.room (fun hrc_120 hrs_120 => ?_)
                  refine va_callv (A0 := jA base) (H0 := s.heap) (va_runV (As := [.int z_119]) (rest := []) ⟨hx, hb, hml, hown, hts⟩ (uX0_putS l dC dI ca base B hB hAp hB2 hB196 G_98 H_98 r0 z_119 qc_98 qa_98 m_qa_98 LC LS) (cwV 1 hts (jgV (jWr_24 _ (List.mem_of_getElem? (i := 22) rfl)) (jWr_16 _ (List.mem_of_getElem? (i := 0) rfl)) (jWr_16 _ (List.mem_of_getElem? (i := 1) rfl)) (jWr_1 _ (List.mem_of_getElem? (i := 14) rfl)) (jWr_16 _ (List.mem_of_getElem? (i := 2) rfl))) rfl rfl rfl (by decide +kernel) ⟨by rw [← hR]; exact Nat.le_of_ble_eq_true rfl, by rw [← hR]; exact Nat.le_of_ble_eq_true rfl⟩) ⟨fun a U g mk q => by obtain ⟨q0, q1, q2, qK, q10, q11, q12, q13⟩ := q; exact ⟨q0, q1, q2, jG.calling g mk a qK, q10, q11, q12, q13⟩, hh_104.recv (C := RX0) (T := TX0) (N := 2) hB2 rfl (by decide) hg_100 hK, fun U hU hW => ⟨rfl, hU, hh_104.2.1, hG.step hW hU hh_104.1, hg_100, hgq_98_0, (hh_104.2.2.1.sub (L1 := [(r0, 2, 1, .int qc_98), (r0, 2, 0, .ref qa_98)]) [0, 1] rfl), (by omega), (by omega), ⟨(by first | omega | rfl | assumption | fail), (by first | omega | rfl | assumption | fail), (by first | omega | rfl | assumption | fail), (by first | omega | rfl | assumption | fail), (by first | assumption | fail | omega), (by first | omega | rfl | assumption | fail)⟩⟩⟩ rfl rfl hl.1 rfl (lv_room (Nat.le_of_ble_eq_true rfl)) dX0_quoted_176 ⟨by rw [hRc]; omega, by rw [hRs]; omega⟩) hh_104.1 (fun q _ h => h) (fun q h => h) (fun u_120 t_120 H_120 locs_120 ht_120 hvm_120 hr_121 hb_120 hz_120 hk_120 hS_120 => ?_)
                  obtain ⟨qc_120, qa_120, m_qa_120, G_120⟩ := u_120
                  rw [ht_120] at hb_120
                  simp only at hb_120
                  obtain ⟨⟨hb_1201, hb_1202, hb_1203, hb_1204, hb_1205, hb_1206⟩, hgq_120_0, hN_120, hbO_120⟩ := hb_120
                  have hh_120 : jSt (dC, dI) B base G0 G_120 EX0_quotedS s.heap (((m_qa_98 - n_pa) / 16) + ((m_qa_120 - m_qa_98) / 16)) ((2 * (m_qa_98 - n_pa)) + (2 * (m_qa_120 - m_qa_98))) [(r0, 2, 1, .int qc_120), (r0, 2, 0, .ref qa_120)] [] [] H_120 locs_120 := (hh_104.callG hb_1201 hb_1202 hb_1203 hb_1204 hb_1205 hS_120 rfl (L1 := []) [] rfl rfl (M1 := []) [] rfl rfl (I1 := []) [] rfl rfl).more hb_1206
                  have hNn_120 : (jNk [0, 1, 2, 3, 4, 5, 6, 7, 8, 9, 10, 11, 12, 13, 14, 15, 16]) G0 G_120 := (hNn_98).tr hN_120
                  have hg_122 := hb_1202 _ _ hg_100
                  have hg_123 := hb_1202 _ _ hg_101
                  have hd_124 := jOw.tr (hh_104.iv 0 rfl) hh_104.2.2.2.2.1 hbO_120
                  have hh_125 := hh_120.addI (jOw.ie (dC := dC) (dI := dI) (G0 := G0) (k := 2) (r := r0) (H0 := s.heap) (F := [(2, 0), (2, 1)]) (C := RX0) (T := TX0) (N := 2) rfl (by decide) hh_120.2.2.2.2.1 (hd_124))
                  clear hh_120
                  try simp only at hr_121
                  obtain ⟨hr_121_0, hr_121_1, hr_121_2, hr_121_3, hr_121_4, hr_121_5⟩ := hr_121
                  have hh_126 := hh_125.wk (zc1 := (m_qa_120 - n_pa) / 16) (zs1 := 2 * (m_qa_120 - n_pa)) (by omega) (by omega)
                  clear hh_125
                  try clear hsz_120 htt_120 hrc_120 hrs_120
                  try clear hb_1204 hb_1205
                  refine lv_goto (tgt := 208) hx hb dX0_quoted_179 (by decide) ?_
                  obtain ⟨z_127, ez_127⟩ : ∃ y : Int32, y = v5_15 + 1 := ⟨_, rfl⟩
                  refine lv_iinc (v := z_127) (lv' := [(5, .int z_127), (0, .ref r0), (1, .ref r1), (2, .int a2), (3, .int a3), (4, .int z_12), (6, .int z_27)]) hx hb dX0_quoted_208 hl (k := 5) rfl (by rw [ez_127]; rfl) (by decide) rfl (fun ls hl => ?_)
                  have hz_127 : z_127.toInt = v5_15.toInt + 1 := by rw [ez_127]; exact jb_iadd2 (rfl) (by decide) (by omega)
                  refine lv_goto (tgt := 23) hx hb dX0_quoted_211 (by decide) ?_
                  refine W.tight (c2 := ((m_qa_120 - n_pa) / 16)) (n2 := (2 * (m_qa_120 - n_pa))) hh_126.2.2.2.2.2.1 hh_126.2.2.2.2.2.2.1 ?_
                  exact L23 G_120 ((m_qa_120 - n_pa) / 16) (2 * (m_qa_120 - n_pa)) z_127 qc_120 qa_120 m_qa_120 _ _ hh_126 (hNn_120) ((((hle_15).tr hb_892).tr hb_982).tr hb_1202) hgq_120_0 (⟨(by first | omega | rfl | assumption | fail), (by first | omega | rfl | assumption | fail), (by first | omega | rfl | assumption | fail), (by first | omega | rfl | assumption | fail), (by first | assumption | fail | omega), (by first | omega | rfl | assumption | fail), (by first | omega | rfl | assumption | fail), (by first | omega | rfl | assumption | fail), (by first | omega | rfl | assumption | fail), (by first | omega | rfl | assumption | fail), (by first | omega | rfl | assumption | fail), (by first | omega | rfl | assumption | fail)⟩) (by omega) _ (lv_sub hl [1, 2, 3, 4, 5, 0] rfl)
            · skip
              have c_47' : r_44.toInt ≠ 0 := jb_eq_n (rfl) ((by decide)) c_47
              refine lv_aload_n hx hb dX0_quoted_110 rfl (lv_at hl 0 rfl) ?_
              refine lv_ldc hx hb hown hcs_66 dX0_quoted_111 ?_
              have hsz_128 := hh_31.2.2.2.2.2.1
              have htt_128 := hh_31.2.2.2.2.2.2.1
              refine W.room (fun hrc_128 hrs_128 => ?_)
              refine va_callv (A0 := jA base) (H0 := s.heap) (va_runV (As := [.int 65533]) (rest := []) ⟨hx, hb, hml, hown, hts⟩ (uX0_characterS l dC dI ca base B hB hAp hB2 hB196 Gx_15 H_31 r0 65533 wc_15 wr_15 m_wr_15 LC LS) (cwV 1 hts (jgV (jWr_25 _ (List.mem_of_getElem? (i := 17) rfl)) (jWr_25 _ (List.mem_of_getElem? (i := 18) rfl)) (jWr_25 _ (List.mem_of_getElem? (i := 19) rfl)) (jWr_1 _ (List.mem_of_getElem? (i := 14) rfl)) (jWr_25 _ (List.mem_of_getElem? (i := 20) rfl))) rfl rfl rfl (by decide +kernel) ⟨by rw [← hR]; exact Nat.le_of_ble_eq_true rfl, by rw [← hR]; exact Nat.le_of_ble_eq_true rfl⟩) ⟨fun a U g mk q => by obtain ⟨q0, q1, q2, qK, q10, q11, q12, q13⟩ := q; exact ⟨q0, q1, q2, jG.calling g mk a qK, q10, q11, q12, q13⟩, hh_31.recv (C := RX0) (T := TX0) (N := 2) hB2 rfl (by decide) hg_16 hK, fun U hU hW => ⟨rfl, hU, hh_31.2.1, hG.step hW hU hh_31.1, hg_16, hg_wr_15, (hh_31.2.2.1.sub (L1 := [(r0, 2, 1, .int wc_15), (r0, 2, 0, .ref wr_15)]) [0, 1] rfl), (by omega), (by omega), ⟨(by first | omega | rfl | assumption | fail), (by first | omega | rfl | assumption | fail), (by first | omega | rfl | assumption | fail), (by first | omega | rfl | assumption | fail), (by first | assumption | fail | omega), (by first | omega | rfl | assumption | fail)⟩⟩⟩ rfl rfl hl.1 rfl (lv_room (Nat.le_of_ble_eq_true rfl)) dX0_quoted_113 ⟨by rw [hRc]; omega, by rw [hRs]; omega⟩) hh_31.1 (fun q _ h => h) (fun q h => h) (fun u_128 t_128 H_128 locs_128 ht_128 hvm_128 hr_129 hb_128 hz_128 hk_128 hS_128 => ?_)
              obtain ⟨qc_128, qa_128, m_qa_128, G_128⟩ := u_128
              rw [ht_128] at hb_128
              simp only at hb_128
              obtain ⟨⟨hb_1281, hb_1282, hb_1283, hb_1284, hb_1285, hb_1286⟩, hgq_128_0, hN_128, hbO_128⟩ := hb_128
              have hh_128 : jSt (dC, dI) B base G0 G_128 EX0_quotedS s.heap (zcx_15 + ((m_qa_128 - m_wr_15) / 16)) (zsx_15 + (2 * (m_qa_128 - m_wr_15))) [(r0, 2, 1, .int qc_128), (r0, 2, 0, .ref qa_128)] [] [] H_128 locs_128 := (hh_31.callG hb_1281 hb_1282 hb_1283 hb_1284 hb_1285 hS_128 rfl (L1 := []) [] rfl rfl (M1 := []) [] rfl rfl (I1 := []) [] rfl rfl).more hb_1286
              have hNn_128 : (jNk [0, 1, 2, 3, 4, 5, 6, 7, 8, 9, 10, 11, 12, 13, 14, 15, 16]) G0 G_128 := (hN_15).tr hN_128
              have hg_130 := hb_1282 _ _ hg_16
              have hg_131 := hb_1282 _ _ hg_17
              have hd_132 := jOw.tr (hh_31.iv 0 rfl) hh_31.2.2.2.2.1 hbO_128
              have hh_133 := hh_128.addI (jOw.ie (dC := dC) (dI := dI) (G0 := G0) (k := 2) (r := r0) (H0 := s.heap) (F := [(2, 0), (2, 1)]) (C := RX0) (T := TX0) (N := 2) rfl (by decide) hh_128.2.2.2.2.1 (hd_132))
              clear hh_128
              try simp only at hr_129
              obtain ⟨hr_129_0, hr_129_1, hr_129_2, hr_129_3, hr_129_4, hr_129_5, hr_129_6⟩ := hr_129
              have hh_134 := hh_133.wk (zc1 := (m_qa_128 - n_pa) / 16) (zs1 := 2 * (m_qa_128 - n_pa)) (by omega) (by omega)
              clear hh_133
              try clear hsz_128 htt_128 hrc_128 hrs_128
              try clear hb_1284 hb_1285
              refine lv_goto (tgt := 208) hx hb dX0_quoted_116 (by decide) ?_
              obtain ⟨z_135, ez_135⟩ : ∃ y : Int32, y = v5_15 + 1 := ⟨_, rfl⟩
              refine lv_iinc (v := z_135) (lv' := [(5, .int z_135), (0, .ref r0), (1, .ref r1), (2, .int a2), (3, .int a3), (4, .int z_12), (6, .int z_27)]) hx hb dX0_quoted_208 hl (k := 5) rfl (by rw [ez_135]; rfl) (by decide) rfl (fun ls hl => ?_)
              have hz_135 : z_135.toInt = v5_15.toInt + 1 := by rw [ez_135]; exact jb_iadd2 (rfl) (by decide) (by omega)
              refine lv_goto (tgt := 23) hx hb dX0_quoted_211 (by decide) ?_
              refine W.tight (c2 := ((m_qa_128 - n_pa) / 16)) (n2 := (2 * (m_qa_128 - n_pa))) hh_134.2.2.2.2.2.1 hh_134.2.2.2.2.2.2.1 ?_
              exact L23 G_128 ((m_qa_128 - n_pa) / 16) (2 * (m_qa_128 - n_pa)) z_135 qc_128 qa_128 m_qa_128 _ _ hh_134 (hNn_128) ((hle_15).tr hb_1282) hgq_128_0 (⟨(by first | omega | rfl | assumption | fail), (by first | omega | rfl | assumption | fail), (by first | omega | rfl | assumption | fail), (by first | omega | rfl | assumption | fail), (by first | assumption | fail | omega), (by first | omega | rfl | assumption | fail), (by first | omega | rfl | assumption | fail), (by first | omega | rfl | assumption | fail), (by first | omega | rfl | assumption | fail), (by first | omega | rfl | assumption | fail), (by first | omega | rfl | assumption | fail), (by first | omega | rfl | assumption | fail)⟩) (by omega) _ (lv_sub hl [1, 2, 3, 4, 5, 0] rfl)
        refine lv_if_eq (tgt := 94) hx hb dX0_quoted_41 (by decide) (fun c_136 => ?_) (fun c_136 => ?_)
        · skip
          have c_136' : r_28.toInt = 0 := jb_eq (rfl) ((by decide)) c_136
          refine W.tight (c2 := zcx_15) (n2 := zsx_15) hh_15.2.2.2.2.2.1 hh_15.2.2.2.2.2.2.1 ?_
          exact C94  _ _ hh_15 (trivial) _ (lv_sub hl [1, 2, 3, 4, 5, 6, 0] rfl)
        · skip
          have c_136' : r_28.toInt ≠ 0 := jb_eq_n (rfl) ((by decide)) c_136
          refine lv_iload hx hb dX0_quoted_44 (lv_at hl 6 rfl) ?_
          refine lv_iconst (v := 1) hx hb dX0_quoted_46 (by decide) ?_
          refine lv_iadd hx hb dX0_quoted_47 ?_
          refine lv_topi (fun z_137 ez_137 => ?_)
          have hz_137 : z_137.toInt = v5_15.toInt + 1 := by rw [ez_137]; exact jb_iadd2 (rfl) ((by decide)) (by omega)
          refine lv_iload hx hb dX0_quoted_48 (lv_at hl 5 rfl) ?_
          refine lv_icmp_ge (tgt := 94) hx hb dX0_quoted_50 (by decide) (fun c_138 => ?_) (fun c_138 => ?_)
          · skip
            have c_138' : z_137.toInt ≥ z_12.toInt := jb_ge (rfl) (rfl) c_138
            refine W.tight (c2 := zcx_15) (n2 := zsx_15) hh_15.2.2.2.2.2.1 hh_15.2.2.2.2.2.2.1 ?_
            exact C94  _ _ hh_15 (trivial) _ (lv_sub hl [1, 2, 3, 4, 5, 6, 0] rfl)
          · skip
            have c_138' : z_137.toInt < z_12.toInt := jb_ge_n (rfl) (rfl) c_138
            refine lv_aload_n hx hb dX0_quoted_53 rfl (lv_at hl 2 rfl) ?_
            refine lv_iload hx hb dX0_quoted_54 (lv_at hl 6 rfl) ?_
            refine lv_iconst (v := 1) hx hb dX0_quoted_56 (by decide) ?_
            refine lv_iadd hx hb dX0_quoted_57 ?_
            refine lv_topi (fun z_139 ez_139 => ?_)
            have hz_139 : z_139.toInt = v5_15.toInt + 1 := by rw [ez_139]; exact jb_iadd2 (rfl) ((by decide)) (by omega)
            refine j7_iald hx hb hK hh_15 hB101 1 rfl (by decide) hg_17 (x := z_139.toInt) (rfl) (by omega) dX0_quoted_58 (fun z_140 (hz_140 : True) => ?_)
            have hsz_143 := hh_15.2.2.2.2.2.1
            have htt_143 := hh_15.2.2.2.2.2.2.1
            refine W.room (fun hrc_143 hrs_143 => ?_)
            have hsz_142 := hh_15.2.2.2.2.2.1
            have htt_142 := hh_15.2.2.2.2.2.2.1
            refine W.room (fun hrc_142 hrs_142 => ?_)
            refine vp_callSi (W.runS (As := [.int z_140]) (rest := []) ⟨hx, hb, hml, hown, hts⟩ (wX0_isLow l dC dI ca base H_15 z_140) (va_cwS 1 hts (jgS (jWr_25 _ (List.mem_of_getElem? (i := 16) rfl)) (jWr_21 _ (List.mem_of_getElem? (i := 10) rfl)) (jWr_1 _ (List.mem_of_getElem? (i := 14) rfl)) (jWr_21 _ (List.mem_of_getElem? (i := 11) rfl))) rfl rfl rfl (by decide +kernel) ⟨by rw [← hR]; exact Nat.le_of_ble_eq_true rfl, by rw [← hR]; exact Nat.le_of_ble_eq_true rfl⟩) ⟨fun a U g mk q => by obtain ⟨q0, q1, qK, q9⟩ := q; exact ⟨q0, q1, jG.calling g mk a qK, q9⟩, fun U hU hW => ⟨rfl, hU, hG.step hW hU hh_15.1, by first | trivial | omega | (constructor <;> omega)⟩⟩ rfl rfl hl.1 rfl (lv_room (Nat.le_of_ble_eq_true rfl)) dX0_quoted_59 ⟨by rw [hRc]; omega, by rw [hRs]; omega⟩) (fun r_141 hr_141 => ?_)
            have hr_141' : r_141.toInt = 0 ∨ r_141.toInt = 1 := jb_01 hr_141
            refine lv_if_eq (tgt := 94) hx hb dX0_quoted_62 (by decide) (fun c_144 => ?_) (fun c_144 => ?_)
            · skip
              have c_144' : r_141.toInt = 0 := jb_eq (rfl) ((by decide)) c_144
              refine W.tight (c2 := zcx_15) (n2 := zsx_15) hh_15.2.2.2.2.2.1 hh_15.2.2.2.2.2.2.1 ?_
              exact C94  _ _ hh_15 (trivial) _ (lv_sub hl [1, 2, 3, 4, 5, 6, 0] rfl)
            · skip
              have c_144' : r_141.toInt ≠ 0 := jb_eq_n (rfl) ((by decide)) c_144
              obtain ⟨z_145, ez_145⟩ : ∃ y : Int32, y = v5_15 + 1 := ⟨_, rfl⟩
              refine lv_iinc (v := z_145) (lv' := [(5, .int z_145), (6, .int z_27), (0, .ref r0), (1, .ref r1), (2, .int a2), (3, .int a3), (4, .int z_12)]) hx hb dX0_quoted_65 hl (k := 6) rfl (by rw [ez_145]; rfl) (by decide) rfl (fun ls hl => ?_)
              have hz_145 : z_145.toInt = v5_15.toInt + 1 := by rw [ez_145]; exact jb_iadd2 (rfl) (by decide) (by omega)
              refine lv_aload_n hx hb dX0_quoted_68 rfl (lv_at hl 2 rfl) ?_
              refine lv_ldc hx hb hown hcs_60 dX0_quoted_69 ?_
              refine lv_iload hx hb dX0_quoted_71 (lv_at hl 1 rfl) ?_
              refine lv_ldc hx hb hown hcs_61 dX0_quoted_73 ?_
              refine lv_isub hx hb dX0_quoted_75 ?_
              refine lv_topi (fun z_146 ez_146 => ?_)
              refine lv_bipush (v := 10) hx hb dX0_quoted_76 (by decide) ?_
              refine lv_ishl hx hb dX0_quoted_78 ?_
              refine lv_topi (fun z_147 ez_147 => ?_)
              refine lv_iadd hx hb dX0_quoted_79 ?_
              refine lv_topi (fun z_148 ez_148 => ?_)
              refine lv_aload_n hx hb dX0_quoted_80 rfl (lv_at hl 3 rfl) ?_
              refine lv_iload hx hb dX0_quoted_81 (lv_at hl 0 rfl) ?_
              refine j7_iald hx hb hK hh_15 hB101 1 rfl (by decide) hg_17 (x := z_145.toInt) (rfl) (by omega) dX0_quoted_83 (fun z_149 (hz_149 : True) => ?_)
              refine lv_iadd hx hb dX0_quoted_84 ?_
              refine lv_topi (fun z_150 ez_150 => ?_)
              refine lv_ldc hx hb hown hcs_62 dX0_quoted_85 ?_
              refine lv_isub hx hb dX0_quoted_87 ?_
              refine lv_topi (fun z_151 ez_151 => ?_)
              have hsz_152 := hh_15.2.2.2.2.2.1
              have htt_152 := hh_15.2.2.2.2.2.2.1
              refine W.room (fun hrc_152 hrs_152 => ?_)
              refine va_callv (A0 := jA base) (H0 := s.heap) (va_runV (As := [.int z_151]) (rest := []) ⟨hx, hb, hml, hown, hts⟩ (uX0_characterS l dC dI ca base B hB hAp hB2 hB196 Gx_15 H_15 r0 z_151 wc_15 wr_15 m_wr_15 LC LS) (cwV 1 hts (jgV (jWr_25 _ (List.mem_of_getElem? (i := 17) rfl)) (jWr_25 _ (List.mem_of_getElem? (i := 18) rfl)) (jWr_25 _ (List.mem_of_getElem? (i := 19) rfl)) (jWr_1 _ (List.mem_of_getElem? (i := 14) rfl)) (jWr_25 _ (List.mem_of_getElem? (i := 20) rfl))) rfl rfl rfl (by decide +kernel) ⟨by rw [← hR]; exact Nat.le_of_ble_eq_true rfl, by rw [← hR]; exact Nat.le_of_ble_eq_true rfl⟩) ⟨fun a U g mk q => by obtain ⟨q0, q1, q2, qK, q10, q11, q12, q13⟩ := q; exact ⟨q0, q1, q2, jG.calling g mk a qK, q10, q11, q12, q13⟩, hh_15.recv (C := RX0) (T := TX0) (N := 2) hB2 rfl (by decide) hg_16 hK, fun U hU hW => ⟨rfl, hU, hh_15.2.1, hG.step hW hU hh_15.1, hg_16, hg_wr_15, (hh_15.2.2.1.sub (L1 := [(r0, 2, 1, .int wc_15), (r0, 2, 0, .ref wr_15)]) [0, 1] rfl), (by omega), (by omega), ⟨(by first | omega | rfl | assumption | fail), (by first | omega | rfl | assumption | fail), (by first | omega | rfl | assumption | fail), (by first | omega | rfl | assumption | fail), (by first | assumption | fail | omega), (by first | omega | rfl | assumption | fail)⟩⟩⟩ rfl rfl hl.1 rfl (lv_room (Nat.le_of_ble_eq_true rfl)) dX0_quoted_88 ⟨by rw [hRc]; omega, by rw [hRs]; omega⟩) hh_15.1 (fun q _ h => h) (fun q h => h) (fun u_152 t_152 H_152 locs_152 ht_152 hvm_152 hr_153 hb_152 hz_152 hk_152 hS_152 => ?_)
              obtain ⟨qc_152, qa_152, m_qa_152, G_152⟩ := u_152
              rw [ht_152] at hb_152
              simp only at hb_152
              obtain ⟨⟨hb_1521, hb_1522, hb_1523, hb_1524, hb_1525, hb_1526⟩, hgq_152_0, hN_152, hbO_152⟩ := hb_152
              have hh_152 : jSt (dC, dI) B base G0 G_152 EX0_quotedS s.heap (zcx_15 + ((m_qa_152 - m_wr_15) / 16)) (zsx_15 + (2 * (m_qa_152 - m_wr_15))) [(r0, 2, 1, .int qc_152), (r0, 2, 0, .ref qa_152)] [] [] H_152 locs_152 := (hh_15.callG hb_1521 hb_1522 hb_1523 hb_1524 hb_1525 hS_152 rfl (L1 := []) [] rfl rfl (M1 := []) [] rfl rfl (I1 := []) [] rfl rfl).more hb_1526
              have hNn_152 : (jNk [0, 1, 2, 3, 4, 5, 6, 7, 8, 9, 10, 11, 12, 13, 14, 15, 16]) G0 G_152 := (hN_15).tr hN_152
              have hg_154 := hb_1522 _ _ hg_16
              have hg_155 := hb_1522 _ _ hg_17
              have hd_156 := jOw.tr (hh_15.iv 0 rfl) hh_15.2.2.2.2.1 hbO_152
              have hh_157 := hh_152.addI (jOw.ie (dC := dC) (dI := dI) (G0 := G0) (k := 2) (r := r0) (H0 := s.heap) (F := [(2, 0), (2, 1)]) (C := RX0) (T := TX0) (N := 2) rfl (by decide) hh_152.2.2.2.2.1 (hd_156))
              clear hh_152
              try simp only at hr_153
              obtain ⟨hr_153_0, hr_153_1, hr_153_2, hr_153_3, hr_153_4, hr_153_5, hr_153_6⟩ := hr_153
              have hh_158 := hh_157.wk (zc1 := (m_qa_152 - n_pa) / 16) (zs1 := 2 * (m_qa_152 - n_pa)) (by omega) (by omega)
              clear hh_157
              try clear hsz_152 htt_152 hrc_152 hrs_152
              try clear hb_1524 hb_1525
              refine lv_goto (tgt := 208) hx hb dX0_quoted_91 (by decide) ?_
              obtain ⟨z_159, ez_159⟩ : ∃ y : Int32, y = z_145 + 1 := ⟨_, rfl⟩
              refine lv_iinc (v := z_159) (lv' := [(5, .int z_159), (6, .int z_27), (0, .ref r0), (1, .ref r1), (2, .int a2), (3, .int a3), (4, .int z_12)]) hx hb dX0_quoted_208 hl (k := 0) rfl (by rw [ez_159]; rfl) (by decide) rfl (fun ls hl => ?_)
              have hz_159 : z_159.toInt = z_145.toInt + 1 := by rw [ez_159]; exact jb_iadd2 (rfl) (by decide) (by omega)
              refine lv_goto (tgt := 23) hx hb dX0_quoted_211 (by decide) ?_
              refine W.tight (c2 := ((m_qa_152 - n_pa) / 16)) (n2 := (2 * (m_qa_152 - n_pa))) hh_158.2.2.2.2.2.1 hh_158.2.2.2.2.2.2.1 ?_
              exact L23 G_152 ((m_qa_152 - n_pa) / 16) (2 * (m_qa_152 - n_pa)) z_159 qc_152 qa_152 m_qa_152 _ _ hh_158 (hNn_152) ((hle_15).tr hb_1522) hgq_152_0 (⟨(by first | omega | rfl | assumption | fail), (by first | omega | rfl | assumption | fail), (by first | omega | rfl | assumption | fail), (by first | omega | rfl | assumption | fail), (by first | assumption | fail | omega), (by first | omega | rfl | assumption | fail), (by first | omega | rfl | assumption | fail), (by first | omega | rfl | assumption | fail), (by first | omega | rfl | assumption | fail), (by first | omega | rfl | assumption | fail), (by first | omega | rfl | assumption | fail), (by first | omega | rfl | assumption | fail)⟩) (by omega) _ (lv_sub hl [2, 3, 4, 5, 6, 0] rfl)
  refine W.tight (c2 := ((m_qa_2 - n_pa) / 16)) (n2 := (2 * (m_qa_2 - n_pa))) hh_8.2.2.2.2.2.1 hh_8.2.2.2.2.2.2.1 ?_
  exact L23 (((z_12.toInt - (z_14 : Int32).toInt).toNat : Int) : Int).toNat.succ G_2 ((m_qa_2 - n_pa) / 16) (2 * (m_qa_2 - n_pa)) z_14 qc_2 qa_2 m_qa_2 _ _ hh_8 (hNn_2) (jLe.rf) hgq_2_0 (⟨(by first | omega | rfl | assumption | fail), (by first | omega | rfl | assumption | fail), (by first | omega | rfl | assumption | fail), (by first | omega | rfl | assumption | fail), (by first | assumption | fail | omega), (by first | omega | rfl | assumption | fail), (by first | omega | rfl | assumption | fail), (by first | omega | rfl | assumption | fail), (by first | omega | rfl | assumption | fail), (by first | omega | rfl | assumption | fail), (by first | omega | rfl | assumption | fail), (by first | omega | rfl | assumption | fail)⟩) (by omega) _ (lv_sub hl [2, 3, 4, 5, 1, 0] rfl)
set_option maxHeartbeats 4000000 in
set_option maxRecDepth 20000 in
theorem uX0_initY (l : Launch) (dC : Nat → ClassId) (dI : Nat → Nat → Nat) (ca : Nat → ClassId) (base : Nat) (B : jF) (hB : jBok B) (hAp : jAp (dC, dI)) (hB2 : ∀ n G a H, B 2 n G a H ↔ jOb (dC, dI) 2 2 (F2 n G) a H) (hB196 : ∀ n G a H, B 196 n G a H ↔ jAr (dC, dI) (ca 0) (fun j z => jBf j z) n a H) (G0 : jT) (H0 : Heap) (r0 : Nat) (a1 : Int32) (kn : Nat) (LC LS : Nat) : Met l yX0_init (jw yX0_init cX0_init 2 none) ({ frames := 1, cells := LC - H0.size, slots := LS - jTot H0, locals := 31 }) (va_Pc [.ref r0, .int a1] (fun U => U.heap = H0 ∧ jX B base G0 [] H0 ∧ jG dC dI ca base U ∧ va_at (dC, dI) vwCl (r0, .inr (2, [.null, .int 0])) H0 ∧ (∀ t, G0 r0 ≠ some t) ∧ base ≤ r0 ∧ jP (dC, dI) G0 H0 [] ∧ jIs (dC, dI) G0 H0 [(jFy, jYb dC dI G0)] ∧ H0.size + 1 ≤ LC ∧ jTot H0 + a1.toInt.toNat ≤ LS ∧ 16 ≤ a1.toInt ∧ a1.toInt ≤ 20000 ∧ (kn = 0 ∨ kn = a1.toInt) ∧ (kn = 0 → jPw (a1.toInt).toNat) ∧ kn ≠ 4000)) (va_Qv (S := Int32 × Nat × Nat × jT) (fun u => u.1.toInt = 0 ∧ u.2.2.1 = a1.toInt) (fun u t => jRa (dC, dI) B base G0 u.2.2.2 EX0_initY H0 (1) (a1.toInt.toNat) [(r0, 2, 1, .int u.1), (r0, 2, 0, .ref u.2.1)] t.heap ∧ u.2.2.2 u.2.1 = some (196, u.2.2.1) ∧ (jNk [0, 1, 3, 4, 5, 6, 7, 8, 9, 10, 11, 12, 13, 14, 15, 16]) G0 u.2.2.2 ∧ u.2.2.2 r0 = some (2, kn) ∧ jKx r0 G0 u.2.2.2 H0 t.heap ∧ jIs (dC, dI) u.2.2.2 t.heap [(jFy, jYb dC dI u.2.2.2)]) (jA base)) (LC - H0.size) (LS - jTot H0) (jA base) := by
  refine Met.ofW (cc := cX0_init) (maxL := 2) (ret := none) (by decide) rfl ?_
  intro p e s m args below meth c s₁ Bd hml hv
  obtain ⟨rfl, hH0, hX, hG, hraw0, hnr0, hbr0, hP0, hI0, hLC0, hLS0, hp0, hp1, hp2, hp3, hp4⟩ := hv
  have hK := hG.1
  have hx := Bd.exec
  have hb := Bd.bytes
  have hr := Bd.returns
  have hts := atoms_spec (ws := (jw yX0_init cX0_init 2 none)) Bd.pre
  have htw : ∀ w ∈ jWl, w.before _ s = true := fun w h => hts w (List.mem_cons_of_mem _ h)
  have hown : s.vm.findClass RX0 = some m.cls := findClass_of_methodNamed Bd.named
  have hlocks := Bd.notSynchronized
  obtain ⟨Q, hQ⟩ : ∃ Q, Q = MQ below (va_Qv (S := Int32 × Nat × Nat × jT) (fun u => u.1.toInt = 0 ∧ u.2.2.1 = a1.toInt) (fun u t => jRa (dC, dI) B base G0 u.2.2.2 EX0_initY H0 (1) (a1.toInt.toNat) [(r0, 2, 1, .int u.1), (r0, 2, 0, .ref u.2.1)] t.heap ∧ u.2.2.2 u.2.1 = some (196, u.2.2.1) ∧ (jNk [0, 1, 3, 4, 5, 6, 7, 8, 9, 10, 11, 12, 13, 14, 15, 16]) G0 u.2.2.2 ∧ u.2.2.2 r0 = some (2, kn) ∧ jKx r0 G0 u.2.2.2 H0 t.heap ∧ jIs (dC, dI) u.2.2.2 t.heap [(jFy, jYb dC dI u.2.2.2)]) (jA base)) ([.ref r0, .int a1] : List Value).toArray s (LC - H0.size) (LS - jTot H0) (jA base) := ⟨_, rfl⟩
  rw [← hQ]
  have hl := lv_entry ([.ref r0, .int a1]) (n := 2) (Nat.le_of_ble_eq_true rfl)
  rw [lg_entry_eq]
  generalize (lg_sl ([.ref r0, .int a1]) ++ List.replicate (2 - (lg_sl ([.ref r0, .int a1])).length) Slot.unset).toArray = ls at hl ⊢
  have hl : lv_has ls 2 [(0, .ref r0), (1, .int a1)] := hl
  generalize hR : (headSpec (jw yX0_init cX0_init 2 none) ({ frames := 1, cells := LC - H0.size, slots := LS - jTot H0, locals := 31 })).room = R
  subst hH0
  have hh : jSt (dC, dI) B base G0 G0 EX0_initY s.heap 0 0 [] [] [(jFy, jYb dC dI G0)] s.heap [] := jSt.start hX hP0 jMc.nil hI0
  clear hX hP0
  have hk0 : (0 : Int32).toInt = 0 := by decide
  have hk1 : (1 : Int32).toInt = 1 := by decide
  have hk16 : (16 : Int32).toInt = 16 := by decide
  have hly_2_0 := htw (u_lay RX0 TX0 0) (jWc_wsX00 _ (u_in_lay (by decide)))
  have hlk_13 := (htw (.fieldLink RX0 13 "ProofServer$Bytes" "row" "[B") (jWr_3 _ (List.mem_of_getElem? (i := 10) rfl)))
  have hrg_a1 := jb_rng a1
  have hbs : base ≤ s.heap.size := Nat.le_of_lt (Nat.lt_of_le_of_lt hbr0 hraw0.lt)
  have hRc : R.cells = LC - s.heap.size := by rw [← hR]; rfl
  have hRs : R.slots = LS - jTot s.heap := by rw [← hR]; rfl
  have hin2 : meth.name = "<init>" := (name_of_methodNamed Bd.named Bd.method).1
  have hkp : jKx r0 G0 G0 s.heap s.heap := jKx.rf
  refine lv_aload_n hx hb dX0_init_0 rfl (lv_at hl 0 rfl) ?_
  refine W.objInit hx hb hown (htw (.methodLink RX0 1 objectInit) (jWr_3 _ (List.mem_of_getElem? (i := 4) rfl))) (htw (.instanceMethod objectInit) (jWr_1 _ (List.mem_of_getElem? (i := 10) rfl))) (htw (.code objectInit ⟨#[0xb1]⟩ 1 none) (jWr_1 _ (List.mem_of_getElem? (i := 11) rfl))) rfl (by rw [hml]; exact hl.1) rfl dX0_init_1 (by rw [← hR]; exact Nat.le_of_ble_eq_true rfl) (by rw [← hR]; exact Nat.le_of_ble_eq_true rfl) ?_
  refine W.eq (g2 := F0 m 4 ls []) rfl ?_
  refine lv_aload_n hx hb dX0_init_4 rfl (lv_at hl 0 rfl) ?_
  refine lv_iload_n hx hb dX0_init_5 rfl (lv_at hl 1 rfl) ?_
  refine lv_bipush (v := 16) hx hb dX0_init_6 (by decide) ?_
  have hsz_1 := hh.2.2.2.2.2.1
  have htt_1 := hh.2.2.2.2.2.2.1
  refine W.room (fun hrc_1 hrs_1 => ?_)
  refine va_mmax hx hb (by rw [hml]; exact hl.1.symm) hown (htw (.methodLink RX0 7 Lib.Math.max.name) (jWr_3 _ (List.mem_of_getElem? (i := 5) rfl))) (htw (.static Lib.Math.max.name) (jWr_3 _ (List.mem_of_getElem? (i := 6) rfl))) (htw (.initialized "java/lang/Math") (jWr_3 _ (List.mem_of_getElem? (i := 7) rfl))) (htw (.code Lib.Math.max.name Lib.Math.max.code 2 (some .int)) (jWr_3 _ (List.mem_of_getElem? (i := 8) rfl))) (by rw [← hR]; exact Nat.le_of_ble_eq_true rfl) (by rw [← hR]; exact Nat.le_of_ble_eq_true rfl) (by rw [hRc]; omega) (by rw [hRs]; omega) dX0_init_8 ?_
  refine lv_topi (fun z_2 ez_2 => ?_)
  have hz_2 := jb_max ez_2
  have hsz_3 := hh.2.2.2.2.2.1
  have htt_3 := hh.2.2.2.2.2.2.1
  refine j7_newiK hx hb hK hh hB (atype := .byte) (ty := .byte) (htw (.arrayClass .byte) (jWr_3 _ (List.mem_of_getElem? (i := 9) rfl))) rfl rfl (fun _ h => h) hB196 0 rfl (by decide) (by decide) hbs (x := z_2.toInt) rfl (by omega) (fun j => by first | trivial | decide | rfl | exact Or.inl rfl | exact Or.inr (Or.inl (by decide)) | (refine ⟨?_, ?_⟩ <;> decide)) (by rw [hRc]; omega) (by rw [hRs]; omega) dX0_init_11 (fun H_3 hfr_3 hh_3 => ?_)
  have hh_3 : jSt (dC, dI) B base G0 (va_up G0 s.heap.size (some (196, (z_2.toInt).toNat))) EX0_initY s.heap (0 + 1) (0 + (z_2.toInt).toNat) [] [] [(jFy, jYb dC dI G0)] H_3 [] := hh_3
  have hM_3 : jNk [1, 2, 11] G0 (va_up G0 s.heap.size (some (196, (z_2.toInt).toNat))) := jNk.new (by decide)
  have hN_3 : (jNk [0, 1, 3, 4, 5, 6, 7, 8, 9, 10, 11, 12, 13, 14, 15, 16]) G0 (va_up G0 s.heap.size (some (196, (z_2.toInt).toNat))) := jNk.new (by decide)
  have hgn_3 : (va_up G0 s.heap.size (some (196, (z_2.toInt).toNat))) s.heap.size = some (196, (z_2.toInt).toNat) := jUp_self
  have hle_3 : jLe G0 (va_up G0 s.heap.size (some (196, (z_2.toInt).toNat))) := jLe.new hh.2.1.fresh
  have hke_3 : jKe G0 (va_up G0 s.heap.size (some (196, (z_2.toInt).toNat))) s.heap H_3 := jKe.new hfr_3
  have hsy_3 : s.heap.size ≤ s.heap.size := hh.1.1
  generalize (va_up G0 s.heap.size (some (196, (z_2.toInt).toNat))) = G_3 at hN_3 hgn_3 hle_3 hke_3 hh_3 hM_3
  generalize hnc_3 : (z_2.toInt).toNat = nc_3 at hgn_3 hh_3 ⊢
  clear hh
  have hNn_3 : (jNk [0, 1, 3, 4, 5, 6, 7, 8, 9, 10, 11, 12, 13, 14, 15, 16]) G0 G_3 := (jNk.rf).tr hN_3
  have hkp_4 := hkp.tr hke_3
  have hraw_5n := hke_3.nr hraw0.lt hnr0
  have hraw_5 := hraw0.kept (hke_3.1 _ hraw0.lt)
  have hd_6 := jYb.grow (hh_3.iv 0 rfl) hle_3 hM_3 (by decide)
  have hh_7 := hh_3.sub (L1 := []) [] rfl (M1 := []) [] rfl (I1 := []) [] rfl
  clear hh_3
  have hh_8 := hh_7.addI (jYb.ie hd_6)
  clear hh_7
  refine j7_putR hx hb hown hK hh_8 hB hAp hraw_5 hraw_5n hbr0 (C := RX0) (T := TX0) (N := 2) rfl (i := 0) (by decide) (Nat.le_of_ble_eq_true rfl) hly_2_0 rfl hlk_13 (ty := (.array .byte)) (v := .ref s.heap.size) (by decide +kernel) rfl rfl dX0_init_13 (fun H_9 locs_9 hraw_9 hr_9 hh_9 => ?_)
  have hraw_9 : va_at (dC, dI) vwCl (r0, .inr (2, [.ref s.heap.size, .int 0])) H_9 := hraw_9
  have hkp_10 := hkp_4.put hr_9
  clear hh_8
  have hd_11 := jYb.typ (n := kn) (hh_9.iv 0 rfl) hraw_5n (fun _ => ⟨0, s.heap.size, nc_3, jf.raw (C := RX0) (T := TX0) (N := 2) rfl hraw_9 (i := 1) (by decide), jf.raw (C := RX0) (T := TX0) (N := 2) rfl hraw_9 (i := 0) (by decide), (jLe.rf) _ _ hgn_3, by show (0 : Int) ≤ _; omega, by omega⟩)
  have hh_12 := hh_9.sub (L1 := []) [] rfl (M1 := []) [] rfl (I1 := []) [] rfl
  clear hh_9
  have hle_13 : jLe G_3 (va_up G_3 r0 (some (2, kn))) := jLe.typ hraw_5n
  have hg_14 := (jLe.rf).tr hle_13 _ _ hgn_3
  have hfa_13 : jBr kn (va_up G_3 r0 (some (2, kn))) (.ref s.heap.size) ∧ jBct kn (.int 0) ∧ True := ⟨jBr.mk6 (by omega) hg_14 (by omega) (by omega) (fun h9 => by first | assumption | exact (hp3 h9).cg (by omega)) (by omega), ⟨_, rfl, by omega, by omega, by omega⟩, trivial⟩
  have hh_13 := hh_12.typ (k := 2) (n := kn) hB hraw_5n hbr0 hraw_9.lt (jOb.of (C := RX0) (T := TX0) (N := 2) (F := F2) hB2 rfl hraw_9 (show jFx (F2 kn (va_up G_3 r0 (some (2, kn)))) [.ref s.heap.size, .int 0] from hfa_13))
  have hgn_13 : (va_up G_3 r0 (some (2, kn))) r0 = some (2, kn) := jUp_self
  have hN_13 : (jNk [0, 1, 3, 4, 5, 6, 7, 8, 9, 10, 11, 12, 13, 14, 15, 16]) G_3 (va_up G_3 r0 (some (2, kn))) := jNk.new (by decide)
  have hNn_13 : (jNk [0, 1, 3, 4, 5, 6, 7, 8, 9, 10, 11, 12, 13, 14, 15, 16]) G0 (va_up G_3 r0 (some (2, kn))) := (hNn_3).tr hN_13
  have hkp_15 := hkp_10.typ (t := some (2, kn))
  have hh_16 := hh_13.addI (jYb.ie hd_11)
  clear hh_13
  have hg_17 := (hle_13) _ _ hgn_3
  have hh_18 := hh_16.more (P1 := [(r0, 2, 0, .ref s.heap.size), (r0, 2, 1, .int 0)]) (jP.cons hgn_13 (jf.raw (C := RX0) (T := TX0) (N := 2) rfl hraw_9 (i := 0) (by decide)) (jP.cons hgn_13 (jf.raw (C := RX0) (T := TX0) (N := 2) rfl hraw_9 (i := 1) (by decide)) jP.nil))
  have hsz_19 := hh_18.2.2.2.2.2.1
  have htt_19 := hh_18.2.2.2.2.2.2.1
  refine W.room (fun hrc_19 hrs_19 => ?_)
  refine W.widen (k := LC - s.heap.size) (n := LS - jTot s.heap) (by omega) (by omega) ?_
  rw [hQ]
  exact W.vret hx hb hr (fun t ht hW => ⟨⟨(0, s.heap.size, nc_3, (va_up G_3 r0 (some (2, kn)))), rfl, by (try dsimp only); exact ⟨(by first | omega | rfl | assumption | fail), (by first | omega | rfl | assumption | fail)⟩, ⟨hh_18.ra (by first | (simp only; omega) | omega) (by first | (simp only; omega) | omega) (M1 := [(r0, 2, 1, .int 0), (r0, 2, 0, .ref s.heap.size)]) [1, 0] rfl ht, hg_17, hNn_13, hgn_13, by rw [ht]; exact hkp_15, by rw [ht]; exact hh_18.2.2.2.2.2.2.2.2.sub (L1 := [(jFy, jYb dC dI (va_up G_3 r0 (some (2, kn))))]) [0] rfl⟩⟩, by rw [ht]; try exact hh_18.1.1, fun q h9 hq => by rw [ht]; try exact hh_18.1.2.1 q h9 hq⟩) hh_18.1.2.2 dX0_init_16
def EX0_initT : List (Nat × Nat) := []
set_option maxHeartbeats 4000000 in
set_option maxRecDepth 20000 in
theorem uX0_initT (l : Launch) (dC : Nat → ClassId) (dI : Nat → Nat → Nat) (ca : Nat → ClassId) (base : Nat) (B : jF) (hB : jBok B) (hAp : jAp (dC, dI)) (hB2 : ∀ n G a H, B 2 n G a H ↔ jOb (dC, dI) 2 2 (F2 n G) a H) (hB196 : ∀ n G a H, B 196 n G a H ↔ jAr (dC, dI) (ca 0) (fun j z => jBf j z) n a H) (hB197 : ∀ n G a H, B 197 n G a H ↔ jAr (dC, dI) (ca 0) (fun j z => jBf j z) n a H) (G0 : jT) (H0 : Heap) (r0 : Nat) (a1 : Int32) (LC LS : Nat) : Met l yX0_init (jw yX0_init cX0_init 2 none) ({ frames := 1, cells := LC - H0.size, slots := LS - jTot H0, locals := 31 }) (va_Pc [.ref r0, .int a1] (fun U => U.heap = H0 ∧ jX B base G0 [] H0 ∧ jG dC dI ca base U ∧ va_at (dC, dI) vwCl (r0, .inr (2, [.null, .int 0])) H0 ∧ (∀ t, G0 r0 ≠ some t) ∧ base ≤ r0 ∧ jP (dC, dI) G0 H0 [] ∧ jIs (dC, dI) G0 H0 [(jFy, jYb dC dI G0)] ∧ H0.size + 1 ≤ LC ∧ jTot H0 + a1.toInt.toNat ≤ LS ∧ a1.toInt = 4000)) (va_Qv (S := Int32 × Nat × Nat × jT) (fun u => u.1.toInt = 0 ∧ u.2.2.1 = a1.toInt) (fun u t => jRa (dC, dI) B base G0 u.2.2.2 EX0_initT H0 (1) (a1.toInt.toNat) [(r0, 2, 1, .int u.1), (r0, 2, 0, .ref u.2.1)] t.heap ∧ u.2.2.2 u.2.1 = some (197, u.2.2.1) ∧ (jNk [0, 1, 3, 4, 5, 6, 7, 8, 9, 10, 11, 12, 13, 14, 15, 16]) G0 u.2.2.2 ∧ u.2.2.2 r0 = some (2, 4000) ∧ jKx r0 G0 u.2.2.2 H0 t.heap ∧ jIs (dC, dI) u.2.2.2 t.heap [(jFy, jYb dC dI u.2.2.2)]) (jA base)) (LC - H0.size) (LS - jTot H0) (jA base) := by
  refine Met.ofW (cc := cX0_init) (maxL := 2) (ret := none) (by decide) rfl ?_
  intro p e s m args below meth c s₁ Bd hml hv
  obtain ⟨rfl, hH0, hX, hG, hraw0, hnr0, hbr0, hP0, hI0, hLC0, hLS0, hp0⟩ := hv
  have hK := hG.1
  have hx := Bd.exec
  have hb := Bd.bytes
  have hr := Bd.returns
  have hts := atoms_spec (ws := (jw yX0_init cX0_init 2 none)) Bd.pre
  have htw : ∀ w ∈ jWl, w.before _ s = true := fun w h => hts w (List.mem_cons_of_mem _ h)
  have hown : s.vm.findClass RX0 = some m.cls := findClass_of_methodNamed Bd.named
  have hlocks := Bd.notSynchronized
  obtain ⟨Q, hQ⟩ : ∃ Q, Q = MQ below (va_Qv (S := Int32 × Nat × Nat × jT) (fun u => u.1.toInt = 0 ∧ u.2.2.1 = a1.toInt) (fun u t => jRa (dC, dI) B base G0 u.2.2.2 EX0_initT H0 (1) (a1.toInt.toNat) [(r0, 2, 1, .int u.1), (r0, 2, 0, .ref u.2.1)] t.heap ∧ u.2.2.2 u.2.1 = some (197, u.2.2.1) ∧ (jNk [0, 1, 3, 4, 5, 6, 7, 8, 9, 10, 11, 12, 13, 14, 15, 16]) G0 u.2.2.2 ∧ u.2.2.2 r0 = some (2, 4000) ∧ jKx r0 G0 u.2.2.2 H0 t.heap ∧ jIs (dC, dI) u.2.2.2 t.heap [(jFy, jYb dC dI u.2.2.2)]) (jA base)) ([.ref r0, .int a1] : List Value).toArray s (LC - H0.size) (LS - jTot H0) (jA base) := ⟨_, rfl⟩
  rw [← hQ]
  have hl := lv_entry ([.ref r0, .int a1]) (n := 2) (Nat.le_of_ble_eq_true rfl)
  rw [lg_entry_eq]
  generalize (lg_sl ([.ref r0, .int a1]) ++ List.replicate (2 - (lg_sl ([.ref r0, .int a1])).length) Slot.unset).toArray = ls at hl ⊢
  have hl : lv_has ls 2 [(0, .ref r0), (1, .int a1)] := hl
  generalize hR : (headSpec (jw yX0_init cX0_init 2 none) ({ frames := 1, cells := LC - H0.size, slots := LS - jTot H0, locals := 31 })).room = R
  subst hH0
  have hh : jSt (dC, dI) B base G0 G0 EX0_initT s.heap 0 0 [] [] [(jFy, jYb dC dI G0)] s.heap [] := jSt.start hX hP0 jMc.nil hI0
  clear hX hP0
  have hk0 : (0 : Int32).toInt = 0 := by decide
  have hk1 : (1 : Int32).toInt = 1 := by decide
  have hk16 : (16 : Int32).toInt = 16 := by decide
  have hly_2_0 := htw (u_lay RX0 TX0 0) (jWc_wsX00 _ (u_in_lay (by decide)))
  have hlk_13 := (htw (.fieldLink RX0 13 "ProofServer$Bytes" "row" "[B") (jWr_3 _ (List.mem_of_getElem? (i := 10) rfl)))
  have hrg_a1 := jb_rng a1
  have hbs : base ≤ s.heap.size := Nat.le_of_lt (Nat.lt_of_le_of_lt hbr0 hraw0.lt)
  have hRc : R.cells = LC - s.heap.size := by rw [← hR]; rfl
  have hRs : R.slots = LS - jTot s.heap := by rw [← hR]; rfl
  have hin2 : meth.name = "<init>" := (name_of_methodNamed Bd.named Bd.method).1
  have hkp : jKx r0 G0 G0 s.heap s.heap := jKx.rf
  refine lv_aload_n hx hb dX0_init_0 rfl (lv_at hl 0 rfl) ?_
  refine W.objInit hx hb hown (htw (.methodLink RX0 1 objectInit) (jWr_3 _ (List.mem_of_getElem? (i := 4) rfl))) (htw (.instanceMethod objectInit) (jWr_1 _ (List.mem_of_getElem? (i := 10) rfl))) (htw (.code objectInit ⟨#[0xb1]⟩ 1 none) (jWr_1 _ (List.mem_of_getElem? (i := 11) rfl))) rfl (by rw [hml]; exact hl.1) rfl dX0_init_1 (by rw [← hR]; exact Nat.le_of_ble_eq_true rfl) (by rw [← hR]; exact Nat.le_of_ble_eq_true rfl) ?_
  refine W.eq (g2 := F0 m 4 ls []) rfl ?_
  refine lv_aload_n hx hb dX0_init_4 rfl (lv_at hl 0 rfl) ?_
  refine lv_iload_n hx hb dX0_init_5 rfl (lv_at hl 1 rfl) ?_
  refine lv_bipush (v := 16) hx hb dX0_init_6 (by decide) ?_
  have hsz_1 := hh.2.2.2.2.2.1
  have htt_1 := hh.2.2.2.2.2.2.1
  refine W.room (fun hrc_1 hrs_1 => ?_)
  refine va_mmax hx hb (by rw [hml]; exact hl.1.symm) hown (htw (.methodLink RX0 7 Lib.Math.max.name) (jWr_3 _ (List.mem_of_getElem? (i := 5) rfl))) (htw (.static Lib.Math.max.name) (jWr_3 _ (List.mem_of_getElem? (i := 6) rfl))) (htw (.initialized "java/lang/Math") (jWr_3 _ (List.mem_of_getElem? (i := 7) rfl))) (htw (.code Lib.Math.max.name Lib.Math.max.code 2 (some .int)) (jWr_3 _ (List.mem_of_getElem? (i := 8) rfl))) (by rw [← hR]; exact Nat.le_of_ble_eq_true rfl) (by rw [← hR]; exact Nat.le_of_ble_eq_true rfl) (by rw [hRc]; omega) (by rw [hRs]; omega) dX0_init_8 ?_
  refine lv_topi (fun z_2 ez_2 => ?_)
  have hz_2 := jb_max ez_2
  have hsz_3 := hh.2.2.2.2.2.1
  have htt_3 := hh.2.2.2.2.2.2.1
  refine j7_newiK hx hb hK hh hB (atype := .byte) (ty := .byte) (htw (.arrayClass .byte) (jWr_3 _ (List.mem_of_getElem? (i := 9) rfl))) rfl rfl (fun _ h => h) hB197 0 rfl (by decide) (by decide) hbs (x := z_2.toInt) rfl (by omega) (fun j => by first | trivial | decide | rfl | exact Or.inl rfl | exact Or.inr (Or.inl (by decide)) | (refine ⟨?_, ?_⟩ <;> decide)) (by rw [hRc]; omega) (by rw [hRs]; omega) dX0_init_11 (fun H_3 hfr_3 hh_3 => ?_)
  have hh_3 : jSt (dC, dI) B base G0 (va_up G0 s.heap.size (some (197, (z_2.toInt).toNat))) EX0_initT s.heap (0 + 1) (0 + (z_2.toInt).toNat) [] [] [(jFy, jYb dC dI G0)] H_3 [] := hh_3
  have hM_3 : jNk [1, 2, 11] G0 (va_up G0 s.heap.size (some (197, (z_2.toInt).toNat))) := jNk.new (by decide)
  have hN_3 : (jNk [0, 1, 3, 4, 5, 6, 7, 8, 9, 10, 11, 12, 13, 14, 15, 16]) G0 (va_up G0 s.heap.size (some (197, (z_2.toInt).toNat))) := jNk.new (by decide)
  have hgn_3 : (va_up G0 s.heap.size (some (197, (z_2.toInt).toNat))) s.heap.size = some (197, (z_2.toInt).toNat) := jUp_self
  have hle_3 : jLe G0 (va_up G0 s.heap.size (some (197, (z_2.toInt).toNat))) := jLe.new hh.2.1.fresh
  have hke_3 : jKe G0 (va_up G0 s.heap.size (some (197, (z_2.toInt).toNat))) s.heap H_3 := jKe.new hfr_3
  have hsy_3 : s.heap.size ≤ s.heap.size := hh.1.1
  generalize (va_up G0 s.heap.size (some (197, (z_2.toInt).toNat))) = G_3 at hN_3 hgn_3 hle_3 hke_3 hh_3 hM_3
  generalize hnc_3 : (z_2.toInt).toNat = nc_3 at hgn_3 hh_3 ⊢
  clear hh
  have hNn_3 : (jNk [0, 1, 3, 4, 5, 6, 7, 8, 9, 10, 11, 12, 13, 14, 15, 16]) G0 G_3 := (jNk.rf).tr hN_3
  have hkp_4 := hkp.tr hke_3
  have hraw_5n := hke_3.nr hraw0.lt hnr0
  have hraw_5 := hraw0.kept (hke_3.1 _ hraw0.lt)
  have hd_6 := jYb.grow (hh_3.iv 0 rfl) hle_3 hM_3 (by decide)
  have hh_7 := hh_3.sub (L1 := []) [] rfl (M1 := []) [] rfl (I1 := []) [] rfl
  clear hh_3
  have hh_8 := hh_7.addI (jYb.ie hd_6)
  clear hh_7
  refine j7_putR hx hb hown hK hh_8 hB hAp hraw_5 hraw_5n hbr0 (C := RX0) (T := TX0) (N := 2) rfl (i := 0) (by decide) (Nat.le_of_ble_eq_true rfl) hly_2_0 rfl hlk_13 (ty := (.array .byte)) (v := .ref s.heap.size) (by decide +kernel) rfl rfl dX0_init_13 (fun H_9 locs_9 hraw_9 hr_9 hh_9 => ?_)
  have hraw_9 : va_at (dC, dI) vwCl (r0, .inr (2, [.ref s.heap.size, .int 0])) H_9 := hraw_9
  have hkp_10 := hkp_4.put hr_9
  clear hh_8
  have hd_11 := jYb.typ (n := 4000) (hh_9.iv 0 rfl) hraw_5n (fun h9 => absurd h9 (by decide))
  have hh_12 := hh_9.sub (L1 := []) [] rfl (M1 := []) [] rfl (I1 := []) [] rfl
  clear hh_9
  have hle_13 : jLe G_3 (va_up G_3 r0 (some (2, 4000))) := jLe.typ hraw_5n
  have hg_14 := (jLe.rf).tr hle_13 _ _ hgn_3
  have hfa_13 : jBr 4000 (va_up G_3 r0 (some (2, 4000))) (.ref s.heap.size) ∧ jBct 4000 (.int 0) ∧ True := ⟨jBr.mk7 (jSz hg_14 (by omega)), ⟨_, rfl, by omega, by omega, by omega⟩, trivial⟩
  have hh_13 := hh_12.typ (k := 2) (n := 4000) hB hraw_5n hbr0 hraw_9.lt (jOb.of (C := RX0) (T := TX0) (N := 2) (F := F2) hB2 rfl hraw_9 (show jFx (F2 4000 (va_up G_3 r0 (some (2, 4000)))) [.ref s.heap.size, .int 0] from hfa_13))
  have hgn_13 : (va_up G_3 r0 (some (2, 4000))) r0 = some (2, 4000) := jUp_self
  have hN_13 : (jNk [0, 1, 3, 4, 5, 6, 7, 8, 9, 10, 11, 12, 13, 14, 15, 16]) G_3 (va_up G_3 r0 (some (2, 4000))) := jNk.new (by decide)
  have hNn_13 : (jNk [0, 1, 3, 4, 5, 6, 7, 8, 9, 10, 11, 12, 13, 14, 15, 16]) G0 (va_up G_3 r0 (some (2, 4000))) := (hNn_3).tr hN_13
  have hkp_15 := hkp_10.typ (t := some (2, 4000))
  have hh_16 := hh_13.addI (jYb.ie hd_11)
  clear hh_13
  have hg_17 := (hle_13) _ _ hgn_3
  have hh_18 := hh_16.more (P1 := [(r0, 2, 0, .ref s.heap.size), (r0, 2, 1, .int 0)]) (jP.cons hgn_13 (jf.raw (C := RX0) (T := TX0) (N := 2) rfl hraw_9 (i := 0) (by decide)) (jP.cons hgn_13 (jf.raw (C := RX0) (T := TX0) (N := 2) rfl hraw_9 (i := 1) (by decide)) jP.nil))
  have hsz_19 := hh_18.2.2.2.2.2.1
  have htt_19 := hh_18.2.2.2.2.2.2.1
  refine W.room (fun hrc_19 hrs_19 => ?_)
  refine W.widen (k := LC - s.heap.size) (n := LS - jTot s.heap) (by omega) (by omega) ?_
  rw [hQ]
  exact W.vret hx hb hr (fun t ht hW => ⟨⟨(0, s.heap.size, nc_3, (va_up G_3 r0 (some (2, 4000)))), rfl, by (try dsimp only); exact ⟨(by first | omega | rfl | assumption | fail), (by first | omega | rfl | assumption | fail)⟩, ⟨hh_18.ra (by first | (simp only; omega) | omega) (by first | (simp only; omega) | omega) (M1 := [(r0, 2, 1, .int 0), (r0, 2, 0, .ref s.heap.size)]) [1, 0] rfl ht, hg_17, hNn_13, hgn_13, by rw [ht]; exact hkp_15, by rw [ht]; exact hh_18.2.2.2.2.2.2.2.2.sub (L1 := [(jFy, jYb dC dI (va_up G_3 r0 (some (2, 4000))))]) [0] rfl⟩⟩, by rw [ht]; try exact hh_18.1.1, fun q h9 hq => by rw [ht]; try exact hh_18.1.2.1 q h9 hq⟩) hh_18.1.2.2 dX0_init_16
end
