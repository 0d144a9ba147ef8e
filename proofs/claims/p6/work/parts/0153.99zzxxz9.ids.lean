section
def EX0_putI : List (Nat × Nat) := [(17, 0), (17, 1), (199, 0)]
set_option maxHeartbeats 4000000 in
set_option maxRecDepth 20000 in
theorem uX0_putI (l : Launch) (dC : Nat → ClassId) (dI : Nat → Nat → Nat) (ca : Nat → ClassId) (base : Nat) (B : jF) (hB : jBok B) (hAp : jAp (dC, dI)) (hB2 : ∀ n G a H, B 2 n G a H ↔ jOb (dC, dI) 2 2 (F2 n G) a H) (hB17 : ∀ n G a H, B 17 n G a H ↔ jOb (dC, dI) 17 2 (F17 n G) a H) (hB196 : ∀ n G a H, B 196 n G a H ↔ jAr (dC, dI) (ca 0) (fun j z => jBf j z) n a H) (hB199 : ∀ n G a H, B 199 n G a H ↔ jAr (dC, dI) (ca 0) (fun j z => jBf j z) n a H) (G0 : jT) (H0 : Heap) (r0 : Nat) (a1 : Int32) (pc : Int32) (pa : Nat) (n_pa : Nat) (ib : Nat → List Int) (LC LS : Nat) : Met l yX0_put (jw yX0_put cX0_put 2 none) ({ frames := 2, cells := LC - H0.size, slots := LS - jTot H0, locals := 62 }) (va_Pc [.ref r0, .int a1] (fun U => U.heap = H0 ∧ jX B base G0 [] H0 ∧ jG dC dI ca base U ∧ G0 r0 = some (17, 0) ∧ G0 pa = some (199, n_pa) ∧ jP (dC, dI) G0 H0 [(r0, 17, 1, .int pc), (r0, 17, 0, .ref pa)] ∧ jIs (dC, dI) G0 H0 [(jFib, jIB dC dI ca G0 0 ib)] ∧ H0.size + (128 - n_pa) / 16 + 1 ≤ LC ∧ jTot H0 + 2 * (128 - n_pa) ≤ LS ∧ 0 ≤ pc.toInt ∧ pc.toInt ≤ n_pa ∧ 16 ≤ n_pa ∧ n_pa ≤ 128 ∧ jPw n_pa ∧ pc.toInt < 128)) (va_Qv (S := Int32 × Nat × Nat × jT) (fun u => 0 ≤ u.1.toInt ∧ u.1.toInt ≤ u.2.2.1 ∧ n_pa ≤ u.2.2.1 ∧ u.2.2.1 ≤ 128 ∧ jPw u.2.2.1 ∧ u.1.toInt = pc.toInt + 1) (fun u t => jRa (dC, dI) B base G0 u.2.2.2 EX0_putI H0 ((u.2.2.1 - n_pa) / 16) (2 * (u.2.2.1 - n_pa)) [(r0, 17, 1, .int u.1), (r0, 17, 0, .ref u.2.1)] t.heap ∧ u.2.2.2 u.2.1 = some (199, u.2.2.1) ∧ (jNk [0, 1, 2, 3, 4, 5, 6, 7, 8, 9, 10, 11, 12, 13, 14, 15, 16, 17, 175]) G0 u.2.2.2 ∧ jOw (dC, dI) G0 17 r0 H0 t.heap ∧ jIs (dC, dI) u.2.2.2 t.heap [(jFib, jIB dC dI ca u.2.2.2 0 (jUf ib r0 (ib r0 ++ [a1.toInt % 256])))]) (jA base)) (LC - H0.size) (LS - jTot H0) (jA base) := by
  refine Met.ofW (cc := cX0_put) (maxL := 2) (ret := none) (by decide) rfl ?_
  intro p e s m args below meth c s₁ Bd hml hv
  obtain ⟨rfl, hH0, hX, hG, hg_r0, hg_pa, hP0, hI0, hLC0, hLS0, hp0, hp1, hp2, hp3, hp4, hp5⟩ := hv
  have hK := hG.1
  have hx := Bd.exec
  have hb := Bd.bytes
  have hr := Bd.returns
  have hts := atoms_spec (ws := (jw yX0_put cX0_put 2 none)) Bd.pre
  have htw : ∀ w ∈ jWl, w.before _ s = true := fun w h => hts w (List.mem_cons_of_mem _ h)
  have hown : s.vm.findClass RX0 = some m.cls := findClass_of_methodNamed Bd.named
  have hlocks := Bd.notSynchronized
  obtain ⟨Q, hQ⟩ : ∃ Q, Q = MQ below (va_Qv (S := Int32 × Nat × Nat × jT) (fun u => 0 ≤ u.1.toInt ∧ u.1.toInt ≤ u.2.2.1 ∧ n_pa ≤ u.2.2.1 ∧ u.2.2.1 ≤ 128 ∧ jPw u.2.2.1 ∧ u.1.toInt = pc.toInt + 1) (fun u t => jRa (dC, dI) B base G0 u.2.2.2 EX0_putI H0 ((u.2.2.1 - n_pa) / 16) (2 * (u.2.2.1 - n_pa)) [(r0, 17, 1, .int u.1), (r0, 17, 0, .ref u.2.1)] t.heap ∧ u.2.2.2 u.2.1 = some (199, u.2.2.1) ∧ (jNk [0, 1, 2, 3, 4, 5, 6, 7, 8, 9, 10, 11, 12, 13, 14, 15, 16, 17, 175]) G0 u.2.2.2 ∧ jOw (dC, dI) G0 17 r0 H0 t.heap ∧ jIs (dC, dI) u.2.2.2 t.heap [(jFib, jIB dC dI ca u.2.2.2 0 (jUf ib r0 (ib r0 ++ [a1.toInt % 256])))]) (jA base)) ([.ref r0, .int a1] : List Value).toArray s (LC - H0.size) (LS - jTot H0) (jA base) := ⟨_, rfl⟩
  rw [← hQ]
  have hl := lv_entry ([.ref r0, .int a1]) (n := 2) (Nat.le_of_ble_eq_true rfl)
  rw [lg_entry_eq]
  generalize (lg_sl ([.ref r0, .int a1]) ++ List.replicate (2 - (lg_sl ([.ref r0, .int a1])).length) Slot.unset).toArray = ls at hl ⊢
  have hl : lv_has ls 2 [(0, .ref r0), (1, .int a1)] := hl
  generalize hR : (headSpec (jw yX0_put cX0_put 2 none) ({ frames := 2, cells := LC - H0.size, slots := LS - jTot H0, locals := 62 })).room = R
  subst hH0
  have hh : jSt (dC, dI) B base G0 G0 EX0_putI s.heap 0 0 [(r0, 17, 1, .int pc), (r0, 17, 0, .ref pa)] [] [(jFib, jIB dC dI ca G0 0 ib)] s.heap [] := jSt.start hX hP0 jMc.nil hI0
  clear hX hP0
  have hk0 : (0 : Int32).toInt = 0 := by decide
  have hk1 : (1 : Int32).toInt = 1 := by decide
  have hk2 : (2 : Int32).toInt = 2 := by decide
  have hk1000000 : (1000000 : Int32).toInt = 1000000 := by decide
  have hly_2_0 := htw (u_lay RX0 TX0 0) (jWc_wsX00 _ (u_in_lay (by decide)))
  have hly_17_0 := hly_2_0
  have hly_2_1 := htw (u_lay RX0 TX0 1) (jWc_wsX00 _ (u_in_lay (by decide)))
  have hly_17_1 := hly_2_1
  have hlk_19 := (htw (.fieldLink RX0 19 "ProofServer$Bytes" "count" "I") (jWr_16 _ (List.mem_of_getElem? (i := 3) rfl)))
  have hlk_13 := (htw (.fieldLink RX0 13 "ProofServer$Bytes" "row" "[B") (jWr_3 _ (List.mem_of_getElem? (i := 10) rfl)))
  have hcs_23 := htw (.constant RX0 23 1000000) (jWr_16 _ (List.mem_of_getElem? (i := 4) rfl))
  have hrg_a1 := jb_rng a1
  have hbs : base ≤ s.heap.size := Nat.le_of_lt (Nat.lt_of_le_of_lt (hh.ab hg_r0).1 (hh.ab hg_r0).2)
  have hRc : R.cells = LC - s.heap.size := by rw [← hR]; rfl
  have hRs : R.slots = LS - jTot s.heap := by rw [← hR]; rfl
  have hh_1 := hh.addI (jOw.ie (dC := dC) (dI := dI) (G0 := G0) (k := 17) (r := r0) (H0 := s.heap) (F := [(17, 0), (17, 1)]) (C := RX0) (T := TX0) (N := 2) rfl (by decide) hh.2.2.2.2.1 (jOw.rf))
  clear hh
  have hab_2 : ∀ z t, G0 z = some t → z < s.heap.size := fun z t hz => (hh_1.ab hz).2
  obtain ⟨iy_2, im_2, ic_2, if_2, hip_2, hiq_2, hig_2, hic_2, hid_2, hiv_2, hie_2, hJo_2⟩ := jIB.opn (r := 0) (hh_1.iv 1 rfl) hab_2 hg_r0
  obtain rfl : pa = iy_2 := by have h9 := jf.uniq (hh_1.at 1 rfl) hip_2; cases h9; rfl
  obtain rfl : pc = ic_2 := Value.int.inj (jf.uniq (hh_1.at 0 rfl) hiq_2)
  obtain rfl : n_pa = im_2 := congrArg Prod.snd (Option.some.inj (hg_pa.symm.trans hig_2))
  have hh_3 := hh_1.moreM (M1 := [(pa, 199, n_pa, ca 0, if_2)]) (fun q hq => by cases List.mem_singleton.mp hq; exact ⟨hg_pa, (by show 18 ≤ 199; decide), (by show 199 < 1000; decide), hiv_2⟩)
  clear hh_1
  have hh_4 := hh_3.sub (L1 := [(r0, 17, 1, .int pc), (r0, 17, 0, .ref pa)]) [0, 1] rfl (M1 := [(pa, 199, n_pa, ca 0, if_2)]) [0] rfl (I1 := [([(17, 0), (17, 1)], jOw (dC, dI) G0 17 r0 s.heap)]) [0] rfl
  clear hh_3
  have hh_5 := hh_4.addI (jIX2.ie (r := 0) hJo_2)
  clear hh_4
  refine lv_aload_n hx hb dX0_put_0 rfl (lv_at hl 0 rfl) ?_
  refine j7_read hx hb hown hK (C := RX0) (T := TX0) (N := 2) rfl hly_17_1 hlk_19 (hh_5.at 0 rfl) dX0_put_1 ?_
  refine lv_aload_n hx hb dX0_put_4 rfl (lv_at hl 0 rfl) ?_
  refine j7_read hx hb hown hK (C := RX0) (T := TX0) (N := 2) rfl hly_17_0 hlk_13 (hh_5.at 1 rfl) dX0_put_5 ?_
  refine j7_len hx hb hK hh_5 hB199 0 rfl (by decide) hg_pa (by omega) dX0_put_8 (fun z_6 hz_6 => ?_)
  refine lv_icmp_lt (tgt := 39) hx hb dX0_put_9 (by decide) (fun c_7 => ?_) (fun c_7 => ?_)
  · skip
    have c_7' : pc.toInt < z_6.toInt := jb_lt (rfl) (rfl) c_7
    refine lv_aload_n hx hb dX0_put_39 rfl (lv_at hl 0 rfl) ?_
    refine j7_read hx hb hown hK (C := RX0) (T := TX0) (N := 2) rfl hly_17_1 hlk_19 (hh_5.at 0 rfl) dX0_put_40 ?_
    refine lv_if_lt (tgt := 79) hx hb dX0_put_43 (by decide) (fun c_8 => ?_) (fun c_8 => ?_)
    · skip
      have c_8' : pc.toInt < 0 := jb_lt (rfl) ((by decide)) c_8
      exact absurd c_8' (by omega)
    · skip
      have c_8' : pc.toInt ≥ 0 := jb_lt_n (rfl) ((by decide)) c_8
      refine lv_aload_n hx hb dX0_put_46 rfl (lv_at hl 0 rfl) ?_
      refine j7_read hx hb hown hK (C := RX0) (T := TX0) (N := 2) rfl hly_17_1 hlk_19 (hh_5.at 0 rfl) dX0_put_47 ?_
      refine lv_aload_n hx hb dX0_put_50 rfl (lv_at hl 0 rfl) ?_
      refine j7_read hx hb hown hK (C := RX0) (T := TX0) (N := 2) rfl hly_17_0 hlk_13 (hh_5.at 1 rfl) dX0_put_51 ?_
      refine j7_len hx hb hK hh_5 hB199 0 rfl (by decide) hg_pa (by omega) dX0_put_54 (fun z_9 hz_9 => ?_)
      refine lv_icmp_ge (tgt := 79) hx hb dX0_put_55 (by decide) (fun c_10 => ?_) (fun c_10 => ?_)
      · skip
        have c_10' : pc.toInt ≥ z_9.toInt := jb_ge (rfl) (rfl) c_10
        exact absurd c_10' (by omega)
      · skip
        have c_10' : pc.toInt < z_9.toInt := jb_ge_n (rfl) (rfl) c_10
        refine lv_aload_n hx hb dX0_put_58 rfl (lv_at hl 0 rfl) ?_
        refine j7_read hx hb hown hK (C := RX0) (T := TX0) (N := 2) rfl hly_17_0 hlk_13 (hh_5.at 1 rfl) dX0_put_59 ?_
        refine lv_aload_n hx hb dX0_put_62 rfl (lv_at hl 0 rfl) ?_
        refine j7_read hx hb hown hK (C := RX0) (T := TX0) (N := 2) rfl hly_17_1 hlk_19 (hh_5.at 0 rfl) dX0_put_63 ?_
        refine lv_iload_n hx hb dX0_put_66 rfl (lv_at hl 1 rfl) ?_
        refine lv_i2b hx hb dX0_put_67 rfl ?_
        refine lv_topi (fun z_11 ez_11 => ?_)
        have hdj_14 := hh_5.iv 0 rfl
        have hh_15 := hh_5.sub (L1 := [(r0, 17, 1, .int pc), (r0, 17, 0, .ref pa)]) [0, 1] rfl (M1 := [(pa, 199, n_pa, ca 0, if_2)]) [0] rfl (I1 := [([(17, 0), (17, 1)], jOw (dC, dI) G0 17 r0 s.heap)]) [1] rfl
        clear hh_5
        refine j7_bastV hx hb hK hh_15 hB hB199 0 rfl (by decide) (by decide) rfl 0 rfl (M1 := []) [] rfl rfl rfl hg_pa (x := pc.toInt) (rfl) (by omega) dX0_put_68 (fun H_12 locs_12 fs_13 hv_12 ho_12 hr_12 hh_12 => ?_)
        have hv_12 : jSo fs_13 (pc.toInt) = (vp_nar .byte z_11).toInt := by unfold jSo; rw [hv_12]
        clear hh_15
        have hdj_14n := jIX2.row (r := 0) hdj_14 hg_pa hr_12
        have hh_16 := hh_12.addI (jIX2.ie (r := 0) hdj_14n)
        clear hh_12
        clear hdj_14 hdj_14n hr_12
        refine lv_aload_n hx hb dX0_put_69 rfl (lv_at hl 0 rfl) ?_
        refine lv_dup hx hb dX0_put_70 rfl ?_
        refine j7_read hx hb hown hK (C := RX0) (T := TX0) (N := 2) rfl hly_17_1 hlk_19 (hh_16.at 0 rfl) dX0_put_71 ?_
        refine lv_iconst (v := 1) hx hb dX0_put_74 (by decide) ?_
        refine lv_iadd hx hb dX0_put_75 ?_
        refine lv_topi (fun z_17 ez_17 => ?_)
        have hz_17 : z_17.toInt = pc.toInt + 1 := by rw [ez_17]; exact jb_iadd2 (rfl) ((by decide)) (by omega)
        have hdj_18 := hh_16.iv 0 rfl
        have hh_19 := hh_16.sub (L1 := [(r0, 17, 1, .int pc), (r0, 17, 0, .ref pa)]) [0, 1] rfl (M1 := [(pa, 199, n_pa, ca 0, fs_13)]) [0] rfl (I1 := [([(17, 0), (17, 1)], jOw (dC, dI) G0 17 r0 s.heap)]) [1] rfl
        clear hh_16
        have hd_21 := hh_19.iv 0 rfl
        have hh_22 := hh_19.sub (L1 := [(r0, 17, 1, .int pc), (r0, 17, 0, .ref pa)]) [0, 1] rfl (M1 := [(pa, 199, n_pa, ca 0, fs_13)]) [0] rfl (I1 := []) [] rfl
        clear hh_19
        refine j7_putX hx hb hown hK hh_22 hB hAp hB17 (C := RX0) (T := TX0) (N := 2) rfl (by decide) hg_r0 (i := 1) (by decide) hly_17_1 rfl hlk_19 rfl (ty := .int) (v := .int z_17) (by decide +kernel) rfl rfl (⟨_, rfl, by omega, by omega⟩) rfl (L1 := [(r0, 17, 0, .ref pa)]) [1] rfl rfl rfl dX0_put_76 (fun H_20 locs_20 hr_20 hh_20 => ?_)
        clear hh_22
        have hd_21n := jOw.put hd_21 hr_20
        have hh_23 := hh_20.addI (jOw.ie (dC := dC) (dI := dI) (G0 := G0) (k := 17) (r := r0) (H0 := s.heap) (F := [(17, 0), (17, 1)]) (C := RX0) (T := TX0) (N := 2) rfl (by decide) hh_20.2.2.2.2.1 (hd_21n))
        clear hh_20
        clear hd_21 hd_21n
        have hdj_18n := (jIX2.cell (r := 0) hdj_18 hg_r0 hr_20)
        have hh_24 := hh_23.addI (jIX2.ie (r := 0) hdj_18n)
        clear hh_23
        clear hdj_18 hdj_18n hr_20
        have hJf_25 : jIB dC dI ca G0 0 (jUf ib r0 (ib r0 ++ [a1.toInt % 256])) H_20 := jIX2.full (r := 0) (hh_24.iv 0 rfl) (hh_24.at 1 rfl) (hh_24.at 0 rfl) hg_pa (by omega) (by omega) ((hh_24.2.2.2.2.2.2.2.1 _ (List.mem_of_getElem? (i := 0) rfl)).2.2.2) (jiP.put hie_2 (z := n_pa) (fun _ _ => rfl) (by omega) (by omega) (by rw [hv_12, ez_11]; exact jNb _) (fun j h9 h8 => ho_12 j (by omega) h8) (by omega))
        have hh_26 := hh_24.sub (L1 := [(r0, 17, 1, .int z_17), (r0, 17, 0, .ref pa)]) [0, 1] rfl (M1 := [(pa, 199, n_pa, ca 0, fs_13)]) [0] rfl (I1 := [([(17, 0), (17, 1)], jOw (dC, dI) G0 17 r0 s.heap)]) [1] rfl
        clear hh_24
        have hh_27 := hh_26.addI (jIB.ie (r := 0) hJf_25)
        clear hh_26
        have hsz_28 := hh_27.2.2.2.2.2.1
        have htt_28 := hh_27.2.2.2.2.2.2.1
        refine W.room (fun hrc_28 hrs_28 => ?_)
        refine W.widen (k := LC - s.heap.size) (n := LS - jTot s.heap) (by omega) (by omega) ?_
        rw [hQ]
        exact W.vret hx hb hr (fun t ht hW => ⟨⟨(z_17, pa, n_pa, G0), rfl, by (try dsimp only); exact ⟨(by first | omega | rfl | assumption | fail), (by first | omega | rfl | assumption | fail), (by first | omega | rfl | assumption | fail), (by first | omega | rfl | assumption | fail), (by first | assumption | fail | omega), (by first | omega | rfl | assumption | fail)⟩, ⟨hh_27.ra (by first | (simp only; omega) | omega) (by first | (simp only; omega) | omega) (M1 := [(r0, 17, 1, .int z_17), (r0, 17, 0, .ref pa)]) [0, 1] rfl ht, hg_pa, jNk.rf, by rw [ht]; exact hh_27.iv 1 rfl, by rw [ht]; exact hh_27.2.2.2.2.2.2.2.2.sub (L1 := [(jFib, jIB dC dI ca G0 0 (jUf ib r0 (ib r0 ++ [a1.toInt % 256])))]) [0] rfl⟩⟩, by rw [ht]; try exact hh_27.1.1, fun q h9 hq => by rw [ht]; try exact hh_27.1.2.1 q h9 hq⟩) hh_27.1.2.2 dX0_put_79
  · skip
    have c_7' : pc.toInt ≥ z_6.toInt := jb_lt_n (rfl) (rfl) c_7
    refine lv_aload_n hx hb dX0_put_12 rfl (lv_at hl 0 rfl) ?_
    refine j7_read hx hb hown hK (C := RX0) (T := TX0) (N := 2) rfl hly_17_1 hlk_19 (hh_5.at 0 rfl) dX0_put_13 ?_
    refine lv_ldc hx hb hown hcs_23 dX0_put_16 ?_
    refine lv_icmp_ge (tgt := 39) hx hb dX0_put_18 (by decide) (fun c_29 => ?_) (fun c_29 => ?_)
    · skip
      have c_29' : pc.toInt ≥ 1000000 := jb_ge (rfl) ((by decide)) c_29
      exact absurd c_29' (by omega)
    · skip
      have c_29' : pc.toInt < 1000000 := jb_ge_n (rfl) ((by decide)) c_29
      refine lv_aload_n hx hb dX0_put_21 rfl (lv_at hl 0 rfl) ?_
      refine lv_aload_n hx hb dX0_put_22 rfl (lv_at hl 0 rfl) ?_
      refine j7_read hx hb hown hK (C := RX0) (T := TX0) (N := 2) rfl hly_17_0 hlk_13 (hh_5.at 1 rfl) dX0_put_23 ?_
      refine lv_iconst (v := 2) hx hb dX0_put_26 (by decide) ?_
      refine lv_aload_n hx hb dX0_put_27 rfl (lv_at hl 0 rfl) ?_
      refine j7_read hx hb hown hK (C := RX0) (T := TX0) (N := 2) rfl hly_17_0 hlk_13 (hh_5.at 1 rfl) dX0_put_28 ?_
      refine j7_len hx hb hK hh_5 hB199 0 rfl (by decide) hg_pa (by omega) dX0_put_31 (fun z_30 hz_30 => ?_)
      refine lv_imul hx hb dX0_put_32 ?_
      refine lv_topi (fun z_31 ez_31 => ?_)
      have hz_31 : z_31.toInt = 2 * z_30.toInt := by rw [ez_31]; exact jb_imul2 ((by decide)) (rfl) (by omega)
      have hpq := hp4.h128 (by omega)
      obtain ⟨nc_33, enc_33⟩ : ∃ q : Nat, q = (z_31.toInt).toNat := ⟨_, rfl⟩
      have hsz_32 := hh_5.2.2.2.2.2.1
      have htt_32 := hh_5.2.2.2.2.2.2.1
      have hnw_32 := hh_5.1.1
      refine j7_copybC (LC := LC) (LS := LS) (n1 := nc_33) ⟨hx, hb, hml, hown, hts⟩ hK hG hh_5 hB hB199 (by decide) (by decide) 0 rfl hbs hg_pa (by omega) (by omega) (by omega) (by omega) (by omega) hRc hRs (va_cwS 2 hts (jgS (jWr_16 _ (List.mem_of_getElem? (i := 5) rfl)) (jWr_16 _ (List.mem_of_getElem? (i := 6) rfl)) (jWr_16 _ (List.mem_of_getElem? (i := 7) rfl)) (jWr_16 _ (List.mem_of_getElem? (i := 8) rfl))) rfl rfl rfl (by decide +kernel) ⟨by rw [← hR]; exact Nat.le_of_ble_eq_true rfl, by rw [← hR]; exact Nat.le_of_ble_eq_true rfl⟩) hl.1 (Nat.le_of_ble_eq_true rfl) dX0_put_33 (fun H_32 locs_32 gc_32 hgc_32 hsy_32 hty_32 hh_32 => ?_)
      have hN_32 : (jNk [0, 1, 2, 3, 4, 5, 6, 7, 8, 9, 10, 11, 12, 13, 14, 15, 16, 17, 175]) G0 (va_up G0 s.heap.size (some (199, nc_33))) := jNk.new (by decide)
      have hgn_32 : (va_up G0 s.heap.size (some (199, nc_33))) s.heap.size = some (199, nc_33) := jUp_self
      have hle_32 : jLe G0 (va_up G0 s.heap.size (some (199, nc_33))) := jLe.new hh_5.2.1.fresh
      generalize va_up G0 s.heap.size (some (199, nc_33)) = G_32 at hN_32 hgn_32 hle_32 hh_32
      clear hh_5
      have hNn_32 : (jNk [0, 1, 2, 3, 4, 5, 6, 7, 8, 9, 10, 11, 12, 13, 14, 15, 16, 17, 175]) G0 G_32 := (jNk.rf).tr hN_32
      have hg_34 := hle_32 _ _ hg_r0
      have hg_35 := hle_32 _ _ hg_pa
      have hd_36 := jIX2.grow (r := 0) (hh_32.iv 0 rfl) hle_32 hN_32 (by decide)
      have hh_37 := hh_32.sub (L1 := [(r0, 17, 1, .int pc), (r0, 17, 0, .ref pa)]) [0, 1] rfl (M1 := [(s.heap.size, 199, nc_33, ca 0, gc_32), (pa, 199, n_pa, ca 0, if_2)]) [0, 1] rfl (I1 := [([(17, 0), (17, 1)], jOw (dC, dI) G0 17 r0 s.heap)]) [1] rfl
      clear hh_32
      have hh_38 := hh_37.addI (jIX2.ie hd_36)
      clear hh_37
      have hpd : jPw nc_33 := jPw.dbl hp4 (by omega) (by omega)
      have hpe := hpd.le
      have hdj_39 := hh_38.iv 0 rfl
      have hh_40 := hh_38.sub (L1 := [(r0, 17, 1, .int pc), (r0, 17, 0, .ref pa)]) [0, 1] rfl (M1 := [(s.heap.size, 199, nc_33, ca 0, gc_32), (pa, 199, n_pa, ca 0, if_2)]) [0, 1] rfl (I1 := [([(17, 0), (17, 1)], jOw (dC, dI) G0 17 r0 s.heap)]) [1] rfl
      clear hh_38
      have hd_42 := hh_40.iv 0 rfl
      have hh_43 := hh_40.sub (L1 := [(r0, 17, 1, .int pc), (r0, 17, 0, .ref pa)]) [0, 1] rfl (M1 := [(s.heap.size, 199, nc_33, ca 0, gc_32), (pa, 199, n_pa, ca 0, if_2)]) [0, 1] rfl (I1 := []) [] rfl
      clear hh_40
      refine j7_putX hx hb hown hK hh_43 hB hAp hB17 (C := RX0) (T := TX0) (N := 2) rfl (by decide) hg_34 (i := 0) (by decide) hly_17_0 rfl hlk_13 rfl (ty := (.array .byte)) (v := .ref s.heap.size) (by decide +kernel) rfl rfl (⟨_, _, rfl, hgn_32, by omega⟩) rfl (L1 := [(r0, 17, 1, .int pc)]) [0] rfl rfl rfl dX0_put_36 (fun H_41 locs_41 hr_41 hh_41 => ?_)
      clear hh_43
      have hd_42n := jOw.put hd_42 hr_41
      have hh_44 := hh_41.addI (jOw.ie (dC := dC) (dI := dI) (G0 := G0) (k := 17) (r := r0) (H0 := s.heap) (F := [(17, 0), (17, 1)]) (C := RX0) (T := TX0) (N := 2) rfl (by decide) hh_41.2.2.2.2.1 (hd_42n))
      clear hh_41
      clear hd_42 hd_42n
      have hdj_39n := jIX2.nrow (r := 0) (jIX2.cell (r := 0) hdj_39 hg_34 hr_41) hnw_32
      have hh_45 := hh_44.addI (jIX2.ie (r := 0) hdj_39n)
      clear hh_44
      clear hdj_39 hdj_39n hr_41
      refine lv_aload_n hx hb dX0_put_39 rfl (lv_at hl 0 rfl) ?_
      refine j7_read hx hb hown hK (C := RX0) (T := TX0) (N := 2) rfl hly_17_1 hlk_19 (hh_45.at 1 rfl) dX0_put_40 ?_
      refine lv_if_lt (tgt := 79) hx hb dX0_put_43 (by decide) (fun c_46 => ?_) (fun c_46 => ?_)
      · skip
        have c_46' : pc.toInt < 0 := jb_lt (rfl) ((by decide)) c_46
        exact absurd c_46' (by omega)
      · skip
        have c_46' : pc.toInt ≥ 0 := jb_lt_n (rfl) ((by decide)) c_46
        refine lv_aload_n hx hb dX0_put_46 rfl (lv_at hl 0 rfl) ?_
        refine j7_read hx hb hown hK (C := RX0) (T := TX0) (N := 2) rfl hly_17_1 hlk_19 (hh_45.at 1 rfl) dX0_put_47 ?_
        refine lv_aload_n hx hb dX0_put_50 rfl (lv_at hl 0 rfl) ?_
        refine j7_read hx hb hown hK (C := RX0) (T := TX0) (N := 2) rfl hly_17_0 hlk_13 (hh_45.at 0 rfl) dX0_put_51 ?_
        refine j7_len hx hb hK hh_45 hB199 0 rfl (by decide) hgn_32 (by omega) dX0_put_54 (fun z_47 hz_47 => ?_)
        refine lv_icmp_ge (tgt := 79) hx hb dX0_put_55 (by decide) (fun c_48 => ?_) (fun c_48 => ?_)
        · skip
          have c_48' : pc.toInt ≥ z_47.toInt := jb_ge (rfl) (rfl) c_48
          exact absurd c_48' (by omega)
        · skip
          have c_48' : pc.toInt < z_47.toInt := jb_ge_n (rfl) (rfl) c_48
          refine lv_aload_n hx hb dX0_put_58 rfl (lv_at hl 0 rfl) ?_
          refine j7_read hx hb hown hK (C := RX0) (T := TX0) (N := 2) rfl hly_17_0 hlk_13 (hh_45.at 0 rfl) dX0_put_59 ?_
          refine lv_aload_n hx hb dX0_put_62 rfl (lv_at hl 0 rfl) ?_
          refine j7_read hx hb hown hK (C := RX0) (T := TX0) (N := 2) rfl hly_17_1 hlk_19 (hh_45.at 1 rfl) dX0_put_63 ?_
          refine lv_iload_n hx hb dX0_put_66 rfl (lv_at hl 1 rfl) ?_
          refine lv_i2b hx hb dX0_put_67 rfl ?_
          refine lv_topi (fun z_49 ez_49 => ?_)
          have hdj_52 := hh_45.iv 0 rfl
          have hh_53 := hh_45.sub (L1 := [(r0, 17, 0, .ref s.heap.size), (r0, 17, 1, .int pc)]) [0, 1] rfl (M1 := [(s.heap.size, 199, nc_33, ca 0, gc_32), (pa, 199, n_pa, ca 0, if_2)]) [0, 1] rfl (I1 := [([(17, 0), (17, 1)], jOw (dC, dI) G0 17 r0 s.heap)]) [1] rfl
          clear hh_45
          refine j7_bastV hx hb hK hh_53 hB hB199 0 rfl (by decide) (by decide) rfl 0 rfl (M1 := []) [] rfl rfl rfl hgn_32 (x := pc.toInt) (rfl) (by omega) dX0_put_68 (fun H_50 locs_50 fs_51 hv_50 ho_50 hr_50 hh_50 => ?_)
          have hv_50 : jSo fs_51 (pc.toInt) = (vp_nar .byte z_49).toInt := by unfold jSo; rw [hv_50]
          clear hh_53
          have hdj_52n := jIX2.row (r := 0) hdj_52 hgn_32 hr_50
          have hh_54 := hh_50.addI (jIX2.ie (r := 0) hdj_52n)
          clear hh_50
          clear hdj_52 hdj_52n hr_50
          refine lv_aload_n hx hb dX0_put_69 rfl (lv_at hl 0 rfl) ?_
          refine lv_dup hx hb dX0_put_70 rfl ?_
          refine j7_read hx hb hown hK (C := RX0) (T := TX0) (N := 2) rfl hly_17_1 hlk_19 (hh_54.at 1 rfl) dX0_put_71 ?_
          refine lv_iconst (v := 1) hx hb dX0_put_74 (by decide) ?_
          refine lv_iadd hx hb dX0_put_75 ?_
          refine lv_topi (fun z_55 ez_55 => ?_)
          have hz_55 : z_55.toInt = pc.toInt + 1 := by rw [ez_55]; exact jb_iadd2 (rfl) ((by decide)) (by omega)
          have hdj_56 := hh_54.iv 0 rfl
          have hh_57 := hh_54.sub (L1 := [(r0, 17, 0, .ref s.heap.size), (r0, 17, 1, .int pc)]) [0, 1] rfl (M1 := [(s.heap.size, 199, nc_33, ca 0, fs_51)]) [0] rfl (I1 := [([(17, 0), (17, 1)], jOw (dC, dI) G0 17 r0 s.heap)]) [1] rfl
          clear hh_54
          have hd_59 := hh_57.iv 0 rfl
          have hh_60 := hh_57.sub (L1 := [(r0, 17, 0, .ref s.heap.size), (r0, 17, 1, .int pc)]) [0, 1] rfl (M1 := [(s.heap.size, 199, nc_33, ca 0, fs_51)]) [0] rfl (I1 := []) [] rfl
          clear hh_57
          refine j7_putX hx hb hown hK hh_60 hB hAp hB17 (C := RX0) (T := TX0) (N := 2) rfl (by decide) hg_34 (i := 1) (by decide) hly_17_1 rfl hlk_19 rfl (ty := .int) (v := .int z_55) (by decide +kernel) rfl rfl (⟨_, rfl, by omega, by omega⟩) rfl (L1 := [(r0, 17, 0, .ref s.heap.size)]) [0] rfl rfl rfl dX0_put_76 (fun H_58 locs_58 hr_58 hh_58 => ?_)
          clear hh_60
          have hd_59n := jOw.put hd_59 hr_58
          have hh_61 := hh_58.addI (jOw.ie (dC := dC) (dI := dI) (G0 := G0) (k := 17) (r := r0) (H0 := s.heap) (F := [(17, 0), (17, 1)]) (C := RX0) (T := TX0) (N := 2) rfl (by decide) hh_58.2.2.2.2.1 (hd_59n))
          clear hh_58
          clear hd_59 hd_59n
          have hdj_56n := (jIX2.cell (r := 0) hdj_56 hg_34 hr_58)
          have hh_62 := hh_61.addI (jIX2.ie (r := 0) hdj_56n)
          clear hh_61
          clear hdj_56 hdj_56n hr_58
          have hJf_63 : jIB dC dI ca G_32 0 (jUf ib r0 (ib r0 ++ [a1.toInt % 256])) H_58 := jIX2.full (r := 0) (hh_62.iv 0 rfl) (hh_62.at 1 rfl) (hh_62.at 0 rfl) hgn_32 (by omega) (by omega) ((hh_62.2.2.2.2.2.2.2.1 _ (List.mem_of_getElem? (i := 0) rfl)).2.2.2) (jiP.put hie_2 (z := n_pa) hgc_32 (by omega) (by omega) (by rw [hv_50, ez_49]; exact jNb _) (fun j h9 h8 => ho_50 j (by omega) h8) (by omega))
          have hh_64 := hh_62.sub (L1 := [(r0, 17, 1, .int z_55), (r0, 17, 0, .ref s.heap.size)]) [0, 1] rfl (M1 := [(s.heap.size, 199, nc_33, ca 0, fs_51)]) [0] rfl (I1 := [([(17, 0), (17, 1)], jOw (dC, dI) G0 17 r0 s.heap)]) [1] rfl
          clear hh_62
          have hh_65 := hh_64.addI (jIB.ie (r := 0) hJf_63)
          clear hh_64
          have hsz_66 := hh_65.2.2.2.2.2.1
          have htt_66 := hh_65.2.2.2.2.2.2.1
          refine W.room (fun hrc_66 hrs_66 => ?_)
          refine W.widen (k := LC - s.heap.size) (n := LS - jTot s.heap) (by omega) (by omega) ?_
          rw [hQ]
          exact W.vret hx hb hr (fun t ht hW => ⟨⟨(z_55, s.heap.size, nc_33, G_32), rfl, by (try dsimp only); exact ⟨(by first | omega | rfl | assumption | fail), (by first | omega | rfl | assumption | fail), (by first | omega | rfl | assumption | fail), (by first | omega | rfl | assumption | fail), (by first | assumption | fail | omega), (by first | omega | rfl | assumption | fail)⟩, ⟨hh_65.ra (by first | (simp only; omega) | omega) (by first | (simp only; omega) | omega) (M1 := [(r0, 17, 1, .int z_55), (r0, 17, 0, .ref s.heap.size)]) [0, 1] rfl ht, hgn_32, hNn_32, by rw [ht]; exact hh_65.iv 1 rfl, by rw [ht]; exact hh_65.2.2.2.2.2.2.2.2.sub (L1 := [(jFib, jIB dC dI ca G_32 0 (jUf ib r0 (ib r0 ++ [a1.toInt % 256])))]) [0] rfl⟩⟩, by rw [ht]; try exact hh_65.1.1, fun q h9 hq => by rw [ht]; try exact hh_65.1.2.1 q h9 hq⟩) hh_65.1.2.2 dX0_put_79
end
section
-- p8: ids: numbers and strings as they are written, step by step
theorem jb_lsubx {x y z : Int64} (e : z = x - y) (h0 : -1000000000000000 ≤ x.toInt - y.toInt) (h1 : x.toInt - y.toInt ≤ 1000000000000000) : z.toInt = x.toInt - y.toInt := by
  rw [e, Int64.toInt_sub]
  exact Int.bmod_eq_of_le (by omega) (by omega)
theorem jb_lrem10 {x d : Int64} (e : d = x - x / 10 * 10) (h : 0 ≤ x.toInt) (h1 : x.toInt ≤ 1000000000000) : d.toInt = x.toInt % 10 := by
  have k1 : (x / 10).toInt = x.toInt / 10 := jb_ldiv rfl (by decide : (10 : Int64).toInt = 10) h (by omega)
  have k2 := jb_lm10 (x := x / 10) (z := x / 10 * 10) rfl (by omega) (by omega)
  have k3 := jb_lsubx e (by omega) (by omega)
  omega
section J9ID
variable {ib i1 i2 : Nat → List Int} {a : Nat}
theorem jiC.k1 {c : Int} (h0 : 0 ≤ c) (h : c < 128) : [] ++ [c % 256] = jiC c := by
  unfold jiC
  rw [if_pos h, Int.emod_eq_of_lt h0 (by omega)]
  rfl
theorem jiC.k2 {c x y : Int} (h0 : 128 ≤ c) (h : c < 2048) (hx : x = 192 + c / 64) (hy : y = 128 + c % 64) : [] ++ [x % 256] ++ [y % 256] = jiC c := by
  unfold jiC
  rw [if_neg (by omega), if_pos h, Int.emod_eq_of_lt (by omega) (by omega), Int.emod_eq_of_lt (by omega) (by omega), hx, hy]
  rfl
theorem jiC.k3 {c x y z : Int} (h0 : 2048 ≤ c) (h : c < 65536) (hx : x = 224 + c / 4096) (hy : y = 128 + c / 64 % 64) (hz : z = 128 + c % 64) : [] ++ [x % 256] ++ [y % 256] ++ [z % 256] = jiC c := by
  unfold jiC
  rw [if_neg (by omega), if_neg (by omega), if_pos h, Int.emod_eq_of_lt (by omega) (by omega), Int.emod_eq_of_lt (by omega) (by omega), Int.emod_eq_of_lt (by omega) (by omega), hx, hy, hz]
  rfl
theorem jiC.k4 {c x y z w : Int} (h0 : 65536 ≤ c) (h : c ≤ 1114111) (hx : x = 240 + c / 262144) (hw : w = 128 + c / 4096 % 64) (hy : y = 128 + c / 64 % 64) (hz : z = 128 + c % 64) : [] ++ [x % 256] ++ [w % 256] ++ [y % 256] ++ [z % 256] = jiC c := by
  unfold jiC
  rw [if_neg (by omega), if_neg (by omega), if_neg (by omega), Int.emod_eq_of_lt (by omega) (by omega), Int.emod_eq_of_lt (by omega) (by omega), Int.emod_eq_of_lt (by omega) (by omega), Int.emod_eq_of_lt (by omega) (by omega), hx, hy, hz, hw]
  rfl
theorem jiM.m {k m b n c : Int} (h1 : i1 = jUf ib a (ib a ++ [c % 256])) (hc : c = 45) (hk : k = 10) (hm : m = -n) (hb : b = 0) (h0 : n < 0) : jiM ib i1 a k m b n := by
  refine ⟨[] ++ [c % 256], jiP.st.tr h1, ?_⟩
  unfold jpN
  rw [if_pos h0, hk, hm, hb, hc]
  rfl
theorem jTen.zr {v k : Int} (h : jTen v k) (hv : v ≤ 0) : k = 0 := by
  by_cases c : 1 ≤ k
  · have := (h.p c).1
    have := jpP (k.toNat - 1)
    omega
  · have := h.1
    omega
end J9ID
section J9IQ
variable {ib i1 i2 : Nat → List Int} {a : Nat} {f : Nat → Int32} {n v v1 : Int}
theorem jiC.t {u w c : Int} (hu : 55296 ≤ u) (hu1 : u ≤ 56319) (hw : 56320 ≤ w) (hw1 : w ≤ 57343) (hc : c = 65536 + (u - 55296) * 1024 + (w - 56320)) : jiC c = jpT u w := by
  unfold jiC jpT
  rw [if_neg (by omega), if_neg (by omega), if_neg (by omega), hc]
theorem jiQ.two {c : Int} (h : jiQ ib i1 a f n v) (hv : v + 1 < n) (hu : 55296 ≤ jSo f v) (hu1 : jSo f v ≤ 56319) (hw : 56320 ≤ jSo f (v + 1)) (hw1 : jSo f (v + 1) ≤ 57343) (h1 : i2 = jUf i1 a (i1 a ++ jiC c)) (hc : c = 65536 + (jSo f v - 55296) * 1024 + (jSo f (v + 1) - 56320)) (e : v1 = v + 2) : jiQ ib i2 a f n v1 := by
  obtain ⟨hW, M, p, q⟩ := h
  rw [show (n - v).toNat = (n - v1).toNat + 1 + 1 by omega] at hW q
  have e2 : jcL f ((n - v1).toNat + 1 + 1) v = jSo f v :: jSo f (v + 1) :: jcL f (n - v1).toNat v1 := by rw [e, show v + 2 = v + 1 + 1 by omega]; rfl
  rw [e2] at hW q
  refine ⟨?_, M ++ jiC c, p.tr h1, ?_⟩
  · rcases jpW.hd hW with ⟨w, K, e3, p1, p2, p3⟩ | ⟨u0, u1, u2, -⟩
    · have := (List.cons.inj e3).2
      rw [this]; exact p3
    · omega
  · rw [← q, jpQ.p ⟨hu, hu1⟩ ⟨hw, hw1⟩, jiC.t hu hu1 hw hw1 hc, List.append_assoc]
theorem jpC.sm {u x y : Int} {L : List Int} (h0 : 0 ≤ u) (h : u < 32) (hL : L = [92, 117, 48, 48]) (hx : x = 48 + u / 16) (hy : (u % 16 < 10 ∧ y = 48 + u % 16) ∨ (10 ≤ u % 16 ∧ y = 87 + u % 16)) : [] ++ L ++ [x % 256] ++ [y % 256] = jpC u := by
  unfold jpC jpX
  rw [if_neg (by omega), if_pos h, if_pos (by omega), hL]
  rcases hy with ⟨c, hy⟩ | ⟨c, hy⟩
  · rw [if_pos c, Int.emod_eq_of_lt (by omega) (by omega), Int.emod_eq_of_lt (by omega) (by omega), hx, hy]; rfl
  · rw [if_neg (by omega), Int.emod_eq_of_lt (by omega) (by omega), Int.emod_eq_of_lt (by omega) (by omega), hx, hy]; rfl
theorem jpC.bs {u c : Int} (h : u = 34 ∨ u = 92) (hc : c = 92) : [] ++ [c % 256] ++ jiC u = jpC u := by
  unfold jpC jiC
  rw [if_pos h, if_pos (by omega), hc]
  rfl
theorem jpC.pl {u : Int} (h : ¬ (u = 34 ∨ u = 92)) (h0 : 32 ≤ u) (h1 : u ≤ 65535) : [] ++ jiC u = jpC u := by
  unfold jpC jiC
  rw [if_neg h, if_neg (show ¬ u < 32 by omega)]
  by_cases c : u < 128
  · rw [if_pos c, if_pos c]; rfl
  · rw [if_neg c, if_neg c]
    by_cases c1 : u < 2048
    · rw [if_pos c1, if_pos c1]; rfl
    · rw [if_neg c1, if_neg c1, if_pos (by omega)]; rfl
end J9IQ
end
