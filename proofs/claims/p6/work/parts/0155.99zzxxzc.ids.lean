section
def EX0_numberI : List (Nat × Nat) := [(17, 0), (17, 1), (199, 0)]
def EX0_quotedI : List (Nat × Nat) := [(17, 0), (17, 1), (199, 0)]
set_option maxHeartbeats 4000000 in
set_option maxRecDepth 20000 in
theorem uX0_numberI (l : Launch) (dC : Nat → ClassId) (dI : Nat → Nat → Nat) (ca : Nat → ClassId) (base : Nat) (B : jF) (hB : jBok B) (hAp : jAp (dC, dI)) (hB2 : ∀ n G a H, B 2 n G a H ↔ jOb (dC, dI) 2 2 (F2 n G) a H) (hB17 : ∀ n G a H, B 17 n G a H ↔ jOb (dC, dI) 17 2 (F17 n G) a H) (hB196 : ∀ n G a H, B 196 n G a H ↔ jAr (dC, dI) (ca 0) (fun j z => jBf j z) n a H) (hB199 : ∀ n G a H, B 199 n G a H ↔ jAr (dC, dI) (ca 0) (fun j z => jBf j z) n a H) (G0 : jT) (H0 : Heap) (r0 : Nat) (a1 : Int32) (pc : Int32) (pa : Nat) (n_pa : Nat) (ib : Nat → List Int) (LC LS : Nat) : Met l yX0_number (jw yX0_number cX0_number 9 none) ({ frames := 3, cells := LC - H0.size, slots := LS - jTot H0, locals := 83 }) (va_Pc [.ref r0, .int a1] (fun U => U.heap = H0 ∧ jX B base G0 [] H0 ∧ jG dC dI ca base U ∧ G0 r0 = some (17, 0) ∧ G0 pa = some (199, n_pa) ∧ jP (dC, dI) G0 H0 [(r0, 17, 1, .int pc), (r0, 17, 0, .ref pa)] ∧ jIs (dC, dI) G0 H0 [(jFib, jIB dC dI ca G0 0 ib)] ∧ H0.size + (128 - n_pa) / 16 + 1 ≤ LC ∧ jTot H0 + 2 * (128 - n_pa) ≤ LS ∧ 0 ≤ pc.toInt ∧ pc.toInt ≤ n_pa ∧ 16 ≤ n_pa ∧ n_pa ≤ 128 ∧ jPw n_pa ∧ pc.toInt + 11 ≤ 128)) (va_Qv (S := Int32 × Nat × Nat × jT) (fun u => 0 ≤ u.1.toInt ∧ u.1.toInt ≤ u.2.2.1 ∧ n_pa ≤ u.2.2.1 ∧ u.2.2.1 ≤ 128 ∧ jPw u.2.2.1 ∧ u.1.toInt ≤ pc.toInt + 11) (fun u t => jRa (dC, dI) B base G0 u.2.2.2 EX0_numberI H0 ((u.2.2.1 - n_pa) / 16) (2 * (u.2.2.1 - n_pa)) [(r0, 17, 1, .int u.1), (r0, 17, 0, .ref u.2.1)] t.heap ∧ u.2.2.2 u.2.1 = some (199, u.2.2.1) ∧ (jNk [0, 1, 2, 3, 4, 5, 6, 7, 8, 9, 10, 11, 12, 13, 14, 15, 16, 17, 175]) G0 u.2.2.2 ∧ jOw (dC, dI) G0 17 r0 H0 t.heap ∧ jIs (dC, dI) u.2.2.2 t.heap [(jFib, jIB dC dI ca u.2.2.2 0 (jUf ib r0 (ib r0 ++ jpN a1.toInt)))]) (jA base)) (LC - H0.size) (LS - jTot H0) (jA base) := by
  refine Met.ofW (cc := cX0_number) (maxL := 9) (ret := none) (by decide) rfl ?_
  intro p e s m args below meth c s₁ Bd hml hv
  obtain ⟨rfl, hH0, hX, hG, hg_r0, hg_pa, hP0, hI0, hLC0, hLS0, hp0, hp1, hp2, hp3, hp4, hp5⟩ := hv
  have hK := hG.1
  have hx := Bd.exec
  have hb := Bd.bytes
  have hr := Bd.returns
  have hts := atoms_spec (ws := (jw yX0_number cX0_number 9 none)) Bd.pre
  have htw : ∀ w ∈ jWl, w.before _ s = true := fun w h => hts w (List.mem_cons_of_mem _ h)
  have hown : s.vm.findClass RX0 = some m.cls := findClass_of_methodNamed Bd.named
  have hlocks := Bd.notSynchronized
  obtain ⟨Q, hQ⟩ : ∃ Q, Q = MQ below (va_Qv (S := Int32 × Nat × Nat × jT) (fun u => 0 ≤ u.1.toInt ∧ u.1.toInt ≤ u.2.2.1 ∧ n_pa ≤ u.2.2.1 ∧ u.2.2.1 ≤ 128 ∧ jPw u.2.2.1 ∧ u.1.toInt ≤ pc.toInt + 11) (fun u t => jRa (dC, dI) B base G0 u.2.2.2 EX0_numberI H0 ((u.2.2.1 - n_pa) / 16) (2 * (u.2.2.1 - n_pa)) [(r0, 17, 1, .int u.1), (r0, 17, 0, .ref u.2.1)] t.heap ∧ u.2.2.2 u.2.1 = some (199, u.2.2.1) ∧ (jNk [0, 1, 2, 3, 4, 5, 6, 7, 8, 9, 10, 11, 12, 13, 14, 15, 16, 17, 175]) G0 u.2.2.2 ∧ jOw (dC, dI) G0 17 r0 H0 t.heap ∧ jIs (dC, dI) u.2.2.2 t.heap [(jFib, jIB dC dI ca u.2.2.2 0 (jUf ib r0 (ib r0 ++ jpN a1.toInt)))]) (jA base)) ([.ref r0, .int a1] : List Value).toArray s (LC - H0.size) (LS - jTot H0) (jA base) := ⟨_, rfl⟩
  rw [← hQ]
  have hl := lv_entry ([.ref r0, .int a1]) (n := 9) (Nat.le_of_ble_eq_true rfl)
  rw [lg_entry_eq]
  generalize (lg_sl ([.ref r0, .int a1]) ++ List.replicate (9 - (lg_sl ([.ref r0, .int a1])).length) Slot.unset).toArray = ls at hl ⊢
  have hl : lv_has ls 9 [(0, .ref r0), (1, .int a1)] := hl
  generalize hR : (headSpec (jw yX0_number cX0_number 9 none) ({ frames := 3, cells := LC - H0.size, slots := LS - jTot H0, locals := 83 })).room = R
  subst hH0
  have hh : jSt (dC, dI) B base G0 G0 EX0_numberI s.heap 0 0 [(r0, 17, 1, .int pc), (r0, 17, 0, .ref pa)] [] [(jFib, jIB dC dI ca G0 0 ib)] s.heap [] := jSt.start hX hP0 jMc.nil hI0
  clear hX hP0
  have hk0 : (0 : Int32).toInt = 0 := by decide
  have hk1 : (1 : Int32).toInt = 1 := by decide
  have hk45 : (45 : Int32).toInt = 45 := by decide
  have hrg_a1 := jb_rng a1
  have hbs : base ≤ s.heap.size := Nat.le_of_lt (Nat.lt_of_le_of_lt (hh.ab hg_r0).1 (hh.ab hg_r0).2)
  have hRc : R.cells = LC - s.heap.size := by rw [← hR]; rfl
  have hRs : R.slots = LS - jTot s.heap := by rw [← hR]; rfl
  have hh_1 := hh.addI (jOw.ie (dC := dC) (dI := dI) (G0 := G0) (k := 17) (r := r0) (H0 := s.heap) (F := [(17, 0), (17, 1)]) (C := RX0) (T := TX0) (N := 2) rfl (by decide) hh.2.2.2.2.1 (jOw.rf))
  clear hh
  refine lv_iload_n hx hb dX0_number_0 rfl (lv_at hl 1 rfl) ?_
  refine lv_i2l hx hb dX0_number_1 rfl ?_
  refine lv_topl (fun z_2 ez_2 => ?_)
  have hz_2 : z_2.toInt = a1.toInt := by rw [ez_2]; exact Int32.toInt_toInt64 _
  refine lv_lstore_n (lv' := [(2, .long z_2), (0, .ref r0), (1, .int a1)]) hx hb dX0_number_2 rfl hl (by decide) rfl (fun ls hl => ?_)
  refine lv_lload_n hx hb dX0_number_3 rfl (lv_at hl 0 rfl) ?_
  refine lv_lconst (v := 0) hx hb dX0_number_4 (by decide) ?_
  refine W.lcmp hx hb dX0_number_5 ?_
  refine lv_topi (fun z_3 ez_3 => ?_)
  have hz_3 := jb_lcmp ez_3
  have hqz_3_0 : (0 : Int64).toInt = 0 := by decide
  refine lv_if_ge (tgt := 18) hx hb dX0_number_6 (by decide) (fun c_4 => ?_) (fun c_4 => ?_)
  · skip
    have c_4' : z_3.toInt ≥ 0 := jb_ge (rfl) ((by decide)) c_4
    refine lv_iconst (v := 0) hx hb dX0_number_18 (by decide) ?_
    refine lv_istore (lv' := [(4, .int 0), (2, .long z_2), (0, .ref r0), (1, .int a1)]) hx hb dX0_number_19 hl (by decide) rfl (fun ls hl => ?_)
    refine lv_ldc2 hx hb hown (htw (.constantLong RX0 44 1000000000) (jWr_24 _ (List.mem_of_getElem? (i := 19) rfl))) dX0_number_21 ?_
    refine lv_lstore (lv' := [(5, .long 1000000000), (4, .int 0), (2, .long z_2), (0, .ref r0), (1, .int a1)]) hx hb dX0_number_24 hl (by decide) rfl (fun ls hl => ?_)
    have L26 : ∀ (N : Nat) (Gx_5 : jT) (zcx_5 : Nat) (zsx_5 : Nat) (v4_5 : Int32) (v5_5 : Int64) (wc_5 : Int32) (wr_5 : Nat) (m_wr_5 : Nat) (ibx_5 : Nat → List Int) (gk : Int) (H_5 : Heap) (locs_5 : List Loc), jSt (dC, dI) B base G0 Gx_5 EX0_numberI s.heap zcx_5 zsx_5 [(r0, 17, 1, .int wc_5), (r0, 17, 0, .ref wr_5)] [] [([(17, 0), (17, 1)], jOw (dC, dI) G0 17 r0 s.heap), (jFib, jIB dC dI ca Gx_5 0 ibx_5)] H_5 locs_5 → (jNk [0, 1, 2, 3, 4, 5, 6, 7, 8, 9, 10, 11, 12, 13, 14, 15, 16, 17, 175]) G0 Gx_5 → jLe G0 Gx_5 → (v4_5 = 0 ∨ v4_5 = 1) → Gx_5 wr_5 = some (199, m_wr_5) → (0 ≤ wc_5.toInt ∧ wc_5.toInt ≤ m_wr_5 ∧ n_pa ≤ m_wr_5 ∧ m_wr_5 ≤ 128 ∧ jPw m_wr_5 ∧ zcx_5 ≤ (m_wr_5 - n_pa) / 16 ∧ zsx_5 ≤ 2 * (m_wr_5 - n_pa) ∧ 0 ≤ gk ∧ gk ≤ 10 ∧ wc_5.toInt ≤ pc.toInt + 11 - gk ∧ jTen v5_5.toInt gk ∧ 0 ≤ v4_5.toInt ∧ v4_5.toInt ≤ 1 ∧ jiM ib ibx_5 r0 gk z_2.toInt v4_5.toInt a1.toInt) → (gk : Int) < N → ∀ ls : Array Slot, lv_has ls 9 [(0, .ref r0), (1, .int a1), (2, .long z_2), (4, .int v4_5), (5, .long v5_5)] → W p l e R s m ([.ref r0, .int a1] : List Value).toArray below meth c H_5 locs_5 zcx_5 zsx_5 Q (F0 m 26 ls []) := by
      intro N
      induction N with
      | zero => intro Gx_5 zcx_5 zsx_5 v4_5 v5_5 wc_5 wr_5 m_wr_5 ibx_5 gk H_5 locs_5 hh_5 hN_5 hle_5 hb_v4_5 hg_wr_5 hi_5 hm; exact absurd hm (by omega)
      | succ N L26 =>
        intro Gx_5 zcx_5 zsx_5 v4_5 v5_5 wc_5 wr_5 m_wr_5 ibx_5 gk H_5 locs_5 hh_5 hN_5 hle_5 hb_v4_5 hg_wr_5 hi_5 hm_5 ls hl
        have hg_6 := hle_5 _ _ hg_r0
        obtain ⟨hi_5_0, hi_5_1, hi_5_2, hi_5_3, hi_5_4, hi_5_5, hi_5_6, hi_5_7, hi_5_8, hi_5_9, hi_5_10, hi_5_11, hi_5_12, hi_5_13⟩ := hi_5
        have hb_v4_5' := jb_01 hb_v4_5
        refine lv_lload hx hb dX0_number_26 (lv_at hl 4 rfl) ?_
        refine lv_lconst (v := 0) hx hb dX0_number_28 (by decide) ?_
        refine W.lcmp hx hb dX0_number_29 ?_
        refine lv_topi (fun z_7 ez_7 => ?_)
        have hz_7 := jb_lcmp ez_7
        have hqz_7_0 : (0 : Int64).toInt = 0 := by decide
        refine lv_if_le (tgt := 96) hx hb dX0_number_30 (by decide) (fun c_8 => ?_) (fun c_8 => ?_)
        · skip
          have c_8' : z_7.toInt ≤ 0 := jb_le (rfl) ((by decide)) c_8
          have hA_9 : ibx_5 = (jUf ib r0 (ib r0 ++ jpN a1.toInt)) := hi_5_13.e (hi_5_10.zr (by omega))
          have hAe_9 : jIB dC dI ca Gx_5 0 (jUf ib r0 (ib r0 ++ jpN a1.toInt)) H_5 := by rw [← hA_9]; exact hh_5.iv 1 rfl
          have hh_10 := hh_5.sub (L1 := [(r0, 17, 1, .int wc_5), (r0, 17, 0, .ref wr_5)]) [0, 1] rfl (M1 := []) [] rfl (I1 := [([(17, 0), (17, 1)], jOw (dC, dI) G0 17 r0 s.heap)]) [0] rfl
          clear hh_5
          have hh_11 := hh_10.addI (jIB.ie hAe_9)
          clear hh_10
          have hsz_12 := hh_11.2.2.2.2.2.1
          have htt_12 := hh_11.2.2.2.2.2.2.1
          refine W.room (fun hrc_12 hrs_12 => ?_)
          refine W.widen (k := LC - s.heap.size) (n := LS - jTot s.heap) (by omega) (by omega) ?_
          rw [hQ]
          exact W.vret hx hb hr (fun t ht hW => ⟨⟨(wc_5, wr_5, m_wr_5, Gx_5), rfl, by (try dsimp only); exact ⟨(by first | omega | rfl | assumption | fail), (by first | omega | rfl | assumption | fail), (by first | omega | rfl | assumption | fail), (by first | omega | rfl | assumption | fail), (by first | assumption | fail | omega), (by first | omega | rfl | assumption | fail)⟩, ⟨hh_11.ra (by first | (simp only; omega) | omega) (by first | (simp only; omega) | omega) (M1 := [(r0, 17, 1, .int wc_5), (r0, 17, 0, .ref wr_5)]) [0, 1] rfl ht, hg_wr_5, hN_5, by rw [ht]; exact hh_11.iv 1 rfl, by rw [ht]; exact hh_11.2.2.2.2.2.2.2.2.sub (L1 := [(jFib, jIB dC dI ca Gx_5 0 (jUf ib r0 (ib r0 ++ jpN a1.toInt)))]) [0] rfl⟩⟩, by rw [ht]; try exact hh_11.1.1, fun q h9 hq => by rw [ht]; try exact hh_11.1.2.1 q h9 hq⟩) hh_11.1.2.2 dX0_number_96
        · skip
          have c_8' : z_7.toInt > 0 := jb_le_n (rfl) ((by decide)) c_8
          have hk1 := hi_5_10.pos (by omega)
          refine lv_lload_n hx hb dX0_number_33 rfl (lv_at hl 2 rfl) ?_
          refine lv_lload hx hb dX0_number_34 (lv_at hl 4 rfl) ?_
          refine lv_ldiv hx hb dX0_number_36 (jb_lne (by omega)) ?_
          refine lv_topl (fun z_13 ez_13 => ?_)
          have hz_13 : z_13.toInt = z_2.toInt / v5_5.toInt := by rw [ez_13]; exact jb_ldiv (rfl) (rfl) (by omega) (by omega)
          have hbz_13 : 0 ≤ z_13.toInt := by rw [hz_13]; exact Int.ediv_nonneg (by omega) (by omega)
          refine lv_ldc2 hx hb hown (htw (.constantLong RX0 46 10) (jWr_24 _ (List.mem_of_getElem? (i := 20) rfl))) dX0_number_37 ?_
          refine lv_lrem hx hb dX0_number_40 (by decide) ?_
          refine lv_topl (fun z_14 ez_14 => ?_)
          refine lv_lstore (lv' := [(7, .long z_14), (0, .ref r0), (1, .int a1), (2, .long z_2), (4, .int v4_5), (5, .long v5_5)]) hx hb dX0_number_41 hl (by decide) rfl (fun ls hl => ?_)
          refine lv_iload hx hb dX0_number_43 (lv_at hl 4 rfl) ?_
          refine lv_if_ne (tgt := 62) hx hb dX0_number_45 (by decide) (fun c_15 => ?_) (fun c_15 => ?_)
          · skip
            have c_15' : v4_5.toInt ≠ 0 := jb_ne (rfl) ((by decide)) c_15
            refine lv_iconst (v := 1) hx hb dX0_number_62 (by decide) ?_
            refine lv_goto (tgt := 67) hx hb dX0_number_63 (by decide) ?_
            refine lv_istore (lv' := [(4, .int 1), (7, .long z_14), (0, .ref r0), (1, .int a1), (2, .long z_2), (5, .long v5_5)]) hx hb dX0_number_67 hl (by decide) rfl (fun ls hl => ?_)
            refine lv_iload hx hb dX0_number_69 (lv_at hl 0 rfl) ?_
            refine lv_if_eq (tgt := 85) hx hb dX0_number_71 (by decide) (fun c_16 => ?_) (fun c_16 => ?_)
            · skip
              exact absurd c_16 (by decide)
            · skip
              refine lv_aload_n hx hb dX0_number_74 rfl (lv_at hl 2 rfl) ?_
              refine lv_ldc2 hx hb hown (htw (.constantLong RX0 48 48) (jWr_24 _ (List.mem_of_getElem? (i := 21) rfl))) dX0_number_75 ?_
              refine lv_lload hx hb dX0_number_78 (lv_at hl 1 rfl) ?_
              refine lv_ladd hx hb dX0_number_80 ?_
              refine lv_topl (fun z_17 ez_17 => ?_)
              refine lv_l2i hx hb dX0_number_81 rfl ?_
              refine lv_topi (fun z_18 ez_18 => ?_)
              have hsz_19 := hh_5.2.2.2.2.2.1
              have htt_19 := hh_5.2.2.2.2.2.2.1
              refine W.room (fun hrc_19 hrs_19 => ?_)
              refine va_callv (A0 := jA base) (H0 := s.heap) (va_runV (As := [.int z_18]) (rest := []) ⟨hx, hb, hml, hown, hts⟩ (uX0_putI l dC dI ca base B hB hAp hB2 hB17 hB196 hB199 Gx_5 H_5 r0 z_18 wc_5 wr_5 m_wr_5 ibx_5 LC LS) (cwV 1 hts (jgV (jWr_24 _ (List.mem_of_getElem? (i := 22) rfl)) (jWr_16 _ (List.mem_of_getElem? (i := 0) rfl)) (jWr_16 _ (List.mem_of_getElem? (i := 1) rfl)) (jWr_1 _ (List.mem_of_getElem? (i := 14) rfl)) (jWr_16 _ (List.mem_of_getElem? (i := 2) rfl))) rfl rfl rfl (by decide +kernel) ⟨by rw [← hR]; exact Nat.le_of_ble_eq_true rfl, by rw [← hR]; exact Nat.le_of_ble_eq_true rfl⟩) ⟨fun a U g mk q => by obtain ⟨q0, q1, q2, qK, q10, q11, q12, q13, q14⟩ := q; exact ⟨q0, q1, q2, jG.calling g mk a qK, q10, q11, q12, q13, q14⟩, hh_5.recv (C := RX0) (T := TX0) (N := 2) hB17 rfl (by decide) hg_6 hK, fun U hU hW => ⟨rfl, hU, hh_5.2.1, hG.step hW hU hh_5.1, hg_6, hg_wr_5, (hh_5.2.2.1.sub (L1 := [(r0, 17, 1, .int wc_5), (r0, 17, 0, .ref wr_5)]) [0, 1] rfl), (hh_5.2.2.2.2.2.2.2.2.sub (L1 := [(jFib, jIB dC dI ca Gx_5 0 ibx_5)]) [1] rfl), (by omega), (by omega), by first | omega | (refine ⟨?_, ?_, ?_, ?_, ?_, ?_⟩ <;> (first | omega | rfl | assumption | decide | exact Or.inl rfl | exact Or.inr rfl | (simp only; omega)))⟩⟩ rfl rfl hl.1 rfl (lv_room (Nat.le_of_ble_eq_true rfl)) dX0_number_82 ⟨by rw [hRc]; omega, by rw [hRs]; omega⟩) hh_5.1 (fun q _ h => h) (fun q h => h) (fun u_19 t_19 H_19 locs_19 ht_19 hvm_19 hr_20 hb_19 hz_19 hk_19 hS_19 => ?_)
              obtain ⟨qc_19, qa_19, m_qa_19, G_19⟩ := u_19
              rw [ht_19] at hb_19
              simp only at hb_19
              obtain ⟨⟨hb_191, hb_192, hb_193, hb_194, hb_195, hb_196⟩, hgq_19_0, hN_19, hbO_19, hbE_19⟩ := hb_19
              have hW_19 := hN_19
              have hh_19 : jSt (dC, dI) B base G0 G_19 EX0_numberI s.heap (zcx_5 + ((m_qa_19 - m_wr_5) / 16)) (zsx_5 + (2 * (m_qa_19 - m_wr_5))) [(r0, 17, 1, .int qc_19), (r0, 17, 0, .ref qa_19)] [] [] H_19 locs_19 := (hh_5.callG hb_191 hb_192 hb_193 hb_194 hb_195 hS_19 rfl (L1 := []) [] rfl rfl (M1 := []) [] rfl rfl (I1 := []) [] rfl rfl).more hb_196
              have hNn_19 : (jNk [0, 1, 2, 3, 4, 5, 6, 7, 8, 9, 10, 11, 12, 13, 14, 15, 16, 17, 175]) G0 G_19 := (hN_5).tr hN_19
              have hg_21 := hb_192 _ _ hg_6
              have hh_22 := hh_19.addIs hbE_19
              have hd_23 := jOw.tr (hh_5.iv 0 rfl) hh_5.2.2.2.2.1 hbO_19
              have hh_24 := hh_22.addI (jOw.ie (dC := dC) (dI := dI) (G0 := G0) (k := 17) (r := r0) (H0 := s.heap) (F := [(17, 0), (17, 1)]) (C := RX0) (T := TX0) (N := 2) rfl (by decide) hh_22.2.2.2.2.1 (hd_23))
              clear hh_22
              try simp only at hr_20
              obtain ⟨hr_20_0, hr_20_1, hr_20_2, hr_20_3, hr_20_4, hr_20_5⟩ := hr_20
              refine lv_lload hx hb dX0_number_85 (lv_at hl 5 rfl) ?_
              refine lv_ldc2 hx hb hown (htw (.constantLong RX0 46 10) (jWr_24 _ (List.mem_of_getElem? (i := 20) rfl))) dX0_number_87 ?_
              refine lv_ldiv hx hb dX0_number_90 (by decide) ?_
              refine lv_topl (fun z_25 ez_25 => ?_)
              have hz_25 : z_25.toInt = v5_5.toInt / 10 := by rw [ez_25]; exact jb_ldiv (rfl) ((by decide)) (by omega) (by omega)
              refine lv_lstore (lv' := [(5, .long z_25), (4, .int 1), (7, .long z_14), (0, .ref r0), (1, .int a1), (2, .long z_2)]) hx hb dX0_number_91 hl (by decide) rfl (fun ls hl => ?_)
              refine lv_goto (tgt := 26) hx hb dX0_number_93 (by decide) ?_
              refine W.tight (c2 := (zcx_5 + ((m_qa_19 - m_wr_5) / 16))) (n2 := (zsx_5 + (2 * (m_qa_19 - m_wr_5)))) hh_24.2.2.2.2.2.1 hh_24.2.2.2.2.2.2.1 ?_
              exact L26 G_19 (zcx_5 + ((m_qa_19 - m_wr_5) / 16)) (zsx_5 + (2 * (m_qa_19 - m_wr_5))) 1 z_25 qc_19 qa_19 m_qa_19 (jUf ibx_5 r0 (ibx_5 r0 ++ [z_18.toInt % 256])) (gk - 1) _ _ hh_24 (hNn_19) ((hle_5).tr hb_192) (Or.inr rfl) hgq_19_0 (by have hrm9 := jb_lrem10 ez_14 (by omega) (by have h8 := Int.ediv_le_self (v5_5.toInt) (show (0 : Int) ≤ z_2.toInt by omega); have h7 := hz_13; omega); refine ⟨(by first | (with_reducible assumption) | omega), (by first | (with_reducible assumption) | omega), (by first | (with_reducible assumption) | omega), (by first | (with_reducible assumption) | omega), (by first | (with_reducible assumption) | omega), (by first | (with_reducible assumption) | omega), (by first | (with_reducible assumption) | omega), by omega, by omega, by omega, hi_5_10.step (by omega) (by omega) (by omega), by omega, by omega, ?_⟩; exact hi_5_13.y (by omega) hi_5_10 (hrm9.trans (by rw [hz_13])) (Or.inl (by omega)) (by have h7 := jb_laddx ez_17 (by have h6 : (48 : Int64).toInt = 48 := (by decide); omega) (by have h6 : (48 : Int64).toInt = 48 := (by decide); omega); have h6 : (48 : Int64).toInt = 48 := (by decide); have h8 := jb_l2ix ez_18 (by omega) (by omega); omega) (by omega) rfl (by omega)) (by omega) _ (lv_sub hl [3, 4, 5, 1, 0] rfl)
          · skip
            have c_15' : v4_5.toInt = 0 := jb_ne_n (rfl) ((by decide)) c_15
            refine lv_lload hx hb dX0_number_48 (lv_at hl 0 rfl) ?_
            refine lv_lconst (v := 0) hx hb dX0_number_50 (by decide) ?_
            refine W.lcmp hx hb dX0_number_51 ?_
            refine lv_topi (fun z_26 ez_26 => ?_)
            have hz_26 := jb_lcmp ez_26
            have hqz_26_0 : (0 : Int64).toInt = 0 := by decide
            refine lv_if_gt (tgt := 62) hx hb dX0_number_52 (by decide) (fun c_27 => ?_) (fun c_27 => ?_)
            · skip
              have c_27' : z_26.toInt > 0 := jb_gt (rfl) ((by decide)) c_27
              refine lv_iconst (v := 1) hx hb dX0_number_62 (by decide) ?_
              refine lv_goto (tgt := 67) hx hb dX0_number_63 (by decide) ?_
              refine lv_istore (lv' := [(4, .int 1), (7, .long z_14), (0, .ref r0), (1, .int a1), (2, .long z_2), (5, .long v5_5)]) hx hb dX0_number_67 hl (by decide) rfl (fun ls hl => ?_)
              refine lv_iload hx hb dX0_number_69 (lv_at hl 0 rfl) ?_
              refine lv_if_eq (tgt := 85) hx hb dX0_number_71 (by decide) (fun c_28 => ?_) (fun c_28 => ?_)
              · skip
                exact absurd c_28 (by decide)
              · skip
                refine lv_aload_n hx hb dX0_number_74 rfl (lv_at hl 2 rfl) ?_
                refine lv_ldc2 hx hb hown (htw (.constantLong RX0 48 48) (jWr_24 _ (List.mem_of_getElem? (i := 21) rfl))) dX0_number_75 ?_
                refine lv_lload hx hb dX0_number_78 (lv_at hl 1 rfl) ?_
                refine lv_ladd hx hb dX0_number_80 ?_
                refine lv_topl (fun z_29 ez_29 => ?_)
                refine lv_l2i hx hb dX0_number_81 rfl ?_
                refine lv_topi (fun z_30 ez_30 => ?_)
                have hsz_31 := hh_5.2.2.2.2.2.1
                have htt_31 := hh_5.2.2.2.2.2.2.1
                refine W.room (fun hrc_31 hrs_31 => ?_)
                refine va_callv (A0 := jA base) (H0 := s.heap) (va_runV (As := [.int z_30]) (rest := []) ⟨hx, hb, hml, hown, hts⟩ (uX0_putI l dC dI ca base B hB hAp hB2 hB17 hB196 hB199 Gx_5 H_5 r0 z_30 wc_5 wr_5 m_wr_5 ibx_5 LC LS) (cwV 1 hts (jgV (jWr_24 _ (List.mem_of_getElem? (i := 22) rfl)) (jWr_16 _ (List.mem_of_getElem? (i := 0) rfl)) (jWr_16 _ (List.mem_of_getElem? (i := 1) rfl)) (jWr_1 _ (List.mem_of_getElem? (i := 14) rfl)) (jWr_16 _ (List.mem_of_getElem? (i := 2) rfl))) rfl rfl rfl (by decide +kernel) ⟨by rw [← hR]; exact Nat.le_of_ble_eq_true rfl, by rw [← hR]; exact Nat.le_of_ble_eq_true rfl⟩) ⟨fun a U g mk q => by obtain ⟨q0, q1, q2, qK, q10, q11, q12, q13, q14⟩ := q; exact ⟨q0, q1, q2, jG.calling g mk a qK, q10, q11, q12, q13, q14⟩, hh_5.recv (C := RX0) (T := TX0) (N := 2) hB17 rfl (by decide) hg_6 hK, fun U hU hW => ⟨rfl, hU, hh_5.2.1, hG.step hW hU hh_5.1, hg_6, hg_wr_5, (hh_5.2.2.1.sub (L1 := [(r0, 17, 1, .int wc_5), (r0, 17, 0, .ref wr_5)]) [0, 1] rfl), (hh_5.2.2.2.2.2.2.2.2.sub (L1 := [(jFib, jIB dC dI ca Gx_5 0 ibx_5)]) [1] rfl), (by omega), (by omega), by first | omega | (refine ⟨?_, ?_, ?_, ?_, ?_, ?_⟩ <;> (first | omega | rfl | assumption | decide | exact Or.inl rfl | exact Or.inr rfl | (simp only; omega)))⟩⟩ rfl rfl hl.1 rfl (lv_room (Nat.le_of_ble_eq_true rfl)) dX0_number_82 ⟨by rw [hRc]; omega, by rw [hRs]; omega⟩) hh_5.1 (fun q _ h => h) (fun q h => h) (fun u_31 t_31 H_31 locs_31 ht_31 hvm_31 hr_32 hb_31 hz_31 hk_31 hS_31 => ?_)
                obtain ⟨qc_31, qa_31, m_qa_31, G_31⟩ := u_31
                rw [ht_31] at hb_31
                simp only at hb_31
                obtain ⟨⟨hb_311, hb_312, hb_313, hb_314, hb_315, hb_316⟩, hgq_31_0, hN_31, hbO_31, hbE_31⟩ := hb_31
                have hW_31 := hN_31
                have hh_31 : jSt (dC, dI) B base G0 G_31 EX0_numberI s.heap (zcx_5 + ((m_qa_31 - m_wr_5) / 16)) (zsx_5 + (2 * (m_qa_31 - m_wr_5))) [(r0, 17, 1, .int qc_31), (r0, 17, 0, .ref qa_31)] [] [] H_31 locs_31 := (hh_5.callG hb_311 hb_312 hb_313 hb_314 hb_315 hS_31 rfl (L1 := []) [] rfl rfl (M1 := []) [] rfl rfl (I1 := []) [] rfl rfl).more hb_316
                have hNn_31 : (jNk [0, 1, 2, 3, 4, 5, 6, 7, 8, 9, 10, 11, 12, 13, 14, 15, 16, 17, 175]) G0 G_31 := (hN_5).tr hN_31
                have hg_33 := hb_312 _ _ hg_6
                have hh_34 := hh_31.addIs hbE_31
                have hd_35 := jOw.tr (hh_5.iv 0 rfl) hh_5.2.2.2.2.1 hbO_31
                have hh_36 := hh_34.addI (jOw.ie (dC := dC) (dI := dI) (G0 := G0) (k := 17) (r := r0) (H0 := s.heap) (F := [(17, 0), (17, 1)]) (C := RX0) (T := TX0) (N := 2) rfl (by decide) hh_34.2.2.2.2.1 (hd_35))
                clear hh_34
                try simp only at hr_32
                obtain ⟨hr_32_0, hr_32_1, hr_32_2, hr_32_3, hr_32_4, hr_32_5⟩ := hr_32
                refine lv_lload hx hb dX0_number_85 (lv_at hl 5 rfl) ?_
                refine lv_ldc2 hx hb hown (htw (.constantLong RX0 46 10) (jWr_24 _ (List.mem_of_getElem? (i := 20) rfl))) dX0_number_87 ?_
                refine lv_ldiv hx hb dX0_number_90 (by decide) ?_
                refine lv_topl (fun z_37 ez_37 => ?_)
                have hz_37 : z_37.toInt = v5_5.toInt / 10 := by rw [ez_37]; exact jb_ldiv (rfl) ((by decide)) (by omega) (by omega)
                refine lv_lstore (lv' := [(5, .long z_37), (4, .int 1), (7, .long z_14), (0, .ref r0), (1, .int a1), (2, .long z_2)]) hx hb dX0_number_91 hl (by decide) rfl (fun ls hl => ?_)
                refine lv_goto (tgt := 26) hx hb dX0_number_93 (by decide) ?_
                refine W.tight (c2 := (zcx_5 + ((m_qa_31 - m_wr_5) / 16))) (n2 := (zsx_5 + (2 * (m_qa_31 - m_wr_5)))) hh_36.2.2.2.2.2.1 hh_36.2.2.2.2.2.2.1 ?_
                exact L26 G_31 (zcx_5 + ((m_qa_31 - m_wr_5) / 16)) (zsx_5 + (2 * (m_qa_31 - m_wr_5))) 1 z_37 qc_31 qa_31 m_qa_31 (jUf ibx_5 r0 (ibx_5 r0 ++ [z_30.toInt % 256])) (gk - 1) _ _ hh_36 (hNn_31) ((hle_5).tr hb_312) (Or.inr rfl) hgq_31_0 (by have hrm9 := jb_lrem10 ez_14 (by omega) (by have h8 := Int.ediv_le_self (v5_5.toInt) (show (0 : Int) ≤ z_2.toInt by omega); have h7 := hz_13; omega); refine ⟨(by first | (with_reducible assumption) | omega), (by first | (with_reducible assumption) | omega), (by first | (with_reducible assumption) | omega), (by first | (with_reducible assumption) | omega), (by first | (with_reducible assumption) | omega), (by first | (with_reducible assumption) | omega), (by first | (with_reducible assumption) | omega), by omega, by omega, by omega, hi_5_10.step (by omega) (by omega) (by omega), by omega, by omega, ?_⟩; exact hi_5_13.y (by omega) hi_5_10 (hrm9.trans (by rw [hz_13])) (Or.inr (Or.inl (by omega))) (by have h7 := jb_laddx ez_29 (by have h6 : (48 : Int64).toInt = 48 := (by decide); omega) (by have h6 : (48 : Int64).toInt = 48 := (by decide); omega); have h6 : (48 : Int64).toInt = 48 := (by decide); have h8 := jb_l2ix ez_30 (by omega) (by omega); omega) (by omega) rfl (by omega)) (by omega) _ (lv_sub hl [3, 4, 5, 1, 0] rfl)
            · skip
              have c_27' : z_26.toInt ≤ 0 := jb_gt_n (rfl) ((by decide)) c_27
              refine lv_lload hx hb dX0_number_55 (lv_at hl 5 rfl) ?_
              refine lv_lconst (v := 1) hx hb dX0_number_57 (by decide) ?_
              refine W.lcmp hx hb dX0_number_58 ?_
              refine lv_topi (fun z_38 ez_38 => ?_)
              have hz_38 := jb_lcmp ez_38
              have hqz_38_1 : (1 : Int64).toInt = 1 := by decide
              refine lv_if_ne (tgt := 66) hx hb dX0_number_59 (by decide) (fun c_39 => ?_) (fun c_39 => ?_)
              · skip
                have c_39' : z_38.toInt ≠ 0 := jb_ne (rfl) ((by decide)) c_39
                refine lv_iconst (v := 0) hx hb dX0_number_66 (by decide) ?_
                refine lv_istore (lv' := [(4, .int 0), (7, .long z_14), (0, .ref r0), (1, .int a1), (2, .long z_2), (5, .long v5_5)]) hx hb dX0_number_67 hl (by decide) rfl (fun ls hl => ?_)
                refine lv_iload hx hb dX0_number_69 (lv_at hl 0 rfl) ?_
                refine lv_if_eq (tgt := 85) hx hb dX0_number_71 (by decide) (fun c_40 => ?_) (fun c_40 => ?_)
                · skip
                  refine lv_lload hx hb dX0_number_85 (lv_at hl 5 rfl) ?_
                  refine lv_ldc2 hx hb hown (htw (.constantLong RX0 46 10) (jWr_24 _ (List.mem_of_getElem? (i := 20) rfl))) dX0_number_87 ?_
                  refine lv_ldiv hx hb dX0_number_90 (by decide) ?_
                  refine lv_topl (fun z_41 ez_41 => ?_)
                  have hz_41 : z_41.toInt = v5_5.toInt / 10 := by rw [ez_41]; exact jb_ldiv (rfl) ((by decide)) (by omega) (by omega)
                  refine lv_lstore (lv' := [(5, .long z_41), (4, .int 0), (7, .long z_14), (0, .ref r0), (1, .int a1), (2, .long z_2)]) hx hb dX0_number_91 hl (by decide) rfl (fun ls hl => ?_)
                  refine lv_goto (tgt := 26) hx hb dX0_number_93 (by decide) ?_
                  refine W.tight (c2 := zcx_5) (n2 := zsx_5) hh_5.2.2.2.2.2.1 hh_5.2.2.2.2.2.2.1 ?_
                  exact L26 Gx_5 zcx_5 zsx_5 0 z_41 wc_5 wr_5 m_wr_5 ibx_5 (gk - 1) _ _ hh_5 (hN_5) (hle_5) (Or.inl rfl) hg_wr_5 (by have hrm9 := jb_lrem10 ez_14 (by omega) (by have h8 := Int.ediv_le_self (v5_5.toInt) (show (0 : Int) ≤ z_2.toInt by omega); have h7 := hz_13; omega); refine ⟨(by first | (with_reducible assumption) | omega), (by first | (with_reducible assumption) | omega), (by first | (with_reducible assumption) | omega), (by first | (with_reducible assumption) | omega), (by first | (with_reducible assumption) | omega), (by first | (with_reducible assumption) | omega), (by first | (with_reducible assumption) | omega), by omega, by omega, by omega, hi_5_10.step (by omega) (by omega) (by omega), by omega, by omega, ?_⟩; exact hi_5_13.n (by omega) hi_5_10 (hrm9.trans (by rw [hz_13])) (by omega) (by omega) (by omega) (by omega) (by omega)) (by omega) _ (lv_sub hl [3, 4, 5, 1, 0] rfl)
                · skip
                  exact absurd c_40 (by decide)
              · skip
                have c_39' : z_38.toInt = 0 := jb_ne_n (rfl) ((by decide)) c_39
                refine lv_iconst (v := 1) hx hb dX0_number_62 (by decide) ?_
                refine lv_goto (tgt := 67) hx hb dX0_number_63 (by decide) ?_
                refine lv_istore (lv' := [(4, .int 1), (7, .long z_14), (0, .ref r0), (1, .int a1), (2, .long z_2), (5, .long v5_5)]) hx hb dX0_number_67 hl (by decide) rfl (fun ls hl => ?_)
                refine lv_iload hx hb dX0_number_69 (lv_at hl 0 rfl) ?_
                refine lv_if_eq (tgt := 85) hx hb dX0_number_71 (by decide) (fun c_42 => ?_) (fun c_42 => ?_)
                · skip
                  exact absurd c_42 (by decide)
                · skip
                  refine lv_aload_n hx hb dX0_number_74 rfl (lv_at hl 2 rfl) ?_
                  refine lv_ldc2 hx hb hown (htw (.constantLong RX0 48 48) (jWr_24 _ (List.mem_of_getElem? (i := 21) rfl))) dX0_number_75 ?_
                  refine lv_lload hx hb dX0_number_78 (lv_at hl 1 rfl) ?_
                  refine lv_ladd hx hb dX0_number_80 ?_
                  refine lv_topl (fun z_43 ez_43 => ?_)
                  refine lv_l2i hx hb dX0_number_81 rfl ?_
                  refine lv_topi (fun z_44 ez_44 => ?_)
                  have hsz_45 := hh_5.2.2.2.2.2.1
                  have htt_45 := hh_5.2.2.2.2.2.2.1
                  refine W.room (fun hrc_45 hrs_45 => ?_)
                  refine va_callv (A0 := jA base) (H0 := s.heap) (va_runV (As := [.int z_44]) (rest := []) ⟨hx, hb, hml, hown, hts⟩ (uX0_putI l dC dI ca base B hB hAp hB2 hB17 hB196 hB199 Gx_5 H_5 r0 z_44 wc_5 wr_5 m_wr_5 ibx_5 LC LS) (cwV 1 hts (jgV (jWr_24 _ (List.mem_of_getElem? (i := 22) rfl)) (jWr_16 _ (List.mem_of_getElem? (i := 0) rfl)) (jWr_16 _ (List.mem_of_getElem? (i := 1) rfl)) (jWr_1 _ (List.mem_of_getElem? (i := 14) rfl)) (jWr_16 _ (List.mem_of_getElem? (i := 2) rfl))) rfl rfl rfl (by decide +kernel) ⟨by rw [← hR]; exact Nat.le_of_ble_eq_true rfl, by rw [← hR]; exact Nat.le_of_ble_eq_true rfl⟩) ⟨fun a U g mk q => by obtain ⟨q0, q1, q2, qK, q10, q11, q12, q13, q14⟩ := q; exact ⟨q0, q1, q2, jG.calling g mk a qK, q10, q11, q12, q13, q14⟩, hh_5.recv (C := RX0) (T := TX0) (N := 2) hB17 rfl (by decide) hg_6 hK, fun U hU hW => ⟨rfl, hU, hh_5.2.1, hG.step hW hU hh_5.1, hg_6, hg_wr_5, (hh_5.2.2.1.sub (L1 := [(r0, 17, 1, .int wc_5), (r0, 17, 0, .ref wr_5)]) [0, 1] rfl), (hh_5.2.2.2.2.2.2.2.2.sub (L1 := [(jFib, jIB dC dI ca Gx_5 0 ibx_5)]) [1] rfl), (by omega), (by omega), by first | omega | (refine ⟨?_, ?_, ?_, ?_, ?_, ?_⟩ <;> (first | omega | rfl | assumption | decide | exact Or.inl rfl | exact Or.inr rfl | (simp only; omega)))⟩⟩ rfl rfl hl.1 rfl (lv_room (Nat.le_of_ble_eq_true rfl)) dX0_number_82 ⟨by rw [hRc]; omega, by rw [hRs]; omega⟩) hh_5.1 (fun q _ h => h) (fun q h => h) (fun u_45 t_45 H_45 locs_45 ht_45 hvm_45 hr_46 hb_45 hz_45 hk_45 hS_45 => ?_)
                  obtain ⟨qc_45, qa_45, m_qa_45, G_45⟩ := u_45
                  rw [ht_45] at hb_45
                  simp only at hb_45
                  obtain ⟨⟨hb_451, hb_452, hb_453, hb_454, hb_455, hb_456⟩, hgq_45_0, hN_45, hbO_45, hbE_45⟩ := hb_45
                  have hW_45 := hN_45
                  have hh_45 : jSt (dC, dI) B base G0 G_45 EX0_numberI s.heap (zcx_5 + ((m_qa_45 - m_wr_5) / 16)) (zsx_5 + (2 * (m_qa_45 - m_wr_5))) [(r0, 17, 1, .int qc_45), (r0, 17, 0, .ref qa_45)] [] [] H_45 locs_45 := (hh_5.callG hb_451 hb_452 hb_453 hb_454 hb_455 hS_45 rfl (L1 := []) [] rfl rfl (M1 := []) [] rfl rfl (I1 := []) [] rfl rfl).more hb_456
                  have hNn_45 : (jNk [0, 1, 2, 3, 4, 5, 6, 7, 8, 9, 10, 11, 12, 13, 14, 15, 16, 17, 175]) G0 G_45 := (hN_5).tr hN_45
                  have hg_47 := hb_452 _ _ hg_6
                  have hh_48 := hh_45.addIs hbE_45
                  have hd_49 := jOw.tr (hh_5.iv 0 rfl) hh_5.2.2.2.2.1 hbO_45
                  have hh_50 := hh_48.addI (jOw.ie (dC := dC) (dI := dI) (G0 := G0) (k := 17) (r := r0) (H0 := s.heap) (F := [(17, 0), (17, 1)]) (C := RX0) (T := TX0) (N := 2) rfl (by decide) hh_48.2.2.2.2.1 (hd_49))
                  clear hh_48
                  try simp only at hr_46
                  obtain ⟨hr_46_0, hr_46_1, hr_46_2, hr_46_3, hr_46_4, hr_46_5⟩ := hr_46
                  refine lv_lload hx hb dX0_number_85 (lv_at hl 5 rfl) ?_
                  refine lv_ldc2 hx hb hown (htw (.constantLong RX0 46 10) (jWr_24 _ (List.mem_of_getElem? (i := 20) rfl))) dX0_number_87 ?_
                  refine lv_ldiv hx hb dX0_number_90 (by decide) ?_
                  refine lv_topl (fun z_51 ez_51 => ?_)
                  have hz_51 : z_51.toInt = v5_5.toInt / 10 := by rw [ez_51]; exact jb_ldiv (rfl) ((by decide)) (by omega) (by omega)
                  refine lv_lstore (lv' := [(5, .long z_51), (4, .int 1), (7, .long z_14), (0, .ref r0), (1, .int a1), (2, .long z_2)]) hx hb dX0_number_91 hl (by decide) rfl (fun ls hl => ?_)
                  refine lv_goto (tgt := 26) hx hb dX0_number_93 (by decide) ?_
                  refine W.tight (c2 := (zcx_5 + ((m_qa_45 - m_wr_5) / 16))) (n2 := (zsx_5 + (2 * (m_qa_45 - m_wr_5)))) hh_50.2.2.2.2.2.1 hh_50.2.2.2.2.2.2.1 ?_
                  exact L26 G_45 (zcx_5 + ((m_qa_45 - m_wr_5) / 16)) (zsx_5 + (2 * (m_qa_45 - m_wr_5))) 1 z_51 qc_45 qa_45 m_qa_45 (jUf ibx_5 r0 (ibx_5 r0 ++ [z_44.toInt % 256])) (gk - 1) _ _ hh_50 (hNn_45) ((hle_5).tr hb_452) (Or.inr rfl) hgq_45_0 (by have hrm9 := jb_lrem10 ez_14 (by omega) (by have h8 := Int.ediv_le_self (v5_5.toInt) (show (0 : Int) ≤ z_2.toInt by omega); have h7 := hz_13; omega); refine ⟨(by first | (with_reducible assumption) | omega), (by first | (with_reducible assumption) | omega), (by first | (with_reducible assumption) | omega), (by first | (with_reducible assumption) | omega), (by first | (with_reducible assumption) | omega), (by first | (with_reducible assumption) | omega), (by first | (with_reducible assumption) | omega), by omega, by omega, by omega, hi_5_10.step (by omega) (by omega) (by omega), by omega, by omega, ?_⟩; exact hi_5_13.y (by omega) hi_5_10 (hrm9.trans (by rw [hz_13])) (Or.inr (Or.inr (by omega))) (by have h7 := jb_laddx ez_43 (by have h6 : (48 : Int64).toInt = 48 := (by decide); omega) (by have h6 : (48 : Int64).toInt = 48 := (by decide); omega); have h6 : (48 : Int64).toInt = 48 := (by decide); have h8 := jb_l2ix ez_44 (by omega) (by omega); omega) (by omega) rfl (by omega)) (by omega) _ (lv_sub hl [3, 4, 5, 1, 0] rfl)
    refine W.tight (c2 := 0) (n2 := 0) hh_1.2.2.2.2.2.1 hh_1.2.2.2.2.2.2.1 ?_
    exact L26 ((10) : Int).toNat.succ G0 0 0 0 1000000000 pc pa n_pa ib (10) _ _ hh_1 (jNk.rf) (jLe.rf) (Or.inl rfl) hg_pa (⟨(by first | (with_reducible assumption) | omega), (by first | (with_reducible assumption) | omega), (by first | (with_reducible assumption) | omega), (by first | (with_reducible assumption) | omega), (by first | (with_reducible assumption) | omega), (by first | (with_reducible assumption) | omega), (by first | (with_reducible assumption) | omega), by omega, by omega, by omega, jTen.z, by omega, by omega, jiM.z rfl (by omega) (by omega) (by omega)⟩) (by omega) _ (lv_sub hl [3, 4, 2, 1, 0] rfl)
  · skip
    have c_4' : z_3.toInt < 0 := jb_ge_n (rfl) ((by decide)) c_4
    refine lv_aload_n hx hb dX0_number_9 rfl (lv_at hl 1 rfl) ?_
    refine lv_bipush (v := 45) hx hb dX0_number_10 (by decide) ?_
    have hsz_52 := hh_1.2.2.2.2.2.1
    have htt_52 := hh_1.2.2.2.2.2.2.1
    refine W.room (fun hrc_52 hrs_52 => ?_)
    refine va_callv (A0 := jA base) (H0 := s.heap) (va_runV (As := [.int 45]) (rest := []) ⟨hx, hb, hml, hown, hts⟩ (uX0_putI l dC dI ca base B hB hAp hB2 hB17 hB196 hB199 G0 s.heap r0 45 pc pa n_pa ib LC LS) (cwV 1 hts (jgV (jWr_24 _ (List.mem_of_getElem? (i := 22) rfl)) (jWr_16 _ (List.mem_of_getElem? (i := 0) rfl)) (jWr_16 _ (List.mem_of_getElem? (i := 1) rfl)) (jWr_1 _ (List.mem_of_getElem? (i := 14) rfl)) (jWr_16 _ (List.mem_of_getElem? (i := 2) rfl))) rfl rfl rfl (by decide +kernel) ⟨by rw [← hR]; exact Nat.le_of_ble_eq_true rfl, by rw [← hR]; exact Nat.le_of_ble_eq_true rfl⟩) ⟨fun a U g mk q => by obtain ⟨q0, q1, q2, qK, q10, q11, q12, q13, q14⟩ := q; exact ⟨q0, q1, q2, jG.calling g mk a qK, q10, q11, q12, q13, q14⟩, hh_1.recv (C := RX0) (T := TX0) (N := 2) hB17 rfl (by decide) hg_r0 hK, fun U hU hW => ⟨rfl, hU, hh_1.2.1, hG.step hW hU hh_1.1, hg_r0, hg_pa, (hh_1.2.2.1.sub (L1 := [(r0, 17, 1, .int pc), (r0, 17, 0, .ref pa)]) [0, 1] rfl), (hh_1.2.2.2.2.2.2.2.2.sub (L1 := [(jFib, jIB dC dI ca G0 0 ib)]) [1] rfl), (by omega), (by omega), by first | omega | (refine ⟨?_, ?_, ?_, ?_, ?_, ?_⟩ <;> (first | omega | rfl | assumption | decide | exact Or.inl rfl | exact Or.inr rfl | (simp only; omega)))⟩⟩ rfl rfl hl.1 rfl (lv_room (Nat.le_of_ble_eq_true rfl)) dX0_number_12 ⟨by rw [hRc]; omega, by rw [hRs]; omega⟩) hh_1.1 (fun q _ h => h) (fun q h => h) (fun u_52 t_52 H_52 locs_52 ht_52 hvm_52 hr_53 hb_52 hz_52 hk_52 hS_52 => ?_)
    obtain ⟨qc_52, qa_52, m_qa_52, G_52⟩ := u_52
    rw [ht_52] at hb_52
    simp only at hb_52
    obtain ⟨⟨hb_521, hb_522, hb_523, hb_524, hb_525, hb_526⟩, hgq_52_0, hN_52, hbO_52, hbE_52⟩ := hb_52
    have hW_52 := hN_52
    have hh_52 : jSt (dC, dI) B base G0 G_52 EX0_numberI s.heap (0 + ((m_qa_52 - n_pa) / 16)) (0 + (2 * (m_qa_52 - n_pa))) [(r0, 17, 1, .int qc_52), (r0, 17, 0, .ref qa_52)] [] [] H_52 locs_52 := (hh_1.callG hb_521 hb_522 hb_523 hb_524 hb_525 hS_52 rfl (L1 := []) [] rfl rfl (M1 := []) [] rfl rfl (I1 := []) [] rfl rfl).more hb_526
    have hNn_52 : (jNk [0, 1, 2, 3, 4, 5, 6, 7, 8, 9, 10, 11, 12, 13, 14, 15, 16, 17, 175]) G0 G_52 := (jNk.rf).tr hN_52
    have hg_54 := hb_522 _ _ hg_r0
    have hh_55 := hh_52.addIs hbE_52
    have hd_56 := jOw.tr (hh_1.iv 0 rfl) hh_1.2.2.2.2.1 hbO_52
    have hh_57 := hh_55.addI (jOw.ie (dC := dC) (dI := dI) (G0 := G0) (k := 17) (r := r0) (H0 := s.heap) (F := [(17, 0), (17, 1)]) (C := RX0) (T := TX0) (N := 2) rfl (by decide) hh_55.2.2.2.2.1 (hd_56))
    clear hh_55
    try simp only at hr_53
    obtain ⟨hr_53_0, hr_53_1, hr_53_2, hr_53_3, hr_53_4, hr_53_5⟩ := hr_53
    refine lv_lload_n hx hb dX0_number_15 rfl (lv_at hl 0 rfl) ?_
    refine lv_lneg hx hb dX0_number_16 ?_
    refine lv_topl (fun z_58 ez_58 => ?_)
    have hng9 := jb_lnegx ez_58 (by omega) (by omega)
    refine lv_lstore_n (lv' := [(2, .long z_58), (0, .ref r0), (1, .int a1)]) hx hb dX0_number_17 rfl hl (by decide) rfl (fun ls hl => ?_)
    refine lv_iconst (v := 0) hx hb dX0_number_18 (by decide) ?_
    refine lv_istore (lv' := [(4, .int 0), (2, .long z_58), (0, .ref r0), (1, .int a1)]) hx hb dX0_number_19 hl (by decide) rfl (fun ls hl => ?_)
    refine lv_ldc2 hx hb hown (htw (.constantLong RX0 44 1000000000) (jWr_24 _ (List.mem_of_getElem? (i := 19) rfl))) dX0_number_21 ?_
    refine lv_lstore (lv' := [(5, .long 1000000000), (4, .int 0), (2, .long z_58), (0, .ref r0), (1, .int a1)]) hx hb dX0_number_24 hl (by decide) rfl (fun ls hl => ?_)
    have L26 : ∀ (N : Nat) (Gx_59 : jT) (zcx_59 : Nat) (zsx_59 : Nat) (v4_59 : Int32) (v5_59 : Int64) (wc_59 : Int32) (wr_59 : Nat) (m_wr_59 : Nat) (ibx_59 : Nat → List Int) (gk : Int) (H_59 : Heap) (locs_59 : List Loc), jSt (dC, dI) B base G0 Gx_59 EX0_numberI s.heap zcx_59 zsx_59 [(r0, 17, 1, .int wc_59), (r0, 17, 0, .ref wr_59)] [] [([(17, 0), (17, 1)], jOw (dC, dI) G0 17 r0 s.heap), (jFib, jIB dC dI ca Gx_59 0 ibx_59)] H_59 locs_59 → (jNk [0, 1, 2, 3, 4, 5, 6, 7, 8, 9, 10, 11, 12, 13, 14, 15, 16, 17, 175]) G0 Gx_59 → jLe G_52 Gx_59 → (v4_59 = 0 ∨ v4_59 = 1) → Gx_59 wr_59 = some (199, m_wr_59) → (0 ≤ wc_59.toInt ∧ wc_59.toInt ≤ m_wr_59 ∧ n_pa ≤ m_wr_59 ∧ m_wr_59 ≤ 128 ∧ jPw m_wr_59 ∧ zcx_59 ≤ (m_wr_59 - n_pa) / 16 ∧ zsx_59 ≤ 2 * (m_wr_59 - n_pa) ∧ 0 ≤ gk ∧ gk ≤ 10 ∧ wc_59.toInt ≤ pc.toInt + 11 - gk ∧ jTen v5_59.toInt gk ∧ 0 ≤ v4_59.toInt ∧ v4_59.toInt ≤ 1 ∧ jiM ib ibx_59 r0 gk z_58.toInt v4_59.toInt a1.toInt) → (gk : Int) < N → ∀ ls : Array Slot, lv_has ls 9 [(0, .ref r0), (1, .int a1), (2, .long z_58), (4, .int v4_59), (5, .long v5_59)] → W p l e R s m ([.ref r0, .int a1] : List Value).toArray below meth c H_59 locs_59 zcx_59 zsx_59 Q (F0 m 26 ls []) := by
      intro N
      induction N with
      | zero => intro Gx_59 zcx_59 zsx_59 v4_59 v5_59 wc_59 wr_59 m_wr_59 ibx_59 gk H_59 locs_59 hh_59 hN_59 hle_59 hb_v4_59 hg_wr_59 hi_59 hm; exact absurd hm (by omega)
      | succ N L26 =>
        intro Gx_59 zcx_59 zsx_59 v4_59 v5_59 wc_59 wr_59 m_wr_59 ibx_59 gk H_59 locs_59 hh_59 hN_59 hle_59 hb_v4_59 hg_wr_59 hi_59 hm_59 ls hl
        have hg_60 := hle_59 _ _ hg_54
        obtain ⟨hi_59_0, hi_59_1, hi_59_2, hi_59_3, hi_59_4, hi_59_5, hi_59_6, hi_59_7, hi_59_8, hi_59_9, hi_59_10, hi_59_11, hi_59_12, hi_59_13⟩ := hi_59
        have hb_v4_59' := jb_01 hb_v4_59
        refine lv_lload hx hb dX0_number_26 (lv_at hl 4 rfl) ?_
        refine lv_lconst (v := 0) hx hb dX0_number_28 (by decide) ?_
        refine W.lcmp hx hb dX0_number_29 ?_
        refine lv_topi (fun z_61 ez_61 => ?_)
        have hz_61 := jb_lcmp ez_61
        have hqz_61_0 : (0 : Int64).toInt = 0 := by decide
        refine lv_if_le (tgt := 96) hx hb dX0_number_30 (by decide) (fun c_62 => ?_) (fun c_62 => ?_)
        · skip
          have c_62' : z_61.toInt ≤ 0 := jb_le (rfl) ((by decide)) c_62
          have hA_63 : ibx_59 = (jUf ib r0 (ib r0 ++ jpN a1.toInt)) := hi_59_13.e (hi_59_10.zr (by omega))
          have hAe_63 : jIB dC dI ca Gx_59 0 (jUf ib r0 (ib r0 ++ jpN a1.toInt)) H_59 := by rw [← hA_63]; exact hh_59.iv 1 rfl
          have hh_64 := hh_59.sub (L1 := [(r0, 17, 1, .int wc_59), (r0, 17, 0, .ref wr_59)]) [0, 1] rfl (M1 := []) [] rfl (I1 := [([(17, 0), (17, 1)], jOw (dC, dI) G0 17 r0 s.heap)]) [0] rfl
          clear hh_59
          have hh_65 := hh_64.addI (jIB.ie hAe_63)
          clear hh_64
          have hsz_66 := hh_65.2.2.2.2.2.1
          have htt_66 := hh_65.2.2.2.2.2.2.1
          refine W.room (fun hrc_66 hrs_66 => ?_)
          refine W.widen (k := LC - s.heap.size) (n := LS - jTot s.heap) (by omega) (by omega) ?_
          rw [hQ]
          exact W.vret hx hb hr (fun t ht hW => ⟨⟨(wc_59, wr_59, m_wr_59, Gx_59), rfl, by (try dsimp only); exact ⟨(by first | omega | rfl | assumption | fail), (by first | omega | rfl | assumption | fail), (by first | omega | rfl | assumption | fail), (by first | omega | rfl | assumption | fail), (by first | assumption | fail | omega), (by first | omega | rfl | assumption | fail)⟩, ⟨hh_65.ra (by first | (simp only; omega) | omega) (by first | (simp only; omega) | omega) (M1 := [(r0, 17, 1, .int wc_59), (r0, 17, 0, .ref wr_59)]) [0, 1] rfl ht, hg_wr_59, hN_59, by rw [ht]; exact hh_65.iv 1 rfl, by rw [ht]; exact hh_65.2.2.2.2.2.2.2.2.sub (L1 := [(jFib, jIB dC dI ca Gx_59 0 (jUf ib r0 (ib r0 ++ jpN a1.toInt)))]) [0] rfl⟩⟩, by rw [ht]; try exact hh_65.1.1, fun q h9 hq => by rw [ht]; try exact hh_65.1.2.1 q h9 hq⟩) hh_65.1.2.2 dX0_number_96
        · skip
          have c_62' : z_61.toInt > 0 := jb_le_n (rfl) ((by decide)) c_62
          have hk1 := hi_59_10.pos (by omega)
          refine lv_lload_n hx hb dX0_number_33 rfl (lv_at hl 2 rfl) ?_
          refine lv_lload hx hb dX0_number_34 (lv_at hl 4 rfl) ?_
          refine lv_ldiv hx hb dX0_number_36 (jb_lne (by omega)) ?_
          refine lv_topl (fun z_67 ez_67 => ?_)
          have hz_67 : z_67.toInt = z_58.toInt / v5_59.toInt := by rw [ez_67]; exact jb_ldiv (rfl) (rfl) (by omega) (by omega)
          have hbz_67 : 0 ≤ z_67.toInt := by rw [hz_67]; exact Int.ediv_nonneg (by omega) (by omega)
          refine lv_ldc2 hx hb hown (htw (.constantLong RX0 46 10) (jWr_24 _ (List.mem_of_getElem? (i := 20) rfl))) dX0_number_37 ?_
          refine lv_lrem hx hb dX0_number_40 (by decide) ?_
          refine lv_topl (fun z_68 ez_68 => ?_)
          refine lv_lstore (lv' := [(7, .long z_68), (0, .ref r0), (1, .int a1), (2, .long z_58), (4, .int v4_59), (5, .long v5_59)]) hx hb dX0_number_41 hl (by decide) rfl (fun ls hl => ?_)
          refine lv_iload hx hb dX0_number_43 (lv_at hl 4 rfl) ?_
          refine lv_if_ne (tgt := 62) hx hb dX0_number_45 (by decide) (fun c_69 => ?_) (fun c_69 => ?_)
          · skip
            have c_69' : v4_59.toInt ≠ 0 := jb_ne (rfl) ((by decide)) c_69
            refine lv_iconst (v := 1) hx hb dX0_number_62 (by decide) ?_
            refine lv_goto (tgt := 67) hx hb dX0_number_63 (by decide) ?_
            refine lv_istore (lv' := [(4, .int 1), (7, .long z_68), (0, .ref r0), (1, .int a1), (2, .long z_58), (5, .long v5_59)]) hx hb dX0_number_67 hl (by decide) rfl (fun ls hl => ?_)
            refine lv_iload hx hb dX0_number_69 (lv_at hl 0 rfl) ?_
            refine lv_if_eq (tgt := 85) hx hb dX0_number_71 (by decide) (fun c_70 => ?_) (fun c_70 => ?_)
            · skip
              exact absurd c_70 (by decide)
            · skip
              refine lv_aload_n hx hb dX0_number_74 rfl (lv_at hl 2 rfl) ?_
              refine lv_ldc2 hx hb hown (htw (.constantLong RX0 48 48) (jWr_24 _ (List.mem_of_getElem? (i := 21) rfl))) dX0_number_75 ?_
              refine lv_lload hx hb dX0_number_78 (lv_at hl 1 rfl) ?_
              refine lv_ladd hx hb dX0_number_80 ?_
              refine lv_topl (fun z_71 ez_71 => ?_)
              refine lv_l2i hx hb dX0_number_81 rfl ?_
              refine lv_topi (fun z_72 ez_72 => ?_)
              have hsz_73 := hh_59.2.2.2.2.2.1
              have htt_73 := hh_59.2.2.2.2.2.2.1
              refine W.room (fun hrc_73 hrs_73 => ?_)
              refine va_callv (A0 := jA base) (H0 := s.heap) (va_runV (As := [.int z_72]) (rest := []) ⟨hx, hb, hml, hown, hts⟩ (uX0_putI l dC dI ca base B hB hAp hB2 hB17 hB196 hB199 Gx_59 H_59 r0 z_72 wc_59 wr_59 m_wr_59 ibx_59 LC LS) (cwV 1 hts (jgV (jWr_24 _ (List.mem_of_getElem? (i := 22) rfl)) (jWr_16 _ (List.mem_of_getElem? (i := 0) rfl)) (jWr_16 _ (List.mem_of_getElem? (i := 1) rfl)) (jWr_1 _ (List.mem_of_getElem? (i := 14) rfl)) (jWr_16 _ (List.mem_of_getElem? (i := 2) rfl))) rfl rfl rfl (by decide +kernel) ⟨by rw [← hR]; exact Nat.le_of_ble_eq_true rfl, by rw [← hR]; exact Nat.le_of_ble_eq_true rfl⟩) ⟨fun a U g mk q => by obtain ⟨q0, q1, q2, qK, q10, q11, q12, q13, q14⟩ := q; exact ⟨q0, q1, q2, jG.calling g mk a qK, q10, q11, q12, q13, q14⟩, hh_59.recv (C := RX0) (T := TX0) (N := 2) hB17 rfl (by decide) hg_60 hK, fun U hU hW => ⟨rfl, hU, hh_59.2.1, hG.step hW hU hh_59.1, hg_60, hg_wr_59, (hh_59.2.2.1.sub (L1 := [(r0, 17, 1, .int wc_59), (r0, 17, 0, .ref wr_59)]) [0, 1] rfl), (hh_59.2.2.2.2.2.2.2.2.sub (L1 := [(jFib, jIB dC dI ca Gx_59 0 ibx_59)]) [1] rfl), (by omega), (by omega), by first | omega | (refine ⟨?_, ?_, ?_, ?_, ?_, ?_⟩ <;> (first | omega | rfl | assumption | decide | exact Or.inl rfl | exact Or.inr rfl | (simp only; omega)))⟩⟩ rfl rfl hl.1 rfl (lv_room (Nat.le_of_ble_eq_true rfl)) dX0_number_82 ⟨by rw [hRc]; omega, by rw [hRs]; omega⟩) hh_59.1 (fun q _ h => h) (fun q h => h) (fun u_73 t_73 H_73 locs_73 ht_73 hvm_73 hr_74 hb_73 hz_73 hk_73 hS_73 => ?_)
              obtain ⟨qc_73, qa_73, m_qa_73, G_73⟩ := u_73
              rw [ht_73] at hb_73
              simp only at hb_73
              obtain ⟨⟨hb_731, hb_732, hb_733, hb_734, hb_735, hb_736⟩, hgq_73_0, hN_73, hbO_73, hbE_73⟩ := hb_73
              have hW_73 := hN_73
              have hh_73 : jSt (dC, dI) B base G0 G_73 EX0_numberI s.heap (zcx_59 + ((m_qa_73 - m_wr_59) / 16)) (zsx_59 + (2 * (m_qa_73 - m_wr_59))) [(r0, 17, 1, .int qc_73), (r0, 17, 0, .ref qa_73)] [] [] H_73 locs_73 := (hh_59.callG hb_731 hb_732 hb_733 hb_734 hb_735 hS_73 rfl (L1 := []) [] rfl rfl (M1 := []) [] rfl rfl (I1 := []) [] rfl rfl).more hb_736
              have hNn_73 : (jNk [0, 1, 2, 3, 4, 5, 6, 7, 8, 9, 10, 11, 12, 13, 14, 15, 16, 17, 175]) G0 G_73 := (hN_59).tr hN_73
              have hg_75 := hb_732 _ _ hg_60
              have hh_76 := hh_73.addIs hbE_73
              have hd_77 := jOw.tr (hh_59.iv 0 rfl) hh_59.2.2.2.2.1 hbO_73
              have hh_78 := hh_76.addI (jOw.ie (dC := dC) (dI := dI) (G0 := G0) (k := 17) (r := r0) (H0 := s.heap) (F := [(17, 0), (17, 1)]) (C := RX0) (T := TX0) (N := 2) rfl (by decide) hh_76.2.2.2.2.1 (hd_77))
              clear hh_76
              try simp only at hr_74
              obtain ⟨hr_74_0, hr_74_1, hr_74_2, hr_74_3, hr_74_4, hr_74_5⟩ := hr_74
              refine lv_lload hx hb dX0_number_85 (lv_at hl 5 rfl) ?_
              refine lv_ldc2 hx hb hown (htw (.constantLong RX0 46 10) (jWr_24 _ (List.mem_of_getElem? (i := 20) rfl))) dX0_number_87 ?_
              refine lv_ldiv hx hb dX0_number_90 (by decide) ?_
              refine lv_topl (fun z_79 ez_79 => ?_)
              have hz_79 : z_79.toInt = v5_59.toInt / 10 := by rw [ez_79]; exact jb_ldiv (rfl) ((by decide)) (by omega) (by omega)
              refine lv_lstore (lv' := [(5, .long z_79), (4, .int 1), (7, .long z_68), (0, .ref r0), (1, .int a1), (2, .long z_58)]) hx hb dX0_number_91 hl (by decide) rfl (fun ls hl => ?_)
              refine lv_goto (tgt := 26) hx hb dX0_number_93 (by decide) ?_
              refine W.tight (c2 := (zcx_59 + ((m_qa_73 - m_wr_59) / 16))) (n2 := (zsx_59 + (2 * (m_qa_73 - m_wr_59)))) hh_78.2.2.2.2.2.1 hh_78.2.2.2.2.2.2.1 ?_
              exact L26 G_73 (zcx_59 + ((m_qa_73 - m_wr_59) / 16)) (zsx_59 + (2 * (m_qa_73 - m_wr_59))) 1 z_79 qc_73 qa_73 m_qa_73 (jUf ibx_59 r0 (ibx_59 r0 ++ [z_72.toInt % 256])) (gk - 1) _ _ hh_78 (hNn_73) ((hle_59).tr hb_732) (Or.inr rfl) hgq_73_0 (by have hrm9 := jb_lrem10 ez_68 (by omega) (by have h8 := Int.ediv_le_self (v5_59.toInt) (show (0 : Int) ≤ z_58.toInt by omega); have h7 := hz_67; omega); refine ⟨(by first | (with_reducible assumption) | omega), (by first | (with_reducible assumption) | omega), (by first | (with_reducible assumption) | omega), (by first | (with_reducible assumption) | omega), (by first | (with_reducible assumption) | omega), (by first | (with_reducible assumption) | omega), (by first | (with_reducible assumption) | omega), by omega, by omega, by omega, hi_59_10.step (by omega) (by omega) (by omega), by omega, by omega, ?_⟩; exact hi_59_13.y (by omega) hi_59_10 (hrm9.trans (by rw [hz_67])) (Or.inl (by omega)) (by have h7 := jb_laddx ez_71 (by have h6 : (48 : Int64).toInt = 48 := (by decide); omega) (by have h6 : (48 : Int64).toInt = 48 := (by decide); omega); have h6 : (48 : Int64).toInt = 48 := (by decide); have h8 := jb_l2ix ez_72 (by omega) (by omega); omega) (by omega) rfl (by omega)) (by omega) _ (lv_sub hl [3, 4, 5, 1, 0] rfl)
          · skip
            have c_69' : v4_59.toInt = 0 := jb_ne_n (rfl) ((by decide)) c_69
            refine lv_lload hx hb dX0_number_48 (lv_at hl 0 rfl) ?_
            refine lv_lconst (v := 0) hx hb dX0_number_50 (by decide) ?_
            refine W.lcmp hx hb dX0_number_51 ?_
            refine lv_topi (fun z_80 ez_80 => ?_)
            have hz_80 := jb_lcmp ez_80
            have hqz_80_0 : (0 : Int64).toInt = 0 := by decide
            refine lv_if_gt (tgt := 62) hx hb dX0_number_52 (by decide) (fun c_81 => ?_) (fun c_81 => ?_)
            · skip
              have c_81' : z_80.toInt > 0 := jb_gt (rfl) ((by decide)) c_81
              refine lv_iconst (v := 1) hx hb dX0_number_62 (by decide) ?_
              refine lv_goto (tgt := 67) hx hb dX0_number_63 (by decide) ?_
              refine lv_istore (lv' := [(4, .int 1), (7, .long z_68), (0, .ref r0), (1, .int a1), (2, .long z_58), (5, .long v5_59)]) hx hb dX0_number_67 hl (by decide) rfl (fun ls hl => ?_)
              refine lv_iload hx hb dX0_number_69 (lv_at hl 0 rfl) ?_
              refine lv_if_eq (tgt := 85) hx hb dX0_number_71 (by decide) (fun c_82 => ?_) (fun c_82 => ?_)
              · skip
                exact absurd c_82 (by decide)
              · skip
                refine lv_aload_n hx hb dX0_number_74 rfl (lv_at hl 2 rfl) ?_
                refine lv_ldc2 hx hb hown (htw (.constantLong RX0 48 48) (jWr_24 _ (List.mem_of_getElem? (i := 21) rfl))) dX0_number_75 ?_
                refine lv_lload hx hb dX0_number_78 (lv_at hl 1 rfl) ?_
                refine lv_ladd hx hb dX0_number_80 ?_
                refine lv_topl (fun z_83 ez_83 => ?_)
                refine lv_l2i hx hb dX0_number_81 rfl ?_
                refine lv_topi (fun z_84 ez_84 => ?_)
                have hsz_85 := hh_59.2.2.2.2.2.1
                have htt_85 := hh_59.2.2.2.2.2.2.1
                refine W.room (fun hrc_85 hrs_85 => ?_)
                refine va_callv (A0 := jA base) (H0 := s.heap) (va_runV (As := [.int z_84]) (rest := []) ⟨hx, hb, hml, hown, hts⟩ (uX0_putI l dC dI ca base B hB hAp hB2 hB17 hB196 hB199 Gx_59 H_59 r0 z_84 wc_59 wr_59 m_wr_59 ibx_59 LC LS) (cwV 1 hts (jgV (jWr_24 _ (List.mem_of_getElem? (i := 22) rfl)) (jWr_16 _ (List.mem_of_getElem? (i := 0) rfl)) (jWr_16 _ (List.mem_of_getElem? (i := 1) rfl)) (jWr_1 _ (List.mem_of_getElem? (i := 14) rfl)) (jWr_16 _ (List.mem_of_getElem? (i := 2) rfl))) rfl rfl rfl (by decide +kernel) ⟨by rw [← hR]; exact Nat.le_of_ble_eq_true rfl, by rw [← hR]; exact Nat.le_of_ble_eq_true rfl⟩) ⟨fun a U g mk q => by obtain ⟨q0, q1, q2, qK, q10, q11, q12, q13, q14⟩ := q; exact ⟨q0, q1, q2, jG.calling g mk a qK, q10, q11, q12, q13, q14⟩, hh_59.recv (C := RX0) (T := TX0) (N := 2) hB17 rfl (by decide) hg_60 hK, fun U hU hW => ⟨rfl, hU, hh_59.2.1, hG.step hW hU hh_59.1, hg_60, hg_wr_59, (hh_59.2.2.1.sub (L1 := [(r0, 17, 1, .int wc_59), (r0, 17, 0, .ref wr_59)]) [0, 1] rfl), (hh_59.2.2.2.2.2.2.2.2.sub (L1 := [(jFib, jIB dC dI ca Gx_59 0 ibx_59)]) [1] rfl), (by omega), (by omega), by first | omega | (refine ⟨?_, ?_, ?_, ?_, ?_, ?_⟩ <;> (first | omega | rfl | assumption | decide | exact Or.inl rfl | exact Or.inr rfl | (simp only; omega)))⟩⟩ rfl rfl hl.1 rfl (lv_room (Nat.le_of_ble_eq_true rfl)) dX0_number_82 ⟨by rw [hRc]; omega, by rw [hRs]; omega⟩) hh_59.1 (fun q _ h => h) (fun q h => h) (fun u_85 t_85 H_85 locs_85 ht_85 hvm_85 hr_86 hb_85 hz_85 hk_85 hS_85 => ?_)
                obtain ⟨qc_85, qa_85, m_qa_85, G_85⟩ := u_85
                rw [ht_85] at hb_85
                simp only at hb_85
                obtain ⟨⟨hb_851, hb_852, hb_853, hb_854, hb_855, hb_856⟩, hgq_85_0, hN_85, hbO_85, hbE_85⟩ := hb_85
                have hW_85 := hN_85
                have hh_85 : jSt (dC, dI) B base G0 G_85 EX0_numberI s.heap (zcx_59 + ((m_qa_85 - m_wr_59) / 16)) (zsx_59 + (2 * (m_qa_85 - m_wr_59))) [(r0, 17, 1, .int qc_85), (r0, 17, 0, .ref qa_85)] [] [] H_85 locs_85 := (hh_59.callG hb_851 hb_852 hb_853 hb_854 hb_855 hS_85 rfl (L1 := []) [] rfl rfl (M1 := []) [] rfl rfl (I1 := []) [] rfl rfl).more hb_856
                have hNn_85 : (jNk [0, 1, 2, 3, 4, 5, 6, 7, 8, 9, 10, 11, 12, 13, 14, 15, 16, 17, 175]) G0 G_85 := (hN_59).tr hN_85
                have hg_87 := hb_852 _ _ hg_60
                have hh_88 := hh_85.addIs hbE_85
                have hd_89 := jOw.tr (hh_59.iv 0 rfl) hh_59.2.2.2.2.1 hbO_85
                have hh_90 := hh_88.addI (jOw.ie (dC := dC) (dI := dI) (G0 := G0) (k := 17) (r := r0) (H0 := s.heap) (F := [(17, 0), (17, 1)]) (C := RX0) (T := TX0) (N := 2) rfl (by decide) hh_88.2.2.2.2.1 (hd_89))
                clear hh_88
                try simp only at hr_86
                obtain ⟨hr_86_0, hr_86_1, hr_86_2, hr_86_3, hr_86_4, hr_86_5⟩ := hr_86
                refine lv_lload hx hb dX0_number_85 (lv_at hl 5 rfl) ?_
                refine lv_ldc2 hx hb hown (htw (.constantLong RX0 46 10) (jWr_24 _ (List.mem_of_getElem? (i := 20) rfl))) dX0_number_87 ?_
                refine lv_ldiv hx hb dX0_number_90 (by decide) ?_
                refine lv_topl (fun z_91 ez_91 => ?_)
                have hz_91 : z_91.toInt = v5_59.toInt / 10 := by rw [ez_91]; exact jb_ldiv (rfl) ((by decide)) (by omega) (by omega)
                refine lv_lstore (lv' := [(5, .long z_91), (4, .int 1), (7, .long z_68), (0, .ref r0), (1, .int a1), (2, .long z_58)]) hx hb dX0_number_91 hl (by decide) rfl (fun ls hl => ?_)
                refine lv_goto (tgt := 26) hx hb dX0_number_93 (by decide) ?_
                refine W.tight (c2 := (zcx_59 + ((m_qa_85 - m_wr_59) / 16))) (n2 := (zsx_59 + (2 * (m_qa_85 - m_wr_59)))) hh_90.2.2.2.2.2.1 hh_90.2.2.2.2.2.2.1 ?_
                exact L26 G_85 (zcx_59 + ((m_qa_85 - m_wr_59) / 16)) (zsx_59 + (2 * (m_qa_85 - m_wr_59))) 1 z_91 qc_85 qa_85 m_qa_85 (jUf ibx_59 r0 (ibx_59 r0 ++ [z_84.toInt % 256])) (gk - 1) _ _ hh_90 (hNn_85) ((hle_59).tr hb_852) (Or.inr rfl) hgq_85_0 (by have hrm9 := jb_lrem10 ez_68 (by omega) (by have h8 := Int.ediv_le_self (v5_59.toInt) (show (0 : Int) ≤ z_58.toInt by omega); have h7 := hz_67; omega); refine ⟨(by first | (with_reducible assumption) | omega), (by first | (with_reducible assumption) | omega), (by first | (with_reducible assumption) | omega), (by first | (with_reducible assumption) | omega), (by first | (with_reducible assumption) | omega), (by first | (with_reducible assumption) | omega), (by first | (with_reducible assumption) | omega), by omega, by omega, by omega, hi_59_10.step (by omega) (by omega) (by omega), by omega, by omega, ?_⟩; exact hi_59_13.y (by omega) hi_59_10 (hrm9.trans (by rw [hz_67])) (Or.inr (Or.inl (by omega))) (by have h7 := jb_laddx ez_83 (by have h6 : (48 : Int64).toInt = 48 := (by decide); omega) (by have h6 : (48 : Int64).toInt = 48 := (by decide); omega); have h6 : (48 : Int64).toInt = 48 := (by decide); have h8 := jb_l2ix ez_84 (by omega) (by omega); omega) (by omega) rfl (by omega)) (by omega) _ (lv_sub hl [3, 4, 5, 1, 0] rfl)
            · skip
              have c_81' : z_80.toInt ≤ 0 := jb_gt_n (rfl) ((by decide)) c_81
              refine lv_lload hx hb dX0_number_55 (lv_at hl 5 rfl) ?_
              refine lv_lconst (v := 1) hx hb dX0_number_57 (by decide) ?_
              refine W.lcmp hx hb dX0_number_58 ?_
              refine lv_topi (fun z_92 ez_92 => ?_)
              have hz_92 := jb_lcmp ez_92
              have hqz_92_1 : (1 : Int64).toInt = 1 := by decide
              refine lv_if_ne (tgt := 66) hx hb dX0_number_59 (by decide) (fun c_93 => ?_) (fun c_93 => ?_)
              · skip
                have c_93' : z_92.toInt ≠ 0 := jb_ne (rfl) ((by decide)) c_93
                refine lv_iconst (v := 0) hx hb dX0_number_66 (by decide) ?_
                refine lv_istore (lv' := [(4, .int 0), (7, .long z_68), (0, .ref r0), (1, .int a1), (2, .long z_58), (5, .long v5_59)]) hx hb dX0_number_67 hl (by decide) rfl (fun ls hl => ?_)
                refine lv_iload hx hb dX0_number_69 (lv_at hl 0 rfl) ?_
                refine lv_if_eq (tgt := 85) hx hb dX0_number_71 (by decide) (fun c_94 => ?_) (fun c_94 => ?_)
                · skip
                  refine lv_lload hx hb dX0_number_85 (lv_at hl 5 rfl) ?_
                  refine lv_ldc2 hx hb hown (htw (.constantLong RX0 46 10) (jWr_24 _ (List.mem_of_getElem? (i := 20) rfl))) dX0_number_87 ?_
                  refine lv_ldiv hx hb dX0_number_90 (by decide) ?_
                  refine lv_topl (fun z_95 ez_95 => ?_)
                  have hz_95 : z_95.toInt = v5_59.toInt / 10 := by rw [ez_95]; exact jb_ldiv (rfl) ((by decide)) (by omega) (by omega)
                  refine lv_lstore (lv' := [(5, .long z_95), (4, .int 0), (7, .long z_68), (0, .ref r0), (1, .int a1), (2, .long z_58)]) hx hb dX0_number_91 hl (by decide) rfl (fun ls hl => ?_)
                  refine lv_goto (tgt := 26) hx hb dX0_number_93 (by decide) ?_
                  refine W.tight (c2 := zcx_59) (n2 := zsx_59) hh_59.2.2.2.2.2.1 hh_59.2.2.2.2.2.2.1 ?_
                  exact L26 Gx_59 zcx_59 zsx_59 0 z_95 wc_59 wr_59 m_wr_59 ibx_59 (gk - 1) _ _ hh_59 (hN_59) (hle_59) (Or.inl rfl) hg_wr_59 (by have hrm9 := jb_lrem10 ez_68 (by omega) (by have h8 := Int.ediv_le_self (v5_59.toInt) (show (0 : Int) ≤ z_58.toInt by omega); have h7 := hz_67; omega); refine ⟨(by first | (with_reducible assumption) | omega), (by first | (with_reducible assumption) | omega), (by first | (with_reducible assumption) | omega), (by first | (with_reducible assumption) | omega), (by first | (with_reducible assumption) | omega), (by first | (with_reducible assumption) | omega), (by first | (with_reducible assumption) | omega), by omega, by omega, by omega, hi_59_10.step (by omega) (by omega) (by omega), by omega, by omega, ?_⟩; exact hi_59_13.n (by omega) hi_59_10 (hrm9.trans (by rw [hz_67])) (by omega) (by omega) (by omega) (by omega) (by omega)) (by omega) _ (lv_sub hl [3, 4, 5, 1, 0] rfl)
                · skip
                  exact absurd c_94 (by decide)
              · skip
                have c_93' : z_92.toInt = 0 := jb_ne_n (rfl) ((by decide)) c_93
                refine lv_iconst (v := 1) hx hb dX0_number_62 (by decide) ?_
                refine lv_goto (tgt := 67) hx hb dX0_number_63 (by decide) ?_
                refine lv_istore (lv' := [(4, .int 1), (7, .long z_68), (0, .ref r0), (1, .int a1), (2, .long z_58), (5, .long v5_59)]) hx hb dX0_number_67 hl (by decide) rfl (fun ls hl => ?_)
                refine lv_iload hx hb dX0_number_69 (lv_at hl 0 rfl) ?_
                refine lv_if_eq (tgt := 85) hx hb dX0_number_71 (by decide) (fun c_96 => ?_) (fun c_96 => ?_)
                · skip
                  exact absurd c_96 (by decide)
                · skip
                  refine lv_aload_n hx hb dX0_number_74 rfl (lv_at hl 2 rfl) ?_
                  refine lv_ldc2 hx hb hown (htw (.constantLong RX0 48 48) (jWr_24 _ (List.mem_of_getElem? (i := 21) rfl))) dX0_number_75 ?_
                  refine lv_lload hx hb dX0_number_78 (lv_at hl 1 rfl) ?_
                  refine lv_ladd hx hb dX0_number_80 ?_
                  refine lv_topl (fun z_97 ez_97 => ?_)
                  refine lv_l2i hx hb dX0_number_81 rfl ?_
                  refine lv_topi (fun z_98 ez_98 => ?_)
                  have hsz_99 := hh_59.2.2.2.2.2.1
                  have htt_99 := hh_59.2.2.2.2.2.2.1
                  refine W.room (fun hrc_99 hrs_99 => ?_)
                  refine va_callv (A0 := jA base) (H0 := s.heap) (va_runV (As := [.int z_98]) (rest := []) ⟨hx, hb, hml, hown, hts⟩ (uX0_putI l dC dI ca base B hB hAp hB2 hB17 hB196 hB199 Gx_59 H_59 r0 z_98 wc_59 wr_59 m_wr_59 ibx_59 LC LS) (cwV 1 hts (jgV (jWr_24 _ (List.mem_of_getElem? (i := 22) rfl)) (jWr_16 _ (List.mem_of_getElem? (i := 0) rfl)) (jWr_16 _ (List.mem_of_getElem? (i := 1) rfl)) (jWr_1 _ (List.mem_of_getElem? (i := 14) rfl)) (jWr_16 _ (List.mem_of_getElem? (i := 2) rfl))) rfl rfl rfl (by decide +kernel) ⟨by rw [← hR]; exact Nat.le_of_ble_eq_true rfl, by rw [← hR]; exact Nat.le_of_ble_eq_true rfl⟩) ⟨fun a U g mk q => by obtain ⟨q0, q1, q2, qK, q10, q11, q12, q13, q14⟩ := q; exact ⟨q0, q1, q2, jG.calling g mk a qK, q10, q11, q12, q13, q14⟩, hh_59.recv (C := RX0) (T := TX0) (N := 2) hB17 rfl (by decide) hg_60 hK, fun U hU hW => ⟨rfl, hU, hh_59.2.1, hG.step hW hU hh_59.1, hg_60, hg_wr_59, (hh_59.2.2.1.sub (L1 := [(r0, 17, 1, .int wc_59), (r0, 17, 0, .ref wr_59)]) [0, 1] rfl), (hh_59.2.2.2.2.2.2.2.2.sub (L1 := [(jFib, jIB dC dI ca Gx_59 0 ibx_59)]) [1] rfl), (by omega), (by omega), by first | omega | (refine ⟨?_, ?_, ?_, ?_, ?_, ?_⟩ <;> (first | omega | rfl | assumption | decide | exact Or.inl rfl | exact Or.inr rfl | (simp only; omega)))⟩⟩ rfl rfl hl.1 rfl (lv_room (Nat.le_of_ble_eq_true rfl)) dX0_number_82 ⟨by rw [hRc]; omega, by rw [hRs]; omega⟩) hh_59.1 (fun q _ h => h) (fun q h => h) (fun u_99 t_99 H_99 locs_99 ht_99 hvm_99 hr_100 hb_99 hz_99 hk_99 hS_99 => ?_)
                  obtain ⟨qc_99, qa_99, m_qa_99, G_99⟩ := u_99
                  rw [ht_99] at hb_99
                  simp only at hb_99
                  obtain ⟨⟨hb_991, hb_992, hb_993, hb_994, hb_995, hb_996⟩, hgq_99_0, hN_99, hbO_99, hbE_99⟩ := hb_99
                  have hW_99 := hN_99
                  have hh_99 : jSt (dC, dI) B base G0 G_99 EX0_numberI s.heap (zcx_59 + ((m_qa_99 - m_wr_59) / 16)) (zsx_59 + (2 * (m_qa_99 - m_wr_59))) [(r0, 17, 1, .int qc_99), (r0, 17, 0, .ref qa_99)] [] [] H_99 locs_99 := (hh_59.callG hb_991 hb_992 hb_993 hb_994 hb_995 hS_99 rfl (L1 := []) [] rfl rfl (M1 := []) [] rfl rfl (I1 := []) [] rfl rfl).more hb_996
                  have hNn_99 : (jNk [0, 1, 2, 3, 4, 5, 6, 7, 8, 9, 10, 11, 12, 13, 14, 15, 16, 17, 175]) G0 G_99 := (hN_59).tr hN_99
                  have hg_101 := hb_992 _ _ hg_60
                  have hh_102 := hh_99.addIs hbE_99
                  have hd_103 := jOw.tr (hh_59.iv 0 rfl) hh_59.2.2.2.2.1 hbO_99
                  have hh_104 := hh_102.addI (jOw.ie (dC := dC) (dI := dI) (G0 := G0) (k := 17) (r := r0) (H0 := s.heap) (F := [(17, 0), (17, 1)]) (C := RX0) (T := TX0) (N := 2) rfl (by decide) hh_102.2.2.2.2.1 (hd_103))
                  clear hh_102
                  try simp only at hr_100
                  obtain ⟨hr_100_0, hr_100_1, hr_100_2, hr_100_3, hr_100_4, hr_100_5⟩ := hr_100
                  refine lv_lload hx hb dX0_number_85 (lv_at hl 5 rfl) ?_
                  refine lv_ldc2 hx hb hown (htw (.constantLong RX0 46 10) (jWr_24 _ (List.mem_of_getElem? (i := 20) rfl))) dX0_number_87 ?_
                  refine lv_ldiv hx hb dX0_number_90 (by decide) ?_
                  refine lv_topl (fun z_105 ez_105 => ?_)
                  have hz_105 : z_105.toInt = v5_59.toInt / 10 := by rw [ez_105]; exact jb_ldiv (rfl) ((by decide)) (by omega) (by omega)
                  refine lv_lstore (lv' := [(5, .long z_105), (4, .int 1), (7, .long z_68), (0, .ref r0), (1, .int a1), (2, .long z_58)]) hx hb dX0_number_91 hl (by decide) rfl (fun ls hl => ?_)
                  refine lv_goto (tgt := 26) hx hb dX0_number_93 (by decide) ?_
                  refine W.tight (c2 := (zcx_59 + ((m_qa_99 - m_wr_59) / 16))) (n2 := (zsx_59 + (2 * (m_qa_99 - m_wr_59)))) hh_104.2.2.2.2.2.1 hh_104.2.2.2.2.2.2.1 ?_
                  exact L26 G_99 (zcx_59 + ((m_qa_99 - m_wr_59) / 16)) (zsx_59 + (2 * (m_qa_99 - m_wr_59))) 1 z_105 qc_99 qa_99 m_qa_99 (jUf ibx_59 r0 (ibx_59 r0 ++ [z_98.toInt % 256])) (gk - 1) _ _ hh_104 (hNn_99) ((hle_59).tr hb_992) (Or.inr rfl) hgq_99_0 (by have hrm9 := jb_lrem10 ez_68 (by omega) (by have h8 := Int.ediv_le_self (v5_59.toInt) (show (0 : Int) ≤ z_58.toInt by omega); have h7 := hz_67; omega); refine ⟨(by first | (with_reducible assumption) | omega), (by first | (with_reducible assumption) | omega), (by first | (with_reducible assumption) | omega), (by first | (with_reducible assumption) | omega), (by first | (with_reducible assumption) | omega), (by first | (with_reducible assumption) | omega), (by first | (with_reducible assumption) | omega), by omega, by omega, by omega, hi_59_10.step (by omega) (by omega) (by omega), by omega, by omega, ?_⟩; exact hi_59_13.y (by omega) hi_59_10 (hrm9.trans (by rw [hz_67])) (Or.inr (Or.inr (by omega))) (by have h7 := jb_laddx ez_97 (by have h6 : (48 : Int64).toInt = 48 := (by decide); omega) (by have h6 : (48 : Int64).toInt = 48 := (by decide); omega); have h6 : (48 : Int64).toInt = 48 := (by decide); have h8 := jb_l2ix ez_98 (by omega) (by omega); omega) (by omega) rfl (by omega)) (by omega) _ (lv_sub hl [3, 4, 5, 1, 0] rfl)
    refine W.tight (c2 := (0 + ((m_qa_52 - n_pa) / 16))) (n2 := (0 + (2 * (m_qa_52 - n_pa)))) hh_57.2.2.2.2.2.1 hh_57.2.2.2.2.2.2.1 ?_
    exact L26 ((10) : Int).toNat.succ G_52 (0 + ((m_qa_52 - n_pa) / 16)) (0 + (2 * (m_qa_52 - n_pa))) 0 1000000000 qc_52 qa_52 m_qa_52 (jUf ib r0 (ib r0 ++ [45 % 256])) (10) _ _ hh_57 (hNn_52) (jLe.rf) (Or.inl rfl) hgq_52_0 (⟨(by first | (with_reducible assumption) | omega), (by first | (with_reducible assumption) | omega), (by first | (with_reducible assumption) | omega), (by first | (with_reducible assumption) | omega), (by first | (with_reducible assumption) | omega), (by first | (with_reducible assumption) | omega), (by first | (with_reducible assumption) | omega), by omega, by omega, by omega, jTen.z, by omega, by omega, jiM.m rfl hk45 rfl (by have h9 := jb_lnegx ez_58 (by omega) (by omega); omega) (by omega) (by omega)⟩) (by omega) _ (lv_sub hl [3, 4, 2, 1, 0] rfl)
set_option maxHeartbeats 4000000 in
set_option maxRecDepth 20000 in
theorem uX0_quotedI (l : Launch) (dC : Nat → ClassId) (dI : Nat → Nat → Nat) (ca : Nat → ClassId) (base : Nat) (B : jF) (hB : jBok B) (hAp : jAp (dC, dI)) (hB2 : ∀ n G a H, B 2 n G a H ↔ jOb (dC, dI) 2 2 (F2 n G) a H) (hB17 : ∀ n G a H, B 17 n G a H ↔ jOb (dC, dI) 17 2 (F17 n G) a H) (hB174 : ∀ n G a H, B 174 n G a H ↔ jAr (dC, dI) (ca 1) (fun j z => True) n a H) (hB196 : ∀ n G a H, B 196 n G a H ↔ jAr (dC, dI) (ca 0) (fun j z => jBf j z) n a H) (hB199 : ∀ n G a H, B 199 n G a H ↔ jAr (dC, dI) (ca 0) (fun j z => jBf j z) n a H) (G0 : jT) (H0 : Heap) (r0 : Nat) (r1 : Nat) (a2 : Int32) (a3 : Int32) (n1 : Nat) (pc : Int32) (pa : Nat) (n_pa : Nat) (ib : Nat → List Int) (f1 : Nat → Int32) (LC LS : Nat) : Met l yX0_quoted (jw yX0_quoted cX0_quoted 7 none) ({ frames := 5, cells := LC - H0.size, slots := LS - jTot H0, locals := 163 }) (va_Pc [.ref r0, .ref r1, .int a2, .int a3] (fun U => U.heap = H0 ∧ jX B base G0 [] H0 ∧ jG dC dI ca base U ∧ G0 r0 = some (17, 0) ∧ G0 r1 = some (174, n1) ∧ G0 pa = some (199, n_pa) ∧ jP (dC, dI) G0 H0 [(r0, 17, 1, .int pc), (r0, 17, 0, .ref pa)] ∧ jMc (dC, dI) G0 H0 [(r1, 174, n1, ca 1, f1)] ∧ jIs (dC, dI) G0 H0 [(jFib, jIB dC dI ca G0 0 ib)] ∧ H0.size + (128 - n_pa) / 16 + 1 ≤ LC ∧ jTot H0 + 2 * (128 - n_pa) ≤ LS ∧ 0 ≤ pc.toInt ∧ pc.toInt ≤ n_pa ∧ 16 ≤ n_pa ∧ n_pa ≤ 128 ∧ jPw n_pa ∧ n1 ≤ 20 ∧ a2.toInt = 0 ∧ a3.toInt = n1 ∧ pc.toInt = 0 ∧ jpW (jcL f1 n1 0))) (va_Qv (S := Int32 × Nat × Nat × jT) (fun u => 0 ≤ u.1.toInt ∧ u.1.toInt ≤ u.2.2.1 ∧ n_pa ≤ u.2.2.1 ∧ u.2.2.1 ≤ 128 ∧ jPw u.2.2.1 ∧ u.1.toInt ≤ 122) (fun u t => jRa (dC, dI) B base G0 u.2.2.2 EX0_quotedI H0 ((u.2.2.1 - n_pa) / 16) (2 * (u.2.2.1 - n_pa)) [(r0, 17, 1, .int u.1), (r0, 17, 0, .ref u.2.1)] t.heap ∧ u.2.2.2 u.2.1 = some (199, u.2.2.1) ∧ (jNk [0, 1, 2, 3, 4, 5, 6, 7, 8, 9, 10, 11, 12, 13, 14, 15, 16, 17, 175]) G0 u.2.2.2 ∧ jOw (dC, dI) G0 17 r0 H0 t.heap ∧ jIs (dC, dI) u.2.2.2 t.heap [(jFib, jIB dC dI ca u.2.2.2 0 (jUf ib r0 (ib r0 ++ (34 :: (jpQ (jcL f1 n1 0) ++ [34])))))]) (jA base)) (LC - H0.size) (LS - jTot H0) (jA base) := by
  refine Met.ofW (cc := cX0_quoted) (maxL := 7) (ret := none) (by decide) rfl ?_
  intro p e s m args below meth c s₁ Bd hml hv
  obtain ⟨rfl, hH0, hX, hG, hg_r0, hg_r1, hg_pa, hP0, hM0, hI0, hLC0, hLS0, hp0, hp1, hp2, hp3, hp4, hp5, hp6, hp7, hp8, hp9⟩ := hv
  have hK := hG.1
  have hx := Bd.exec
  have hb := Bd.bytes
  have hr := Bd.returns
  have hts := atoms_spec (ws := (jw yX0_quoted cX0_quoted 7 none)) Bd.pre
  have htw : ∀ w ∈ jWl, w.before _ s = true := fun w h => hts w (List.mem_cons_of_mem _ h)
  have hown : s.vm.findClass RX0 = some m.cls := findClass_of_methodNamed Bd.named
  have hlocks := Bd.notSynchronized
  obtain ⟨Q, hQ⟩ : ∃ Q, Q = MQ below (va_Qv (S := Int32 × Nat × Nat × jT) (fun u => 0 ≤ u.1.toInt ∧ u.1.toInt ≤ u.2.2.1 ∧ n_pa ≤ u.2.2.1 ∧ u.2.2.1 ≤ 128 ∧ jPw u.2.2.1 ∧ u.1.toInt ≤ 122) (fun u t => jRa (dC, dI) B base G0 u.2.2.2 EX0_quotedI H0 ((u.2.2.1 - n_pa) / 16) (2 * (u.2.2.1 - n_pa)) [(r0, 17, 1, .int u.1), (r0, 17, 0, .ref u.2.1)] t.heap ∧ u.2.2.2 u.2.1 = some (199, u.2.2.1) ∧ (jNk [0, 1, 2, 3, 4, 5, 6, 7, 8, 9, 10, 11, 12, 13, 14, 15, 16, 17, 175]) G0 u.2.2.2 ∧ jOw (dC, dI) G0 17 r0 H0 t.heap ∧ jIs (dC, dI) u.2.2.2 t.heap [(jFib, jIB dC dI ca u.2.2.2 0 (jUf ib r0 (ib r0 ++ (34 :: (jpQ (jcL f1 n1 0) ++ [34])))))]) (jA base)) ([.ref r0, .ref r1, .int a2, .int a3] : List Value).toArray s (LC - H0.size) (LS - jTot H0) (jA base) := ⟨_, rfl⟩
  rw [← hQ]
  have hl := lv_entry ([.ref r0, .ref r1, .int a2, .int a3]) (n := 7) (Nat.le_of_ble_eq_true rfl)
  rw [lg_entry_eq]
  generalize (lg_sl ([.ref r0, .ref r1, .int a2, .int a3]) ++ List.replicate (7 - (lg_sl ([.ref r0, .ref r1, .int a2, .int a3])).length) Slot.unset).toArray = ls at hl ⊢
  have hl : lv_has ls 7 [(0, .ref r0), (1, .ref r1), (2, .int a2), (3, .int a3)] := hl
  generalize hR : (headSpec (jw yX0_quoted cX0_quoted 7 none) ({ frames := 5, cells := LC - H0.size, slots := LS - jTot H0, locals := 163 })).room = R
  subst hH0
  have hh : jSt (dC, dI) B base G0 G0 EX0_quotedI s.heap 0 0 [(r0, 17, 1, .int pc), (r0, 17, 0, .ref pa)] [(r1, 174, n1, ca 1, f1)] [(jFib, jIB dC dI ca G0 0 ib)] s.heap [] := jSt.start hX hP0 hM0 hI0
  clear hX hP0
  have hk0 : (0 : Int32).toInt = 0 := by decide
  have hk1 : (1 : Int32).toInt = 1 := by decide
  have hk4 : (4 : Int32).toInt = 4 := by decide
  have hk10 : (10 : Int32).toInt = 10 := by decide
  have hk15 : (15 : Int32).toInt = 15 := by decide
  have hk32 : (32 : Int32).toInt = 32 := by decide
  have hk34 : (34 : Int32).toInt = 34 := by decide
  have hk48 : (48 : Int32).toInt = 48 := by decide
  have hk92 : (92 : Int32).toInt = 92 := by decide
  have hk97 : (97 : Int32).toInt = 97 := by decide
  have hk55296 : (55296 : Int32).toInt = 55296 := by decide
  have hk56320 : (56320 : Int32).toInt = 56320 := by decide
  have hk65533 : (65533 : Int32).toInt = 65533 := by decide
  have hk65536 : (65536 : Int32).toInt = 65536 := by decide
  have hcs_60 := htw (.constant RX0 60 65536) (jWr_20 _ (List.mem_of_getElem? (i := 15) rfl))
  have hcs_61 := htw (.constant RX0 61 55296) (jWr_20 _ (List.mem_of_getElem? (i := 17) rfl))
  have hcs_62 := htw (.constant RX0 62 56320) (jWr_21 _ (List.mem_of_getElem? (i := 12) rfl))
  have hcs_66 := htw (.constant RX0 66 65533) (jWr_25 _ (List.mem_of_getElem? (i := 14) rfl))
  obtain ⟨str67, rstr67, hstr670⟩ := hG.strT (o := RX0) (k := 67) (tx := "\\u00") (List.mem_of_getElem? (i := 790) (by decide +kernel))
  have hTstr67 : jStrF base str67 4 (jChT "\\u00") s s.heap := hstr670.F (by decide +kernel)
  have hstr67 : jStr base str67 4 s s.heap := hTstr67.str
  have hrg_a2 := jb_rng a2
  have hrg_a3 := jb_rng a3
  have hbs : base ≤ s.heap.size := Nat.le_of_lt (Nat.lt_of_le_of_lt (hh.ab hg_r0).1 (hh.ab hg_r0).2)
  have hRc : R.cells = LC - s.heap.size := by rw [← hR]; rfl
  have hRs : R.slots = LS - jTot s.heap := by rw [← hR]; rfl
  have hh_1 := hh.addI (jOw.ie (dC := dC) (dI := dI) (G0 := G0) (k := 17) (r := r0) (H0 := s.heap) (F := [(17, 0), (17, 1)]) (C := RX0) (T := TX0) (N := 2) rfl (by decide) hh.2.2.2.2.1 (jOw.rf))
  clear hh
  refine lv_aload_n hx hb dX0_quoted_0 rfl (lv_at hl 0 rfl) ?_
  refine lv_bipush (v := 34) hx hb dX0_quoted_1 (by decide) ?_
  have hsz_2 := hh_1.2.2.2.2.2.1
  have htt_2 := hh_1.2.2.2.2.2.2.1
  refine W.room (fun hrc_2 hrs_2 => ?_)
  refine va_callv (A0 := jA base) (H0 := s.heap) (va_runV (As := [.int 34]) (rest := []) ⟨hx, hb, hml, hown, hts⟩ (uX0_putI l dC dI ca base B hB hAp hB2 hB17 hB196 hB199 G0 s.heap r0 34 pc pa n_pa ib LC LS) (cwV 1 hts (jgV (jWr_24 _ (List.mem_of_getElem? (i := 22) rfl)) (jWr_16 _ (List.mem_of_getElem? (i := 0) rfl)) (jWr_16 _ (List.mem_of_getElem? (i := 1) rfl)) (jWr_1 _ (List.mem_of_getElem? (i := 14) rfl)) (jWr_16 _ (List.mem_of_getElem? (i := 2) rfl))) rfl rfl rfl (by decide +kernel) ⟨by rw [← hR]; exact Nat.le_of_ble_eq_true rfl, by rw [← hR]; exact Nat.le_of_ble_eq_true rfl⟩) ⟨fun a U g mk q => by obtain ⟨q0, q1, q2, qK, q10, q11, q12, q13, q14⟩ := q; exact ⟨q0, q1, q2, jG.calling g mk a qK, q10, q11, q12, q13, q14⟩, hh_1.recv (C := RX0) (T := TX0) (N := 2) hB17 rfl (by decide) hg_r0 hK, fun U hU hW => ⟨rfl, hU, hh_1.2.1, hG.step hW hU hh_1.1, hg_r0, hg_pa, (hh_1.2.2.1.sub (L1 := [(r0, 17, 1, .int pc), (r0, 17, 0, .ref pa)]) [0, 1] rfl), (hh_1.2.2.2.2.2.2.2.2.sub (L1 := [(jFib, jIB dC dI ca G0 0 ib)]) [1] rfl), (by omega), (by omega), ⟨(by first | omega | rfl | assumption | fail), (by first | omega | rfl | assumption | fail), (by first | omega | rfl | assumption | fail), (by first | omega | rfl | assumption | fail), (by first | assumption | fail | omega), (by first | omega | rfl | assumption | fail)⟩⟩⟩ rfl rfl hl.1 rfl (lv_room (Nat.le_of_ble_eq_true rfl)) dX0_quoted_3 ⟨by rw [hRc]; omega, by rw [hRs]; omega⟩) hh_1.1 (fun q _ h => h) (fun q h => h) (fun u_2 t_2 H_2 locs_2 ht_2 hvm_2 hr_3 hb_2 hz_2 hk_2 hS_2 => ?_)
  obtain ⟨qc_2, qa_2, m_qa_2, G_2⟩ := u_2
  rw [ht_2] at hb_2
  simp only at hb_2
  obtain ⟨⟨hb_21, hb_22, hb_23, hb_24, hb_25, hb_26⟩, hgq_2_0, hN_2, hbO_2, hbE_2⟩ := hb_2
  have hW_2 := hN_2
  have hh_2 : jSt (dC, dI) B base G0 G_2 EX0_quotedI s.heap (0 + ((m_qa_2 - n_pa) / 16)) (0 + (2 * (m_qa_2 - n_pa))) [(r0, 17, 1, .int qc_2), (r0, 17, 0, .ref qa_2)] [(r1, 174, n1, ca 1, f1)] [] H_2 locs_2 := (hh_1.callG hb_21 hb_22 hb_23 hb_24 hb_25 hS_2 rfl (L1 := []) [] rfl rfl (M1 := [(r1, 174, n1, ca 1, f1)]) [0] rfl rfl (I1 := []) [] rfl rfl).more hb_26
  have hNn_2 : (jNk [0, 1, 2, 3, 4, 5, 6, 7, 8, 9, 10, 11, 12, 13, 14, 15, 16, 17, 175]) G0 G_2 := (jNk.rf).tr hN_2
  have hg_4 := hb_22 _ _ hg_r0
  have hg_5 := hb_22 _ _ hg_r1
  have hh_6 := hh_2.addIs hbE_2
  have hd_7 := jOw.tr (hh_1.iv 0 rfl) hh_1.2.2.2.2.1 hbO_2
  have hh_8 := hh_6.addI (jOw.ie (dC := dC) (dI := dI) (G0 := G0) (k := 17) (r := r0) (H0 := s.heap) (F := [(17, 0), (17, 1)]) (C := RX0) (T := TX0) (N := 2) rfl (by decide) hh_6.2.2.2.2.1 (hd_7))
  clear hh_6
  try simp only at hr_3
  obtain ⟨hr_3_0, hr_3_1, hr_3_2, hr_3_3, hr_3_4, hr_3_5⟩ := hr_3
  have hh_9 := hh_8.wk (zc1 := (m_qa_2 - n_pa) / 16) (zs1 := 2 * (m_qa_2 - n_pa)) (by omega) (by omega)
  clear hh_8
  try clear hsz_2 htt_2 hrc_2 hrs_2
  try clear hb_24 hb_25
  refine lv_iload_n hx hb dX0_quoted_6 rfl (lv_at hl 2 rfl) ?_
  refine lv_iload_n hx hb dX0_quoted_7 rfl (lv_at hl 3 rfl) ?_
  refine lv_iadd hx hb dX0_quoted_8 ?_
  refine lv_topi (fun z_10 ez_10 => ?_)
  have hz_10 : z_10.toInt = a2.toInt + a3.toInt := by rw [ez_10]; exact jb_iadd2 (rfl) (rfl) (by omega)
  refine lv_aload_n hx hb dX0_quoted_9 rfl (lv_at hl 1 rfl) ?_
  refine j7_len hx hb hK hh_9 hB174 1 rfl (by decide) hg_5 (by omega) dX0_quoted_10 (fun z_11 hz_11 => ?_)
  have hsz_12 := hh_9.2.2.2.2.2.1
  have htt_12 := hh_9.2.2.2.2.2.2.1
  refine W.room (fun hrc_12 hrs_12 => ?_)
  refine va_mmin hx hb (by rw [hml]; exact hl.1.symm) hown (htw (.methodLink RX0 50 Lib.Math.min.name) (jWr_25 _ (List.mem_of_getElem? (i := 13) rfl))) (htw (.static Lib.Math.min.name) (jWr_16 _ (List.mem_of_getElem? (i := 16) rfl))) (htw (.initialized "java/lang/Math") (jWr_3 _ (List.mem_of_getElem? (i := 7) rfl))) (htw (.code Lib.Math.min.name Lib.Math.min.code 2 (some .int)) (jWr_16 _ (List.mem_of_getElem? (i := 17) rfl))) (by rw [← hR]; exact Nat.le_of_ble_eq_true rfl) (by rw [← hR]; exact Nat.le_of_ble_eq_true rfl) (by rw [hRc]; omega) (by rw [hRs]; omega) dX0_quoted_11 ?_
  refine lv_topi (fun z_13 ez_13 => ?_)
  have hz_13 := jb_min ez_13
  refine lv_istore (lv' := [(4, .int z_13), (0, .ref r0), (1, .ref r1), (2, .int a2), (3, .int a3)]) hx hb dX0_quoted_14 hl (by decide) rfl (fun ls hl => ?_)
  refine lv_iload_n hx hb dX0_quoted_16 rfl (lv_at hl 3 rfl) ?_
  refine lv_iconst (v := 0) hx hb dX0_quoted_17 (by decide) ?_
  have hsz_14 := hh_9.2.2.2.2.2.1
  have htt_14 := hh_9.2.2.2.2.2.2.1
  refine W.room (fun hrc_14 hrs_14 => ?_)
  refine va_mmax hx hb (by rw [hml]; exact hl.1.symm) hown (htw (.methodLink RX0 7 Lib.Math.max.name) (jWr_3 _ (List.mem_of_getElem? (i := 5) rfl))) (htw (.static Lib.Math.max.name) (jWr_3 _ (List.mem_of_getElem? (i := 6) rfl))) (htw (.initialized "java/lang/Math") (jWr_3 _ (List.mem_of_getElem? (i := 7) rfl))) (htw (.code Lib.Math.max.name Lib.Math.max.code 2 (some .int)) (jWr_3 _ (List.mem_of_getElem? (i := 8) rfl))) (by rw [← hR]; exact Nat.le_of_ble_eq_true rfl) (by rw [← hR]; exact Nat.le_of_ble_eq_true rfl) (by rw [hRc]; omega) (by rw [hRs]; omega) dX0_quoted_18 ?_
  refine lv_topi (fun z_15 ez_15 => ?_)
  have hz_15 := jb_max ez_15
  refine lv_istore (lv' := [(5, .int z_15), (4, .int z_13), (0, .ref r0), (1, .ref r1), (2, .int a2), (3, .int a3)]) hx hb dX0_quoted_21 hl (by decide) rfl (fun ls hl => ?_)
  have L23 : ∀ (N : Nat) (Gx_16 : jT) (zcx_16 : Nat) (zsx_16 : Nat) (v5_16 : Int32) (wc_16 : Int32) (wr_16 : Nat) (m_wr_16 : Nat) (ibx_16 : Nat → List Int) (H_16 : Heap) (locs_16 : List Loc), jSt (dC, dI) B base G0 Gx_16 EX0_quotedI s.heap zcx_16 zsx_16 [(r0, 17, 1, .int wc_16), (r0, 17, 0, .ref wr_16)] [(r1, 174, n1, ca 1, f1)] [([(17, 0), (17, 1)], jOw (dC, dI) G0 17 r0 s.heap), (jFib, jIB dC dI ca Gx_16 0 ibx_16)] H_16 locs_16 → (jNk [0, 1, 2, 3, 4, 5, 6, 7, 8, 9, 10, 11, 12, 13, 14, 15, 16, 17, 175]) G0 Gx_16 → jLe G_2 Gx_16 → Gx_16 wr_16 = some (199, m_wr_16) → (0 ≤ wc_16.toInt ∧ wc_16.toInt ≤ m_wr_16 ∧ n_pa ≤ m_wr_16 ∧ m_wr_16 ≤ 128 ∧ jPw m_wr_16 ∧ zcx_16 ≤ (m_wr_16 - n_pa) / 16 ∧ zsx_16 ≤ 2 * (m_wr_16 - n_pa) ∧ 0 ≤ v5_16.toInt ∧ v5_16.toInt ≤ z_13.toInt ∧ z_13.toInt = n1 ∧ 1 ≤ wc_16.toInt ∧ wc_16.toInt ≤ 1 + 6 * v5_16.toInt ∧ jiQ ib ibx_16 r0 f1 n1 v5_16.toInt) → (((z_13.toInt - v5_16.toInt).toNat : Int) : Int) < N → ∀ ls : Array Slot, lv_has ls 7 [(0, .ref r0), (1, .ref r1), (2, .int a2), (3, .int a3), (4, .int z_13), (5, .int v5_16)] → W p l e R s m ([.ref r0, .ref r1, .int a2, .int a3] : List Value).toArray below meth c H_16 locs_16 zcx_16 zsx_16 Q (F0 m 23 ls []) := by
    intro N
    induction N with
    | zero => intro Gx_16 zcx_16 zsx_16 v5_16 wc_16 wr_16 m_wr_16 ibx_16 H_16 locs_16 hh_16 hN_16 hle_16 hg_wr_16 hi_16 hm; exact absurd hm (by omega)
    | succ N L23 =>
      intro Gx_16 zcx_16 zsx_16 v5_16 wc_16 wr_16 m_wr_16 ibx_16 H_16 locs_16 hh_16 hN_16 hle_16 hg_wr_16 hi_16 hm_16 ls hl
      have hg_17 := hle_16 _ _ hg_4
      have hg_18 := hle_16 _ _ hg_5
      obtain ⟨hi_16_0, hi_16_1, hi_16_2, hi_16_3, hi_16_4, hi_16_5, hi_16_6, hi_16_7, hi_16_8, hi_16_9, hi_16_10, hi_16_11, hi_16_12⟩ := hi_16
      refine lv_iload hx hb dX0_quoted_23 (lv_at hl 5 rfl) ?_
      refine lv_iload hx hb dX0_quoted_25 (lv_at hl 4 rfl) ?_
      refine lv_icmp_ge (tgt := 214) hx hb dX0_quoted_27 (by decide) (fun c_19 => ?_) (fun c_19 => ?_)
      · skip
        have c_19' : v5_16.toInt ≥ z_13.toInt := jb_ge (rfl) (rfl) c_19
        refine lv_aload_n hx hb dX0_quoted_214 rfl (lv_at hl 0 rfl) ?_
        refine lv_bipush (v := 34) hx hb dX0_quoted_215 (by decide) ?_
        have hsz_20 := hh_16.2.2.2.2.2.1
        have htt_20 := hh_16.2.2.2.2.2.2.1
        refine W.room (fun hrc_20 hrs_20 => ?_)
        refine va_callv (A0 := jA base) (H0 := s.heap) (va_runV (As := [.int 34]) (rest := []) ⟨hx, hb, hml, hown, hts⟩ (uX0_putI l dC dI ca base B hB hAp hB2 hB17 hB196 hB199 Gx_16 H_16 r0 34 wc_16 wr_16 m_wr_16 ibx_16 LC LS) (cwV 1 hts (jgV (jWr_24 _ (List.mem_of_getElem? (i := 22) rfl)) (jWr_16 _ (List.mem_of_getElem? (i := 0) rfl)) (jWr_16 _ (List.mem_of_getElem? (i := 1) rfl)) (jWr_1 _ (List.mem_of_getElem? (i := 14) rfl)) (jWr_16 _ (List.mem_of_getElem? (i := 2) rfl))) rfl rfl rfl (by decide +kernel) ⟨by rw [← hR]; exact Nat.le_of_ble_eq_true rfl, by rw [← hR]; exact Nat.le_of_ble_eq_true rfl⟩) ⟨fun a U g mk q => by obtain ⟨q0, q1, q2, qK, q10, q11, q12, q13, q14⟩ := q; exact ⟨q0, q1, q2, jG.calling g mk a qK, q10, q11, q12, q13, q14⟩, hh_16.recv (C := RX0) (T := TX0) (N := 2) hB17 rfl (by decide) hg_17 hK, fun U hU hW => ⟨rfl, hU, hh_16.2.1, hG.step hW hU hh_16.1, hg_17, hg_wr_16, (hh_16.2.2.1.sub (L1 := [(r0, 17, 1, .int wc_16), (r0, 17, 0, .ref wr_16)]) [0, 1] rfl), (hh_16.2.2.2.2.2.2.2.2.sub (L1 := [(jFib, jIB dC dI ca Gx_16 0 ibx_16)]) [1] rfl), (by omega), (by omega), ⟨(by first | omega | rfl | assumption | fail), (by first | omega | rfl | assumption | fail), (by first | omega | rfl | assumption | fail), (by first | omega | rfl | assumption | fail), (by first | assumption | fail | omega), (by first | omega | rfl | assumption | fail)⟩⟩⟩ rfl rfl hl.1 rfl (lv_room (Nat.le_of_ble_eq_true rfl)) dX0_quoted_217 ⟨by rw [hRc]; omega, by rw [hRs]; omega⟩) hh_16.1 (fun q _ h => h) (fun q h => h) (fun u_20 t_20 H_20 locs_20 ht_20 hvm_20 hr_21 hb_20 hz_20 hk_20 hS_20 => ?_)
        obtain ⟨qc_20, qa_20, m_qa_20, G_20⟩ := u_20
        rw [ht_20] at hb_20
        simp only at hb_20
        obtain ⟨⟨hb_201, hb_202, hb_203, hb_204, hb_205, hb_206⟩, hgq_20_0, hN_20, hbO_20, hbE_20⟩ := hb_20
        have hW_20 := hN_20
        have hh_20 : jSt (dC, dI) B base G0 G_20 EX0_quotedI s.heap (zcx_16 + ((m_qa_20 - m_wr_16) / 16)) (zsx_16 + (2 * (m_qa_20 - m_wr_16))) [(r0, 17, 1, .int qc_20), (r0, 17, 0, .ref qa_20)] [(r1, 174, n1, ca 1, f1)] [] H_20 locs_20 := (hh_16.callG hb_201 hb_202 hb_203 hb_204 hb_205 hS_20 rfl (L1 := []) [] rfl rfl (M1 := [(r1, 174, n1, ca 1, f1)]) [0] rfl rfl (I1 := []) [] rfl rfl).more hb_206
        have hNn_20 : (jNk [0, 1, 2, 3, 4, 5, 6, 7, 8, 9, 10, 11, 12, 13, 14, 15, 16, 17, 175]) G0 G_20 := (hN_16).tr hN_20
        have hg_22 := hb_202 _ _ hg_17
        have hg_23 := hb_202 _ _ hg_18
        have hh_24 := hh_20.addIs hbE_20
        have hd_25 := jOw.tr (hh_16.iv 0 rfl) hh_16.2.2.2.2.1 hbO_20
        have hh_26 := hh_24.addI (jOw.ie (dC := dC) (dI := dI) (G0 := G0) (k := 17) (r := r0) (H0 := s.heap) (F := [(17, 0), (17, 1)]) (C := RX0) (T := TX0) (N := 2) rfl (by decide) hh_24.2.2.2.2.1 (hd_25))
        clear hh_24
        try simp only at hr_21
        obtain ⟨hr_21_0, hr_21_1, hr_21_2, hr_21_3, hr_21_4, hr_21_5⟩ := hr_21
        have hh_27 := hh_26.wk (zc1 := (m_qa_20 - n_pa) / 16) (zs1 := 2 * (m_qa_20 - n_pa)) (by omega) (by omega)
        clear hh_26
        try clear hsz_20 htt_20 hrc_20 hrs_20
        try clear hb_204 hb_205
        have hA_28 : (jUf ibx_16 r0 (ibx_16 r0 ++ [34 % 256])) = (jUf ib r0 (ib r0 ++ (34 :: (jpQ (jcL f1 n1 0) ++ [34])))) := hi_16_12.e (by omega) rfl hk34
        have hAe_28 : jIB dC dI ca G_20 0 (jUf ib r0 (ib r0 ++ (34 :: (jpQ (jcL f1 n1 0) ++ [34])))) H_20 := by rw [← hA_28]; exact hh_27.iv 1 rfl
        have hh_29 := hh_27.sub (L1 := [(r0, 17, 1, .int qc_20), (r0, 17, 0, .ref qa_20)]) [0, 1] rfl (M1 := [(r1, 174, n1, ca 1, f1)]) [0] rfl (I1 := [([(17, 0), (17, 1)], jOw (dC, dI) G0 17 r0 s.heap)]) [0] rfl
        clear hh_27
        have hh_30 := hh_29.addI (jIB.ie hAe_28)
        clear hh_29
        have hsz_31 := hh_30.2.2.2.2.2.1
        have htt_31 := hh_30.2.2.2.2.2.2.1
        refine W.room (fun hrc_31 hrs_31 => ?_)
        refine W.widen (k := LC - s.heap.size) (n := LS - jTot s.heap) (by omega) (by omega) ?_
        rw [hQ]
        exact W.vret hx hb hr (fun t ht hW => ⟨⟨(qc_20, qa_20, m_qa_20, G_20), rfl, by (try dsimp only); exact ⟨(by first | omega | rfl | assumption | fail), (by first | omega | rfl | assumption | fail), (by first | omega | rfl | assumption | fail), (by first | omega | rfl | assumption | fail), (by first | assumption | fail | omega), (by first | omega | rfl | assumption | fail)⟩, ⟨hh_30.ra (by first | (simp only; omega) | omega) (by first | (simp only; omega) | omega) (M1 := [(r0, 17, 1, .int qc_20), (r0, 17, 0, .ref qa_20)]) [0, 1] rfl ht, hgq_20_0, hNn_20, by rw [ht]; exact hh_30.iv 1 rfl, by rw [ht]; exact hh_30.2.2.2.2.2.2.2.2.sub (L1 := [(jFib, jIB dC dI ca G_20 0 (jUf ib r0 (ib r0 ++ (34 :: (jpQ (jcL f1 n1 0) ++ [34])))))]) [0] rfl⟩⟩, by rw [ht]; try exact hh_30.1.1, fun q h9 hq => by rw [ht]; try exact hh_30.1.2.1 q h9 hq⟩) hh_30.1.2.2 dX0_quoted_220
      · skip
        have c_19' : v5_16.toInt < z_13.toInt := jb_ge_n (rfl) (rfl) c_19
        refine lv_aload_n hx hb dX0_quoted_30 rfl (lv_at hl 1 rfl) ?_
        refine lv_iload hx hb dX0_quoted_31 (lv_at hl 5 rfl) ?_
        refine j7_ialdM hx hb hK hh_16 hB174 1 rfl (by decide) hg_18 (x := v5_16.toInt) (rfl) (by omega) (j := 0) rfl dX0_quoted_33 (fun z_32 ez_32 (hz_32 : True) => ?_)
        have hqz_32 : z_32.toInt = jSo f1 (v5_16.toInt) := by unfold jSo; rw [ez_32]
        refine lv_istore (lv' := [(6, .int z_32), (0, .ref r0), (1, .ref r1), (2, .int a2), (3, .int a3), (4, .int z_13), (5, .int v5_16)]) hx hb dX0_quoted_34 hl (by decide) rfl (fun ls hl => ?_)
        have hq9 := hi_16_12.hd (by omega)
        have hqu9 := hqz_32
        refine lv_iload hx hb dX0_quoted_36 (lv_at hl 0 rfl) ?_
        have hsz_33 := hh_16.2.2.2.2.2.1
        have htt_33 := hh_16.2.2.2.2.2.2.1
        refine W.room (fun hrc_33 hrs_33 => ?_)
        refine va_calli (A0 := jA base) (H0 := s.heap) (va_runS (As := [.int z_32]) (rest := []) ⟨hx, hb, hml, hown, hts⟩ (uX0_isHighJ l dC dI ca base B hB hAp Gx_16 H_16 z_32) (va_cwS 1 hts (jgS (jWr_25 _ (List.mem_of_getElem? (i := 15) rfl)) (jWr_21 _ (List.mem_of_getElem? (i := 18) rfl)) (jWr_1 _ (List.mem_of_getElem? (i := 14) rfl)) (jWr_21 _ (List.mem_of_getElem? (i := 19) rfl))) rfl rfl rfl (by decide +kernel) ⟨by rw [← hR]; exact Nat.le_of_ble_eq_true rfl, by rw [← hR]; exact Nat.le_of_ble_eq_true rfl⟩) ⟨fun a U g mk q => by obtain ⟨q0, q1, q2, qK, q10, q11⟩ := q; exact ⟨q0, q1, q2, jG.calling g mk a qK, q10, q11⟩, fun U hU hW => ⟨rfl, hU, hh_16.2.1, hG.step hW hU hh_16.1, jP.nil, trivial⟩⟩ rfl rfl hl.1 rfl (lv_room (Nat.le_of_ble_eq_true rfl)) dX0_quoted_38 ⟨by rw [hRc]; show _ + 0 ≤ _; omega, by rw [hRs]; show _ + 0 ≤ _; omega⟩) hh_16.1 (fun q _ h => h) (fun q h => h) (fun r_34 u_33 t_33 H_33 locs_33 ht_33 hvm_33 hr_34 hb_33 hz_33 hk_33 hS_33 => ?_)
        rw [ht_33] at hb_33
        obtain ⟨hb_331, hb_332, hb_333, hb_334, hb_335⟩ := hb_33
        have hh_33 : jSt (dC, dI) B base G0 Gx_16 EX0_quotedI s.heap zcx_16 zsx_16 [(r0, 17, 1, .int wc_16), (r0, 17, 0, .ref wr_16)] [(r1, 174, n1, ca 1, f1)] [([(17, 0), (17, 1)], jOw (dC, dI) G0 17 r0 s.heap), (jFib, jIB dC dI ca Gx_16 0 ibx_16)] H_33 locs_33 := ((hh_16.call hb_331 hb_332 hb_333 hb_334 hS_33 rfl (L1 := [(r0, 17, 1, .int wc_16), (r0, 17, 0, .ref wr_16)]) [0, 1] rfl rfl (M1 := [(r1, 174, n1, ca 1, f1)]) [0] rfl rfl (I1 := [([(17, 0), (17, 1)], jOw (dC, dI) G0 17 r0 s.heap), (jFib, jIB dC dI ca Gx_16 0 ibx_16)]) [0, 1] rfl rfl).more hb_335)
        clear hh_16 ht_33 hvm_33 hz_33 hk_33 hS_33 hb_331 hb_332 hb_333 hb_334 hb_335
        obtain ⟨hr_34b, hr_34p⟩ := hr_34
        have hr_34' := jb_01 hr_34b
        refine lv_if_eq (tgt := 94) hx hb dX0_quoted_41 (by decide) (fun c_35 => ?_) (fun c_35 => ?_)
        · skip
          have c_35' : r_34.toInt = 0 := jb_eq (rfl) ((by decide)) c_35
          first | (have hr_34pq := hr_34p.resolve_left (by omega); clear hr_34p) | (have hr_34pq := hr_34p.resolve_right (by omega); clear hr_34p) | try clear hr_34p
          refine lv_iload hx hb dX0_quoted_94 (lv_at hl 0 rfl) ?_
          have hsz_36 := hh_33.2.2.2.2.2.1
          have htt_36 := hh_33.2.2.2.2.2.2.1
          refine W.room (fun hrc_36 hrs_36 => ?_)
          refine va_calli (A0 := jA base) (H0 := s.heap) (va_runS (As := [.int z_32]) (rest := []) ⟨hx, hb, hml, hown, hts⟩ (uX0_isHighJ l dC dI ca base B hB hAp Gx_16 H_33 z_32) (va_cwS 1 hts (jgS (jWr_25 _ (List.mem_of_getElem? (i := 15) rfl)) (jWr_21 _ (List.mem_of_getElem? (i := 18) rfl)) (jWr_1 _ (List.mem_of_getElem? (i := 14) rfl)) (jWr_21 _ (List.mem_of_getElem? (i := 19) rfl))) rfl rfl rfl (by decide +kernel) ⟨by rw [← hR]; exact Nat.le_of_ble_eq_true rfl, by rw [← hR]; exact Nat.le_of_ble_eq_true rfl⟩) ⟨fun a U g mk q => by obtain ⟨q0, q1, q2, qK, q10, q11⟩ := q; exact ⟨q0, q1, q2, jG.calling g mk a qK, q10, q11⟩, fun U hU hW => ⟨rfl, hU, hh_33.2.1, hG.step hW hU hh_33.1, jP.nil, trivial⟩⟩ rfl rfl hl.1 rfl (lv_room (Nat.le_of_ble_eq_true rfl)) dX0_quoted_96 ⟨by rw [hRc]; show _ + 0 ≤ _; omega, by rw [hRs]; show _ + 0 ≤ _; omega⟩) hh_33.1 (fun q _ h => h) (fun q h => h) (fun r_37 u_36 t_36 H_36 locs_36 ht_36 hvm_36 hr_37 hb_36 hz_36 hk_36 hS_36 => ?_)
          rw [ht_36] at hb_36
          obtain ⟨hb_361, hb_362, hb_363, hb_364, hb_365⟩ := hb_36
          have hh_36 : jSt (dC, dI) B base G0 Gx_16 EX0_quotedI s.heap zcx_16 zsx_16 [(r0, 17, 1, .int wc_16), (r0, 17, 0, .ref wr_16)] [(r1, 174, n1, ca 1, f1)] [([(17, 0), (17, 1)], jOw (dC, dI) G0 17 r0 s.heap), (jFib, jIB dC dI ca Gx_16 0 ibx_16)] H_36 locs_36 := ((hh_33.call hb_361 hb_362 hb_363 hb_364 hS_36 rfl (L1 := [(r0, 17, 1, .int wc_16), (r0, 17, 0, .ref wr_16)]) [0, 1] rfl rfl (M1 := [(r1, 174, n1, ca 1, f1)]) [0] rfl rfl (I1 := [([(17, 0), (17, 1)], jOw (dC, dI) G0 17 r0 s.heap), (jFib, jIB dC dI ca Gx_16 0 ibx_16)]) [0, 1] rfl rfl).more hb_365)
          clear hh_33 ht_36 hvm_36 hz_36 hk_36 hS_36 hb_361 hb_362 hb_363 hb_364 hb_365
          obtain ⟨hr_37b, hr_37p⟩ := hr_37
          have hr_37' := jb_01 hr_37b
          refine lv_if_ne (tgt := 110) hx hb dX0_quoted_99 (by decide) (fun c_38 => ?_) (fun c_38 => ?_)
          · skip
            have c_38' : r_37.toInt ≠ 0 := jb_ne (rfl) ((by decide)) c_38
            exact absurd c_38' (by omega)
          · skip
            have c_38' : r_37.toInt = 0 := jb_ne_n (rfl) ((by decide)) c_38
            first | (have hr_37pq := hr_37p.resolve_left (by omega); clear hr_37p) | (have hr_37pq := hr_37p.resolve_right (by omega); clear hr_37p) | try clear hr_37p
            refine lv_iload hx hb dX0_quoted_102 (lv_at hl 0 rfl) ?_
            have hsz_39 := hh_36.2.2.2.2.2.1
            have htt_39 := hh_36.2.2.2.2.2.2.1
            refine W.room (fun hrc_39 hrs_39 => ?_)
            refine va_calli (A0 := jA base) (H0 := s.heap) (va_runS (As := [.int z_32]) (rest := []) ⟨hx, hb, hml, hown, hts⟩ (uX0_isLowJ l dC dI ca base B hB hAp Gx_16 H_36 z_32) (va_cwS 1 hts (jgS (jWr_25 _ (List.mem_of_getElem? (i := 16) rfl)) (jWr_21 _ (List.mem_of_getElem? (i := 10) rfl)) (jWr_1 _ (List.mem_of_getElem? (i := 14) rfl)) (jWr_21 _ (List.mem_of_getElem? (i := 11) rfl))) rfl rfl rfl (by decide +kernel) ⟨by rw [← hR]; exact Nat.le_of_ble_eq_true rfl, by rw [← hR]; exact Nat.le_of_ble_eq_true rfl⟩) ⟨fun a U g mk q => by obtain ⟨q0, q1, q2, qK, q10, q11⟩ := q; exact ⟨q0, q1, q2, jG.calling g mk a qK, q10, q11⟩, fun U hU hW => ⟨rfl, hU, hh_36.2.1, hG.step hW hU hh_36.1, jP.nil, trivial⟩⟩ rfl rfl hl.1 rfl (lv_room (Nat.le_of_ble_eq_true rfl)) dX0_quoted_104 ⟨by rw [hRc]; show _ + 0 ≤ _; omega, by rw [hRs]; show _ + 0 ≤ _; omega⟩) hh_36.1 (fun q _ h => h) (fun q h => h) (fun r_40 u_39 t_39 H_39 locs_39 ht_39 hvm_39 hr_40 hb_39 hz_39 hk_39 hS_39 => ?_)
            rw [ht_39] at hb_39
            obtain ⟨hb_391, hb_392, hb_393, hb_394, hb_395⟩ := hb_39
            have hh_39 : jSt (dC, dI) B base G0 Gx_16 EX0_quotedI s.heap zcx_16 zsx_16 [(r0, 17, 1, .int wc_16), (r0, 17, 0, .ref wr_16)] [(r1, 174, n1, ca 1, f1)] [([(17, 0), (17, 1)], jOw (dC, dI) G0 17 r0 s.heap), (jFib, jIB dC dI ca Gx_16 0 ibx_16)] H_39 locs_39 := ((hh_36.call hb_391 hb_392 hb_393 hb_394 hS_39 rfl (L1 := [(r0, 17, 1, .int wc_16), (r0, 17, 0, .ref wr_16)]) [0, 1] rfl rfl (M1 := [(r1, 174, n1, ca 1, f1)]) [0] rfl rfl (I1 := [([(17, 0), (17, 1)], jOw (dC, dI) G0 17 r0 s.heap), (jFib, jIB dC dI ca Gx_16 0 ibx_16)]) [0, 1] rfl rfl).more hb_395)
            clear hh_36 ht_39 hvm_39 hz_39 hk_39 hS_39 hb_391 hb_392 hb_393 hb_394 hb_395
            obtain ⟨hr_40b, hr_40p⟩ := hr_40
            have hr_40' := jb_01 hr_40b
            refine lv_if_eq (tgt := 119) hx hb dX0_quoted_107 (by decide) (fun c_41 => ?_) (fun c_41 => ?_)
            · skip
              have c_41' : r_40.toInt = 0 := jb_eq (rfl) ((by decide)) c_41
              first | (have hr_40pq := hr_40p.resolve_left (by omega); clear hr_40p) | (have hr_40pq := hr_40p.resolve_right (by omega); clear hr_40p) | try clear hr_40p
              refine lv_iload hx hb dX0_quoted_119 (lv_at hl 0 rfl) ?_
              refine lv_bipush (v := 32) hx hb dX0_quoted_121 (by decide) ?_
              refine lv_icmp_ge (tgt := 182) hx hb dX0_quoted_123 (by decide) (fun c_42 => ?_) (fun c_42 => ?_)
              · skip
                have c_42' : z_32.toInt ≥ 32 := jb_ge (rfl) ((by decide)) c_42
                refine lv_iload hx hb dX0_quoted_182 (lv_at hl 0 rfl) ?_
                refine lv_bipush (v := 34) hx hb dX0_quoted_184 (by decide) ?_
                refine lv_icmp_eq (tgt := 196) hx hb dX0_quoted_186 (by decide) (fun c_43 => ?_) (fun c_43 => ?_)
                · skip
                  have c_43' : z_32.toInt = 34 := jb_eq (rfl) ((by decide)) c_43
                  refine lv_aload_n hx hb dX0_quoted_196 rfl (lv_at hl 1 rfl) ?_
                  refine lv_bipush (v := 92) hx hb dX0_quoted_197 (by decide) ?_
                  have hsz_44 := hh_39.2.2.2.2.2.1
                  have htt_44 := hh_39.2.2.2.2.2.2.1
                  refine W.room (fun hrc_44 hrs_44 => ?_)
                  refine va_callv (A0 := jA base) (H0 := s.heap) (va_runV (As := [.int 92]) (rest := []) ⟨hx, hb, hml, hown, hts⟩ (uX0_putI l dC dI ca base B hB hAp hB2 hB17 hB196 hB199 Gx_16 H_39 r0 92 wc_16 wr_16 m_wr_16 ibx_16 LC LS) (cwV 1 hts (jgV (jWr_24 _ (List.mem_of_getElem? (i := 22) rfl)) (jWr_16 _ (List.mem_of_getElem? (i := 0) rfl)) (jWr_16 _ (List.mem_of_getElem? (i := 1) rfl)) (jWr_1 _ (List.mem_of_getElem? (i := 14) rfl)) (jWr_16 _ (List.mem_of_getElem? (i := 2) rfl))) rfl rfl rfl (by decide +kernel) ⟨by rw [← hR]; exact Nat.le_of_ble_eq_true rfl, by rw [← hR]; exact Nat.le_of_ble_eq_true rfl⟩) ⟨fun a U g mk q => by obtain ⟨q0, q1, q2, qK, q10, q11, q12, q13, q14⟩ := q; exact ⟨q0, q1, q2, jG.calling g mk a qK, q10, q11, q12, q13, q14⟩, hh_39.recv (C := RX0) (T := TX0) (N := 2) hB17 rfl (by decide) hg_17 hK, fun U hU hW => ⟨rfl, hU, hh_39.2.1, hG.step hW hU hh_39.1, hg_17, hg_wr_16, (hh_39.2.2.1.sub (L1 := [(r0, 17, 1, .int wc_16), (r0, 17, 0, .ref wr_16)]) [0, 1] rfl), (hh_39.2.2.2.2.2.2.2.2.sub (L1 := [(jFib, jIB dC dI ca Gx_16 0 ibx_16)]) [1] rfl), (by omega), (by omega), ⟨(by first | omega | rfl | assumption | fail), (by first | omega | rfl | assumption | fail), (by first | omega | rfl | assumption | fail), (by first | omega | rfl | assumption | fail), (by first | assumption | fail | omega), (by first | omega | rfl | assumption | fail)⟩⟩⟩ rfl rfl hl.1 rfl (lv_room (Nat.le_of_ble_eq_true rfl)) dX0_quoted_199 ⟨by rw [hRc]; omega, by rw [hRs]; omega⟩) hh_39.1 (fun q _ h => h) (fun q h => h) (fun u_44 t_44 H_44 locs_44 ht_44 hvm_44 hr_45 hb_44 hz_44 hk_44 hS_44 => ?_)
                  obtain ⟨qc_44, qa_44, m_qa_44, G_44⟩ := u_44
                  rw [ht_44] at hb_44
                  simp only at hb_44
                  obtain ⟨⟨hb_441, hb_442, hb_443, hb_444, hb_445, hb_446⟩, hgq_44_0, hN_44, hbO_44, hbE_44⟩ := hb_44
                  have hW_44 := hN_44
                  have hh_44 : jSt (dC, dI) B base G0 G_44 EX0_quotedI s.heap (zcx_16 + ((m_qa_44 - m_wr_16) / 16)) (zsx_16 + (2 * (m_qa_44 - m_wr_16))) [(r0, 17, 1, .int qc_44), (r0, 17, 0, .ref qa_44)] [(r1, 174, n1, ca 1, f1)] [] H_44 locs_44 := (hh_39.callG hb_441 hb_442 hb_443 hb_444 hb_445 hS_44 rfl (L1 := []) [] rfl rfl (M1 := [(r1, 174, n1, ca 1, f1)]) [0] rfl rfl (I1 := []) [] rfl rfl).more hb_446
                  have hNn_44 : (jNk [0, 1, 2, 3, 4, 5, 6, 7, 8, 9, 10, 11, 12, 13, 14, 15, 16, 17, 175]) G0 G_44 := (hN_16).tr hN_44
                  have hg_46 := hb_442 _ _ hg_17
                  have hg_47 := hb_442 _ _ hg_18
                  have hh_48 := hh_44.addIs hbE_44
                  have hd_49 := jOw.tr (hh_39.iv 0 rfl) hh_39.2.2.2.2.1 hbO_44
                  have hh_50 := hh_48.addI (jOw.ie (dC := dC) (dI := dI) (G0 := G0) (k := 17) (r := r0) (H0 := s.heap) (F := [(17, 0), (17, 1)]) (C := RX0) (T := TX0) (N := 2) rfl (by decide) hh_48.2.2.2.2.1 (hd_49))
                  clear hh_48
                  try simp only at hr_45
                  obtain ⟨hr_45_0, hr_45_1, hr_45_2, hr_45_3, hr_45_4, hr_45_5⟩ := hr_45
                  have hh_51 := hh_50.wk (zc1 := (m_qa_44 - n_pa) / 16) (zs1 := 2 * (m_qa_44 - n_pa)) (by omega) (by omega)
                  clear hh_50
                  try clear hsz_44 htt_44 hrc_44 hrs_44
                  try clear hb_444 hb_445
                  refine lv_aload_n hx hb dX0_quoted_202 rfl (lv_at hl 1 rfl) ?_
                  refine lv_iload hx hb dX0_quoted_203 (lv_at hl 0 rfl) ?_
                  have hsz_52 := hh_51.2.2.2.2.2.1
                  have htt_52 := hh_51.2.2.2.2.2.2.1
                  refine W.room (fun hrc_52 hrs_52 => ?_)
                  refine va_callv (A0 := jA base) (H0 := s.heap) (va_runV (As := [.int z_32]) (rest := []) ⟨hx, hb, hml, hown, hts⟩ (uX0_characterI l dC dI ca base B hB hAp hB2 hB17 hB196 hB199 G_44 H_44 r0 z_32 qc_44 qa_44 m_qa_44 (jUf ibx_16 r0 (ibx_16 r0 ++ [92 % 256])) LC LS) (cwV 1 hts (jgV (jWr_25 _ (List.mem_of_getElem? (i := 17) rfl)) (jWr_25 _ (List.mem_of_getElem? (i := 18) rfl)) (jWr_25 _ (List.mem_of_getElem? (i := 19) rfl)) (jWr_1 _ (List.mem_of_getElem? (i := 14) rfl)) (jWr_25 _ (List.mem_of_getElem? (i := 20) rfl))) rfl rfl rfl (by decide +kernel) ⟨by rw [← hR]; exact Nat.le_of_ble_eq_true rfl, by rw [← hR]; exact Nat.le_of_ble_eq_true rfl⟩) ⟨fun a U g mk q => by obtain ⟨q0, q1, q2, qK, q10, q11, q12, q13, q14⟩ := q; exact ⟨q0, q1, q2, jG.calling g mk a qK, q10, q11, q12, q13, q14⟩, hh_51.recv (C := RX0) (T := TX0) (N := 2) hB17 rfl (by decide) hg_46 hK, fun U hU hW => ⟨rfl, hU, hh_51.2.1, hG.step hW hU hh_51.1, hg_46, hgq_44_0, (hh_51.2.2.1.sub (L1 := [(r0, 17, 1, .int qc_44), (r0, 17, 0, .ref qa_44)]) [0, 1] rfl), (hh_51.2.2.2.2.2.2.2.2.sub (L1 := [(jFib, jIB dC dI ca G_44 0 (jUf ibx_16 r0 (ibx_16 r0 ++ [92 % 256])))]) [1] rfl), (by omega), (by omega), ⟨(by first | omega | rfl | assumption | fail), (by first | omega | rfl | assumption | fail), (by first | omega | rfl | assumption | fail), (by first | omega | rfl | assumption | fail), (by first | assumption | fail | omega), (by first | omega | rfl | assumption | fail), (by first | omega | rfl | assumption | fail), (by first | omega | rfl | assumption | fail)⟩⟩⟩ rfl rfl hl.1 rfl (lv_room (Nat.le_of_ble_eq_true rfl)) dX0_quoted_205 ⟨by rw [hRc]; omega, by rw [hRs]; omega⟩) hh_51.1 (fun q _ h => h) (fun q h => h) (fun u_52 t_52 H_52 locs_52 ht_52 hvm_52 hr_53 hb_52 hz_52 hk_52 hS_52 => ?_)
                  obtain ⟨qc_52, qa_52, m_qa_52, G_52⟩ := u_52
                  rw [ht_52] at hb_52
                  simp only at hb_52
                  obtain ⟨⟨hb_521, hb_522, hb_523, hb_524, hb_525, hb_526⟩, hgq_52_0, hN_52, hbO_52, hbE_52⟩ := hb_52
                  have hW_52 := hN_52
                  have hh_52 : jSt (dC, dI) B base G0 G_52 EX0_quotedI s.heap (((m_qa_44 - n_pa) / 16) + ((m_qa_52 - m_qa_44) / 16)) ((2 * (m_qa_44 - n_pa)) + (2 * (m_qa_52 - m_qa_44))) [(r0, 17, 1, .int qc_52), (r0, 17, 0, .ref qa_52)] [(r1, 174, n1, ca 1, f1)] [] H_52 locs_52 := (hh_51.callG hb_521 hb_522 hb_523 hb_524 hb_525 hS_52 rfl (L1 := []) [] rfl rfl (M1 := [(r1, 174, n1, ca 1, f1)]) [0] rfl rfl (I1 := []) [] rfl rfl).more hb_526
                  have hNn_52 : (jNk [0, 1, 2, 3, 4, 5, 6, 7, 8, 9, 10, 11, 12, 13, 14, 15, 16, 17, 175]) G0 G_52 := (hNn_44).tr hN_52
                  have hg_54 := hb_522 _ _ hg_46
                  have hg_55 := hb_522 _ _ hg_47
                  have hh_56 := hh_52.addIs hbE_52
                  have hd_57 := jOw.tr (hh_51.iv 0 rfl) hh_51.2.2.2.2.1 hbO_52
                  have hh_58 := hh_56.addI (jOw.ie (dC := dC) (dI := dI) (G0 := G0) (k := 17) (r := r0) (H0 := s.heap) (F := [(17, 0), (17, 1)]) (C := RX0) (T := TX0) (N := 2) rfl (by decide) hh_56.2.2.2.2.1 (hd_57))
                  clear hh_56
                  try simp only at hr_53
                  obtain ⟨hr_53_0, hr_53_1, hr_53_2, hr_53_3, hr_53_4, hr_53_5, hr_53_6⟩ := hr_53
                  have hh_59 := hh_58.wk (zc1 := (m_qa_52 - n_pa) / 16) (zs1 := 2 * (m_qa_52 - n_pa)) (by omega) (by omega)
                  clear hh_58
                  try clear hsz_52 htt_52 hrc_52 hrs_52
                  try clear hb_524 hb_525
                  obtain ⟨z_60, ez_60⟩ : ∃ y : Int32, y = v5_16 + 1 := ⟨_, rfl⟩
                  refine lv_iinc (v := z_60) (lv' := [(5, .int z_60), (6, .int z_32), (0, .ref r0), (1, .ref r1), (2, .int a2), (3, .int a3), (4, .int z_13)]) hx hb dX0_quoted_208 hl (k := 6) rfl (by rw [ez_60]; rfl) (by decide) rfl (fun ls hl => ?_)
                  have hz_60 : z_60.toInt = v5_16.toInt + 1 := by rw [ez_60]; exact jb_iadd2 (rfl) (by decide) (by omega)
                  refine lv_goto (tgt := 23) hx hb dX0_quoted_211 (by decide) ?_
                  refine W.tight (c2 := ((m_qa_52 - n_pa) / 16)) (n2 := (2 * (m_qa_52 - n_pa))) hh_59.2.2.2.2.2.1 hh_59.2.2.2.2.2.2.1 ?_
                  exact L23 G_52 ((m_qa_52 - n_pa) / 16) (2 * (m_qa_52 - n_pa)) z_60 qc_52 qa_52 m_qa_52 (jUf (jUf ibx_16 r0 (ibx_16 r0 ++ [92 % 256])) r0 ((jUf ibx_16 r0 (ibx_16 r0 ++ [92 % 256])) r0 ++ jiC z_32.toInt)) _ _ hh_59 (hNn_52) (((hle_16).tr hb_442).tr hb_522) hgq_52_0 (⟨(by first | (with_reducible assumption) | omega), (by first | (with_reducible assumption) | omega), (by first | (with_reducible assumption) | omega), (by first | (with_reducible assumption) | omega), (by first | (with_reducible assumption) | omega), (by first | (with_reducible assumption) | omega), (by first | (with_reducible assumption) | omega), by omega, by omega, by omega, by omega, by omega, hi_16_12.one (by omega) (by have h9 := hqz_32; omega) ((jiP.st.tr rfl).tr rfl) (by rw [← hqz_32]; exact jpC.bs (by omega) hk92) (by omega)⟩) (by omega) _ (lv_sub hl [2, 3, 4, 5, 6, 0] rfl)
                · skip
                  have c_43' : z_32.toInt ≠ 34 := jb_eq_n (rfl) ((by decide)) c_43
                  refine lv_iload hx hb dX0_quoted_189 (lv_at hl 0 rfl) ?_
                  refine lv_bipush (v := 92) hx hb dX0_quoted_191 (by decide) ?_
                  refine lv_icmp_ne (tgt := 202) hx hb dX0_quoted_193 (by decide) (fun c_61 => ?_) (fun c_61 => ?_)
                  · skip
                    have c_61' : z_32.toInt ≠ 92 := jb_ne (rfl) ((by decide)) c_61
                    refine lv_aload_n hx hb dX0_quoted_202 rfl (lv_at hl 1 rfl) ?_
                    refine lv_iload hx hb dX0_quoted_203 (lv_at hl 0 rfl) ?_
                    have hsz_62 := hh_39.2.2.2.2.2.1
                    have htt_62 := hh_39.2.2.2.2.2.2.1
                    refine W.room (fun hrc_62 hrs_62 => ?_)
                    refine va_callv (A0 := jA base) (H0 := s.heap) (va_runV (As := [.int z_32]) (rest := []) ⟨hx, hb, hml, hown, hts⟩ (uX0_characterI l dC dI ca base B hB hAp hB2 hB17 hB196 hB199 Gx_16 H_39 r0 z_32 wc_16 wr_16 m_wr_16 ibx_16 LC LS) (cwV 1 hts (jgV (jWr_25 _ (List.mem_of_getElem? (i := 17) rfl)) (jWr_25 _ (List.mem_of_getElem? (i := 18) rfl)) (jWr_25 _ (List.mem_of_getElem? (i := 19) rfl)) (jWr_1 _ (List.mem_of_getElem? (i := 14) rfl)) (jWr_25 _ (List.mem_of_getElem? (i := 20) rfl))) rfl rfl rfl (by decide +kernel) ⟨by rw [← hR]; exact Nat.le_of_ble_eq_true rfl, by rw [← hR]; exact Nat.le_of_ble_eq_true rfl⟩) ⟨fun a U g mk q => by obtain ⟨q0, q1, q2, qK, q10, q11, q12, q13, q14⟩ := q; exact ⟨q0, q1, q2, jG.calling g mk a qK, q10, q11, q12, q13, q14⟩, hh_39.recv (C := RX0) (T := TX0) (N := 2) hB17 rfl (by decide) hg_17 hK, fun U hU hW => ⟨rfl, hU, hh_39.2.1, hG.step hW hU hh_39.1, hg_17, hg_wr_16, (hh_39.2.2.1.sub (L1 := [(r0, 17, 1, .int wc_16), (r0, 17, 0, .ref wr_16)]) [0, 1] rfl), (hh_39.2.2.2.2.2.2.2.2.sub (L1 := [(jFib, jIB dC dI ca Gx_16 0 ibx_16)]) [1] rfl), (by omega), (by omega), ⟨(by first | omega | rfl | assumption | fail), (by first | omega | rfl | assumption | fail), (by first | omega | rfl | assumption | fail), (by first | omega | rfl | assumption | fail), (by first | assumption | fail | omega), (by first | omega | rfl | assumption | fail), (by first | omega | rfl | assumption | fail), (by first | omega | rfl | assumption | fail)⟩⟩⟩ rfl rfl hl.1 rfl (lv_room (Nat.le_of_ble_eq_true rfl)) dX0_quoted_205 ⟨by rw [hRc]; omega, by rw [hRs]; omega⟩) hh_39.1 (fun q _ h => h) (fun q h => h) (fun u_62 t_62 H_62 locs_62 ht_62 hvm_62 hr_63 hb_62 hz_62 hk_62 hS_62 => ?_)
                    obtain ⟨qc_62, qa_62, m_qa_62, G_62⟩ := u_62
                    rw [ht_62] at hb_62
                    simp only at hb_62
                    obtain ⟨⟨hb_621, hb_622, hb_623, hb_624, hb_625, hb_626⟩, hgq_62_0, hN_62, hbO_62, hbE_62⟩ := hb_62
                    have hW_62 := hN_62
                    have hh_62 : jSt (dC, dI) B base G0 G_62 EX0_quotedI s.heap (zcx_16 + ((m_qa_62 - m_wr_16) / 16)) (zsx_16 + (2 * (m_qa_62 - m_wr_16))) [(r0, 17, 1, .int qc_62), (r0, 17, 0, .ref qa_62)] [(r1, 174, n1, ca 1, f1)] [] H_62 locs_62 := (hh_39.callG hb_621 hb_622 hb_623 hb_624 hb_625 hS_62 rfl (L1 := []) [] rfl rfl (M1 := [(r1, 174, n1, ca 1, f1)]) [0] rfl rfl (I1 := []) [] rfl rfl).more hb_626
                    have hNn_62 : (jNk [0, 1, 2, 3, 4, 5, 6, 7, 8, 9, 10, 11, 12, 13, 14, 15, 16, 17, 175]) G0 G_62 := (hN_16).tr hN_62
                    have hg_64 := hb_622 _ _ hg_17
                    have hg_65 := hb_622 _ _ hg_18
                    have hh_66 := hh_62.addIs hbE_62
                    have hd_67 := jOw.tr (hh_39.iv 0 rfl) hh_39.2.2.2.2.1 hbO_62
                    have hh_68 := hh_66.addI (jOw.ie (dC := dC) (dI := dI) (G0 := G0) (k := 17) (r := r0) (H0 := s.heap) (F := [(17, 0), (17, 1)]) (C := RX0) (T := TX0) (N := 2) rfl (by decide) hh_66.2.2.2.2.1 (hd_67))
                    clear hh_66
                    try simp only at hr_63
                    obtain ⟨hr_63_0, hr_63_1, hr_63_2, hr_63_3, hr_63_4, hr_63_5, hr_63_6⟩ := hr_63
                    have hh_69 := hh_68.wk (zc1 := (m_qa_62 - n_pa) / 16) (zs1 := 2 * (m_qa_62 - n_pa)) (by omega) (by omega)
                    clear hh_68
                    try clear hsz_62 htt_62 hrc_62 hrs_62
                    try clear hb_624 hb_625
                    obtain ⟨z_70, ez_70⟩ : ∃ y : Int32, y = v5_16 + 1 := ⟨_, rfl⟩
                    refine lv_iinc (v := z_70) (lv' := [(5, .int z_70), (6, .int z_32), (0, .ref r0), (1, .ref r1), (2, .int a2), (3, .int a3), (4, .int z_13)]) hx hb dX0_quoted_208 hl (k := 6) rfl (by rw [ez_70]; rfl) (by decide) rfl (fun ls hl => ?_)
                    have hz_70 : z_70.toInt = v5_16.toInt + 1 := by rw [ez_70]; exact jb_iadd2 (rfl) (by decide) (by omega)
                    refine lv_goto (tgt := 23) hx hb dX0_quoted_211 (by decide) ?_
                    refine W.tight (c2 := ((m_qa_62 - n_pa) / 16)) (n2 := (2 * (m_qa_62 - n_pa))) hh_69.2.2.2.2.2.1 hh_69.2.2.2.2.2.2.1 ?_
                    exact L23 G_62 ((m_qa_62 - n_pa) / 16) (2 * (m_qa_62 - n_pa)) z_70 qc_62 qa_62 m_qa_62 (jUf ibx_16 r0 (ibx_16 r0 ++ jiC z_32.toInt)) _ _ hh_69 (hNn_62) ((hle_16).tr hb_622) hgq_62_0 (⟨(by first | (with_reducible assumption) | omega), (by first | (with_reducible assumption) | omega), (by first | (with_reducible assumption) | omega), (by first | (with_reducible assumption) | omega), (by first | (with_reducible assumption) | omega), (by first | (with_reducible assumption) | omega), (by first | (with_reducible assumption) | omega), by omega, by omega, by omega, by omega, by omega, hi_16_12.one (by omega) (by have h9 := hqz_32; omega) (jiP.st.tr rfl) (by rw [← hqz_32]; exact jpC.pl (by omega) (by omega) (by omega)) (by omega)⟩) (by omega) _ (lv_sub hl [2, 3, 4, 5, 6, 0] rfl)
                  · skip
                    have c_61' : z_32.toInt = 92 := jb_ne_n (rfl) ((by decide)) c_61
                    refine lv_aload_n hx hb dX0_quoted_196 rfl (lv_at hl 1 rfl) ?_
                    refine lv_bipush (v := 92) hx hb dX0_quoted_197 (by decide) ?_
                    have hsz_71 := hh_39.2.2.2.2.2.1
                    have htt_71 := hh_39.2.2.2.2.2.2.1
                    refine W.room (fun hrc_71 hrs_71 => ?_)
                    refine va_callv (A0 := jA base) (H0 := s.heap) (va_runV (As := [.int 92]) (rest := []) ⟨hx, hb, hml, hown, hts⟩ (uX0_putI l dC dI ca base B hB hAp hB2 hB17 hB196 hB199 Gx_16 H_39 r0 92 wc_16 wr_16 m_wr_16 ibx_16 LC LS) (cwV 1 hts (jgV (jWr_24 _ (List.mem_of_getElem? (i := 22) rfl)) (jWr_16 _ (List.mem_of_getElem? (i := 0) rfl)) (jWr_16 _ (List.mem_of_getElem? (i := 1) rfl)) (jWr_1 _ (List.mem_of_getElem? (i := 14) rfl)) (jWr_16 _ (List.mem_of_getElem? (i := 2) rfl))) rfl rfl rfl (by decide +kernel) ⟨by rw [← hR]; exact Nat.le_of_ble_eq_true rfl, by rw [← hR]; exact Nat.le_of_ble_eq_true rfl⟩) ⟨fun a U g mk q => by obtain ⟨q0, q1, q2, qK, q10, q11, q12, q13, q14⟩ := q; exact ⟨q0, q1, q2, jG.calling g mk a qK, q10, q11, q12, q13, q14⟩, hh_39.recv (C := RX0) (T := TX0) (N := 2) hB17 rfl (by decide) hg_17 hK, fun U hU hW => ⟨rfl, hU, hh_39.2.1, hG.step hW hU hh_39.1, hg_17, hg_wr_16, (hh_39.2.2.1.sub (L1 := [(r0, 17, 1, .int wc_16), (r0, 17, 0, .ref wr_16)]) [0, 1] rfl), (hh_39.2.2.2.2.2.2.2.2.sub (L1 := [(jFib, jIB dC dI ca Gx_16 0 ibx_16)]) [1] rfl), (by omega), (by omega), ⟨(by first | omega | rfl | assumption | fail), (by first | omega | rfl | assumption | fail), (by first | omega | rfl | assumption | fail), (by first | omega | rfl | assumption | fail), (by first | assumption | fail | omega), (by first | omega | rfl | assumption | fail)⟩⟩⟩ rfl rfl hl.1 rfl (lv_room (Nat.le_of_ble_eq_true rfl)) dX0_quoted_199 ⟨by rw [hRc]; omega, by rw [hRs]; omega⟩) hh_39.1 (fun q _ h => h) (fun q h => h) (fun u_71 t_71 H_71 locs_71 ht_71 hvm_71 hr_72 hb_71 hz_71 hk_71 hS_71 => ?_)
                    obtain ⟨qc_71, qa_71, m_qa_71, G_71⟩ := u_71
                    rw [ht_71] at hb_71
                    simp only at hb_71
                    obtain ⟨⟨hb_711, hb_712, hb_713, hb_714, hb_715, hb_716⟩, hgq_71_0, hN_71, hbO_71, hbE_71⟩ := hb_71
                    have hW_71 := hN_71
                    have hh_71 : jSt (dC, dI) B base G0 G_71 EX0_quotedI s.heap (zcx_16 + ((m_qa_71 - m_wr_16) / 16)) (zsx_16 + (2 * (m_qa_71 - m_wr_16))) [(r0, 17, 1, .int qc_71), (r0, 17, 0, .ref qa_71)] [(r1, 174, n1, ca 1, f1)] [] H_71 locs_71 := (hh_39.callG hb_711 hb_712 hb_713 hb_714 hb_715 hS_71 rfl (L1 := []) [] rfl rfl (M1 := [(r1, 174, n1, ca 1, f1)]) [0] rfl rfl (I1 := []) [] rfl rfl).more hb_716
                    have hNn_71 : (jNk [0, 1, 2, 3, 4, 5, 6, 7, 8, 9, 10, 11, 12, 13, 14, 15, 16, 17, 175]) G0 G_71 := (hN_16).tr hN_71
                    have hg_73 := hb_712 _ _ hg_17
                    have hg_74 := hb_712 _ _ hg_18
                    have hh_75 := hh_71.addIs hbE_71
                    have hd_76 := jOw.tr (hh_39.iv 0 rfl) hh_39.2.2.2.2.1 hbO_71
                    have hh_77 := hh_75.addI (jOw.ie (dC := dC) (dI := dI) (G0 := G0) (k := 17) (r := r0) (H0 := s.heap) (F := [(17, 0), (17, 1)]) (C := RX0) (T := TX0) (N := 2) rfl (by decide) hh_75.2.2.2.2.1 (hd_76))
                    clear hh_75
                    try simp only at hr_72
                    obtain ⟨hr_72_0, hr_72_1, hr_72_2, hr_72_3, hr_72_4, hr_72_5⟩ := hr_72
                    have hh_78 := hh_77.wk (zc1 := (m_qa_71 - n_pa) / 16) (zs1 := 2 * (m_qa_71 - n_pa)) (by omega) (by omega)
                    clear hh_77
                    try clear hsz_71 htt_71 hrc_71 hrs_71
                    try clear hb_714 hb_715
                    refine lv_aload_n hx hb dX0_quoted_202 rfl (lv_at hl 1 rfl) ?_
                    refine lv_iload hx hb dX0_quoted_203 (lv_at hl 0 rfl) ?_
                    have hsz_79 := hh_78.2.2.2.2.2.1
                    have htt_79 := hh_78.2.2.2.2.2.2.1
                    refine W.room (fun hrc_79 hrs_79 => ?_)
                    refine va_callv (A0 := jA base) (H0 := s.heap) (va_runV (As := [.int z_32]) (rest := []) ⟨hx, hb, hml, hown, hts⟩ (uX0_characterI l dC dI ca base B hB hAp hB2 hB17 hB196 hB199 G_71 H_71 r0 z_32 qc_71 qa_71 m_qa_71 (jUf ibx_16 r0 (ibx_16 r0 ++ [92 % 256])) LC LS) (cwV 1 hts (jgV (jWr_25 _ (List.mem_of_getElem? (i := 17) rfl)) (jWr_25 _ (List.mem_of_getElem? (i := 18) rfl)) (jWr_25 _ (List.mem_of_getElem? (i := 19) rfl)) (jWr_1 _ (List.mem_of_getElem? (i := 14) rfl)) (jWr_25 _ (List.mem_of_getElem? (i := 20) rfl))) rfl rfl rfl (by decide +kernel) ⟨by rw [← hR]; exact Nat.le_of_ble_eq_true rfl, by rw [← hR]; exact Nat.le_of_ble_eq_true rfl⟩) ⟨fun a U g mk q => by obtain ⟨q0, q1, q2, qK, q10, q11, q12, q13, q14⟩ := q; exact ⟨q0, q1, q2, jG.calling g mk a qK, q10, q11, q12, q13, q14⟩, hh_78.recv (C := RX0) (T := TX0) (N := 2) hB17 rfl (by decide) hg_73 hK, fun U hU hW => ⟨rfl, hU, hh_78.2.1, hG.step hW hU hh_78.1, hg_73, hgq_71_0, (hh_78.2.2.1.sub (L1 := [(r0, 17, 1, .int qc_71), (r0, 17, 0, .ref qa_71)]) [0, 1] rfl), (hh_78.2.2.2.2.2.2.2.2.sub (L1 := [(jFib, jIB dC dI ca G_71 0 (jUf ibx_16 r0 (ibx_16 r0 ++ [92 % 256])))]) [1] rfl), (by omega), (by omega), ⟨(by first | omega | rfl | assumption | fail), (by first | omega | rfl | assumption | fail), (by first | omega | rfl | assumption | fail), (by first | omega | rfl | assumption | fail), (by first | assumption | fail | omega), (by first | omega | rfl | assumption | fail), (by first | omega | rfl | assumption | fail), (by first | omega | rfl | assumption | fail)⟩⟩⟩ rfl rfl hl.1 rfl (lv_room (Nat.le_of_ble_eq_true rfl)) dX0_quoted_205 ⟨by rw [hRc]; omega, by rw [hRs]; omega⟩) hh_78.1 (fun q _ h => h) (fun q h => h) (fun u_79 t_79 H_79 locs_79 ht_79 hvm_79 hr_80 hb_79 hz_79 hk_79 hS_79 => ?_)
                    obtain ⟨qc_79, qa_79, m_qa_79, G_79⟩ := u_79
                    rw [ht_79] at hb_79
                    simp only at hb_79
                    obtain ⟨⟨hb_791, hb_792, hb_793, hb_794, hb_795, hb_796⟩, hgq_79_0, hN_79, hbO_79, hbE_79⟩ := hb_79
                    have hW_79 := hN_79
                    have hh_79 : jSt (dC, dI) B base G0 G_79 EX0_quotedI s.heap (((m_qa_71 - n_pa) / 16) + ((m_qa_79 - m_qa_71) / 16)) ((2 * (m_qa_71 - n_pa)) + (2 * (m_qa_79 - m_qa_71))) [(r0, 17, 1, .int qc_79), (r0, 17, 0, .ref qa_79)] [(r1, 174, n1, ca 1, f1)] [] H_79 locs_79 := (hh_78.callG hb_791 hb_792 hb_793 hb_794 hb_795 hS_79 rfl (L1 := []) [] rfl rfl (M1 := [(r1, 174, n1, ca 1, f1)]) [0] rfl rfl (I1 := []) [] rfl rfl).more hb_796
                    have hNn_79 : (jNk [0, 1, 2, 3, 4, 5, 6, 7, 8, 9, 10, 11, 12, 13, 14, 15, 16, 17, 175]) G0 G_79 := (hNn_71).tr hN_79
                    have hg_81 := hb_792 _ _ hg_73
                    have hg_82 := hb_792 _ _ hg_74
                    have hh_83 := hh_79.addIs hbE_79
                    have hd_84 := jOw.tr (hh_78.iv 0 rfl) hh_78.2.2.2.2.1 hbO_79
                    have hh_85 := hh_83.addI (jOw.ie (dC := dC) (dI := dI) (G0 := G0) (k := 17) (r := r0) (H0 := s.heap) (F := [(17, 0), (17, 1)]) (C := RX0) (T := TX0) (N := 2) rfl (by decide) hh_83.2.2.2.2.1 (hd_84))
                    clear hh_83
                    try simp only at hr_80
                    obtain ⟨hr_80_0, hr_80_1, hr_80_2, hr_80_3, hr_80_4, hr_80_5, hr_80_6⟩ := hr_80
                    have hh_86 := hh_85.wk (zc1 := (m_qa_79 - n_pa) / 16) (zs1 := 2 * (m_qa_79 - n_pa)) (by omega) (by omega)
                    clear hh_85
                    try clear hsz_79 htt_79 hrc_79 hrs_79
                    try clear hb_794 hb_795
                    obtain ⟨z_87, ez_87⟩ : ∃ y : Int32, y = v5_16 + 1 := ⟨_, rfl⟩
                    refine lv_iinc (v := z_87) (lv' := [(5, .int z_87), (6, .int z_32), (0, .ref r0), (1, .ref r1), (2, .int a2), (3, .int a3), (4, .int z_13)]) hx hb dX0_quoted_208 hl (k := 6) rfl (by rw [ez_87]; rfl) (by decide) rfl (fun ls hl => ?_)
                    have hz_87 : z_87.toInt = v5_16.toInt + 1 := by rw [ez_87]; exact jb_iadd2 (rfl) (by decide) (by omega)
                    refine lv_goto (tgt := 23) hx hb dX0_quoted_211 (by decide) ?_
                    refine W.tight (c2 := ((m_qa_79 - n_pa) / 16)) (n2 := (2 * (m_qa_79 - n_pa))) hh_86.2.2.2.2.2.1 hh_86.2.2.2.2.2.2.1 ?_
                    exact L23 G_79 ((m_qa_79 - n_pa) / 16) (2 * (m_qa_79 - n_pa)) z_87 qc_79 qa_79 m_qa_79 (jUf (jUf ibx_16 r0 (ibx_16 r0 ++ [92 % 256])) r0 ((jUf ibx_16 r0 (ibx_16 r0 ++ [92 % 256])) r0 ++ jiC z_32.toInt)) _ _ hh_86 (hNn_79) (((hle_16).tr hb_712).tr hb_792) hgq_79_0 (⟨(by first | (with_reducible assumption) | omega), (by first | (with_reducible assumption) | omega), (by first | (with_reducible assumption) | omega), (by first | (with_reducible assumption) | omega), (by first | (with_reducible assumption) | omega), (by first | (with_reducible assumption) | omega), (by first | (with_reducible assumption) | omega), by omega, by omega, by omega, by omega, by omega, hi_16_12.one (by omega) (by have h9 := hqz_32; omega) ((jiP.st.tr rfl).tr rfl) (by rw [← hqz_32]; exact jpC.bs (by omega) hk92) (by omega)⟩) (by omega) _ (lv_sub hl [2, 3, 4, 5, 6, 0] rfl)
              · skip
                have c_42' : z_32.toInt < 32 := jb_ge_n (rfl) ((by decide)) c_42
                refine lv_aload_n hx hb dX0_quoted_126 rfl (lv_at hl 1 rfl) ?_
                refine va_ldcS hx hb hown rstr67 dX0_quoted_127 ?_
                have hsz_88 := hh_39.2.2.2.2.2.1
                have htt_88 := hh_39.2.2.2.2.2.2.1
                refine W.room (fun hrc_88 hrs_88 => ?_)
                refine va_callv (A0 := jA base) (H0 := s.heap) (va_runV (As := [.ref str67]) (rest := []) ⟨hx, hb, hml, hown, hts⟩ (uX0_textI l dC dI ca base B hB hAp hB2 hB17 hB196 hB199 Gx_16 H_39 r0 str67 4 (jChT "\\u00") wc_16 wr_16 m_wr_16 ibx_16 LC LS) (cwV 1 hts (jgV (jWr_25 _ (List.mem_of_getElem? (i := 21) rfl)) (jWr_25 _ (List.mem_of_getElem? (i := 22) rfl)) (jWr_25 _ (List.mem_of_getElem? (i := 23) rfl)) (jWr_1 _ (List.mem_of_getElem? (i := 14) rfl)) (jWr_26 _ (List.mem_of_getElem? (i := 0) rfl))) rfl rfl rfl (by decide +kernel) ⟨by rw [← hR]; exact Nat.le_of_ble_eq_true rfl, by rw [← hR]; exact Nat.le_of_ble_eq_true rfl⟩) ⟨fun a U g mk q => by obtain ⟨q0, q1, q2, qK, q10, q11, q12, q13, q14, q15⟩ := q; exact ⟨q0, q1, q2, jG.calling g mk a qK, (q10.moved (Vm.Alike.refl U.vm)), q11, q12, q13, q14, q15⟩, hh_39.recv (C := RX0) (T := TX0) (N := 2) hB17 rfl (by decide) hg_17 hK, fun U hU hW => ⟨rfl, hU, hh_39.2.1, hG.step hW hU hh_39.1, (hTstr67.moved hW.alike).kept hh_39.1.2.1, hg_17, hg_wr_16, (hh_39.2.2.1.sub (L1 := [(r0, 17, 1, .int wc_16), (r0, 17, 0, .ref wr_16)]) [0, 1] rfl), (hh_39.2.2.2.2.2.2.2.2.sub (L1 := [(jFib, jIB dC dI ca Gx_16 0 ibx_16)]) [1] rfl), (by omega), (by omega), ⟨(by first | omega | rfl | assumption | fail), (by first | omega | rfl | assumption | fail), (by first | omega | rfl | assumption | fail), (by first | omega | rfl | assumption | fail), (by first | assumption | fail | omega), (by first | omega | rfl | assumption | fail), (by first | omega | rfl | assumption | fail)⟩⟩⟩ rfl rfl hl.1 rfl (lv_room (Nat.le_of_ble_eq_true rfl)) dX0_quoted_129 ⟨by rw [hRc]; omega, by rw [hRs]; omega⟩) hh_39.1 (fun q _ h => h) (fun q h => h) (fun u_88 t_88 H_88 locs_88 ht_88 hvm_88 hr_89 hb_88 hz_88 hk_88 hS_88 => ?_)
                obtain ⟨qc_88, qa_88, m_qa_88, G_88⟩ := u_88
                rw [ht_88] at hb_88
                simp only at hb_88
                obtain ⟨⟨hb_881, hb_882, hb_883, hb_884, hb_885, hb_886⟩, hgq_88_0, hN_88, hbO_88, hbE_88⟩ := hb_88
                have hW_88 := hN_88
                have hh_88 : jSt (dC, dI) B base G0 G_88 EX0_quotedI s.heap (zcx_16 + ((m_qa_88 - m_wr_16) / 16)) (zsx_16 + (2 * (m_qa_88 - m_wr_16))) [(r0, 17, 1, .int qc_88), (r0, 17, 0, .ref qa_88)] [(r1, 174, n1, ca 1, f1)] [] H_88 locs_88 := (hh_39.callG hb_881 hb_882 hb_883 hb_884 hb_885 hS_88 rfl (L1 := []) [] rfl rfl (M1 := [(r1, 174, n1, ca 1, f1)]) [0] rfl rfl (I1 := []) [] rfl rfl).more hb_886
                have hNn_88 : (jNk [0, 1, 2, 3, 4, 5, 6, 7, 8, 9, 10, 11, 12, 13, 14, 15, 16, 17, 175]) G0 G_88 := (hN_16).tr hN_88
                have hg_90 := hb_882 _ _ hg_17
                have hg_91 := hb_882 _ _ hg_18
                have hh_92 := hh_88.addIs hbE_88
                have hd_93 := jOw.tr (hh_39.iv 0 rfl) hh_39.2.2.2.2.1 hbO_88
                have hh_94 := hh_92.addI (jOw.ie (dC := dC) (dI := dI) (G0 := G0) (k := 17) (r := r0) (H0 := s.heap) (F := [(17, 0), (17, 1)]) (C := RX0) (T := TX0) (N := 2) rfl (by decide) hh_92.2.2.2.2.1 (hd_93))
                clear hh_92
                try simp only at hr_89
                obtain ⟨hr_89_0, hr_89_1, hr_89_2, hr_89_3, hr_89_4, hr_89_5⟩ := hr_89
                have hh_95 := hh_94.wk (zc1 := (m_qa_88 - n_pa) / 16) (zs1 := 2 * (m_qa_88 - n_pa)) (by omega) (by omega)
                clear hh_94
                try clear hsz_88 htt_88 hrc_88 hrs_88
                try clear hb_884 hb_885
                refine lv_aload_n hx hb dX0_quoted_132 rfl (lv_at hl 1 rfl) ?_
                refine lv_bipush (v := 48) hx hb dX0_quoted_133 (by decide) ?_
                refine lv_iload hx hb dX0_quoted_135 (lv_at hl 0 rfl) ?_
                refine lv_iconst (v := 4) hx hb dX0_quoted_137 (by decide) ?_
                refine lv_ishr hx hb dX0_quoted_138 ?_
                refine lv_topi (fun z_96 ez_96 => ?_)
                have hz_96 : z_96.toInt = z_32.toInt / 2 ^ 4 := by rw [ez_96]; exact jb_ishr 4 (rfl) (by decide)
                refine lv_iadd hx hb dX0_quoted_139 ?_
                refine lv_topi (fun z_97 ez_97 => ?_)
                have hz_97 : z_97.toInt = 48 + z_96.toInt := by rw [ez_97]; exact jb_iadd2 ((by decide)) (rfl) (by omega)
                have hsz_98 := hh_95.2.2.2.2.2.1
                have htt_98 := hh_95.2.2.2.2.2.2.1
                refine W.room (fun hrc_98 hrs_98 => ?_)
                refine va_callv (A0 := jA base) (H0 := s.heap) (va_runV (As := [.int z_97]) (rest := []) ⟨hx, hb, hml, hown, hts⟩ (uX0_putI l dC dI ca base B hB hAp hB2 hB17 hB196 hB199 G_88 H_88 r0 z_97 qc_88 qa_88 m_qa_88 (jUf ibx_16 r0 (ibx_16 r0 ++ jiT (jChT "\\u00") 4)) LC LS) (cwV 1 hts (jgV (jWr_24 _ (List.mem_of_getElem? (i := 22) rfl)) (jWr_16 _ (List.mem_of_getElem? (i := 0) rfl)) (jWr_16 _ (List.mem_of_getElem? (i := 1) rfl)) (jWr_1 _ (List.mem_of_getElem? (i := 14) rfl)) (jWr_16 _ (List.mem_of_getElem? (i := 2) rfl))) rfl rfl rfl (by decide +kernel) ⟨by rw [← hR]; exact Nat.le_of_ble_eq_true rfl, by rw [← hR]; exact Nat.le_of_ble_eq_true rfl⟩) ⟨fun a U g mk q => by obtain ⟨q0, q1, q2, qK, q10, q11, q12, q13, q14⟩ := q; exact ⟨q0, q1, q2, jG.calling g mk a qK, q10, q11, q12, q13, q14⟩, hh_95.recv (C := RX0) (T := TX0) (N := 2) hB17 rfl (by decide) hg_90 hK, fun U hU hW => ⟨rfl, hU, hh_95.2.1, hG.step hW hU hh_95.1, hg_90, hgq_88_0, (hh_95.2.2.1.sub (L1 := [(r0, 17, 1, .int qc_88), (r0, 17, 0, .ref qa_88)]) [0, 1] rfl), (hh_95.2.2.2.2.2.2.2.2.sub (L1 := [(jFib, jIB dC dI ca G_88 0 (jUf ibx_16 r0 (ibx_16 r0 ++ jiT (jChT "\\u00") 4)))]) [1] rfl), (by omega), (by omega), ⟨(by first | omega | rfl | assumption | fail), (by first | omega | rfl | assumption | fail), (by first | omega | rfl | assumption | fail), (by first | omega | rfl | assumption | fail), (by first | assumption | fail | omega), (by first | omega | rfl | assumption | fail)⟩⟩⟩ rfl rfl hl.1 rfl (lv_room (Nat.le_of_ble_eq_true rfl)) dX0_quoted_140 ⟨by rw [hRc]; omega, by rw [hRs]; omega⟩) hh_95.1 (fun q _ h => h) (fun q h => h) (fun u_98 t_98 H_98 locs_98 ht_98 hvm_98 hr_99 hb_98 hz_98 hk_98 hS_98 => ?_)
                obtain ⟨qc_98, qa_98, m_qa_98, G_98⟩ := u_98
                rw [ht_98] at hb_98
                simp only at hb_98
                obtain ⟨⟨hb_981, hb_982, hb_983, hb_984, hb_985, hb_986⟩, hgq_98_0, hN_98, hbO_98, hbE_98⟩ := hb_98
                have hW_98 := hN_98
                have hh_98 : jSt (dC, dI) B base G0 G_98 EX0_quotedI s.heap (((m_qa_88 - n_pa) / 16) + ((m_qa_98 - m_qa_88) / 16)) ((2 * (m_qa_88 - n_pa)) + (2 * (m_qa_98 - m_qa_88))) [(r0, 17, 1, .int qc_98), (r0, 17, 0, .ref qa_98)] [(r1, 174, n1, ca 1, f1)] [] H_98 locs_98 := (hh_95.callG hb_981 hb_982 hb_983 hb_984 hb_985 hS_98 rfl (L1 := []) [] rfl rfl (M1 := [(r1, 174, n1, ca 1, f1)]) [0] rfl rfl (I1 := []) [] rfl rfl).more hb_986
                have hNn_98 : (jNk [0, 1, 2, 3, 4, 5, 6, 7, 8, 9, 10, 11, 12, 13, 14, 15, 16, 17, 175]) G0 G_98 := (hNn_88).tr hN_98
                have hg_100 := hb_982 _ _ hg_90
                have hg_101 := hb_982 _ _ hg_91
                have hh_102 := hh_98.addIs hbE_98
                have hd_103 := jOw.tr (hh_95.iv 0 rfl) hh_95.2.2.2.2.1 hbO_98
                have hh_104 := hh_102.addI (jOw.ie (dC := dC) (dI := dI) (G0 := G0) (k := 17) (r := r0) (H0 := s.heap) (F := [(17, 0), (17, 1)]) (C := RX0) (T := TX0) (N := 2) rfl (by decide) hh_102.2.2.2.2.1 (hd_103))
                clear hh_102
                try simp only at hr_99
                obtain ⟨hr_99_0, hr_99_1, hr_99_2, hr_99_3, hr_99_4, hr_99_5⟩ := hr_99
                have hh_105 := hh_104.wk (zc1 := (m_qa_98 - n_pa) / 16) (zs1 := 2 * (m_qa_98 - n_pa)) (by omega) (by omega)
                clear hh_104
                try clear hsz_98 htt_98 hrc_98 hrs_98
                try clear hb_984 hb_985
                refine lv_aload_n hx hb dX0_quoted_143 rfl (lv_at hl 1 rfl) ?_
                refine lv_iload hx hb dX0_quoted_144 (lv_at hl 0 rfl) ?_
                refine lv_bipush (v := 15) hx hb dX0_quoted_146 (by decide) ?_
                refine lv_iand hx hb dX0_quoted_148 ?_
                refine lv_topi (fun z_106 ez_106 => ?_)
                have hz_106 : 0 ≤ z_106.toInt ∧ z_106.toInt ≤ 15 := by rw [ez_106]; exact jb_and z_32 (m := 15) (k := 4) (by decide) (by decide)
                have hbz_106 : z_106.toInt = z_32.toInt % 16 := by rw [ez_106, jb_and15]
                refine lv_bipush (v := 10) hx hb dX0_quoted_149 (by decide) ?_
                refine lv_icmp_ge (tgt := 165) hx hb dX0_quoted_151 (by decide) (fun c_107 => ?_) (fun c_107 => ?_)
                · skip
                  have c_107' : z_106.toInt ≥ 10 := jb_ge (rfl) ((by decide)) c_107
                  refine lv_bipush (v := 97) hx hb dX0_quoted_165 (by decide) ?_
                  refine lv_iload hx hb dX0_quoted_167 (lv_at hl 0 rfl) ?_
                  refine lv_bipush (v := 15) hx hb dX0_quoted_169 (by decide) ?_
                  refine lv_iand hx hb dX0_quoted_171 ?_
                  refine lv_topi (fun z_108 ez_108 => ?_)
                  have hz_108 : 0 ≤ z_108.toInt ∧ z_108.toInt ≤ 15 := by rw [ez_108]; exact jb_and z_32 (m := 15) (k := 4) (by decide) (by decide)
                  have hbz_108 : z_108.toInt = z_32.toInt % 16 := by rw [ez_108, jb_and15]
                  refine lv_iadd hx hb dX0_quoted_172 ?_
                  refine lv_topi (fun z_109 ez_109 => ?_)
                  have hz_109 : z_109.toInt = 97 + z_108.toInt := by rw [ez_109]; exact jb_iadd2 ((by decide)) (rfl) (by omega)
                  refine lv_bipush (v := 10) hx hb dX0_quoted_173 (by decide) ?_
                  refine lv_isub hx hb dX0_quoted_175 ?_
                  refine lv_topi (fun z_110 ez_110 => ?_)
                  have hz_110 : z_110.toInt = z_109.toInt - 10 := by rw [ez_110]; exact jb_isub2 (rfl) ((by decide)) (by omega)
                  have hsz_111 := hh_105.2.2.2.2.2.1
                  have htt_111 := hh_105.2.2.2.2.2.2.1
                  refine W.room (fun hrc_111 hrs_111 => ?_)
                  refine va_callv (A0 := jA base) (H0 := s.heap) (va_runV (As := [.int z_110]) (rest := []) ⟨hx, hb, hml, hown, hts⟩ (uX0_putI l dC dI ca base B hB hAp hB2 hB17 hB196 hB199 G_98 H_98 r0 z_110 qc_98 qa_98 m_qa_98 (jUf (jUf ibx_16 r0 (ibx_16 r0 ++ jiT (jChT "\\u00") 4)) r0 ((jUf ibx_16 r0 (ibx_16 r0 ++ jiT (jChT "\\u00") 4)) r0 ++ [z_97.toInt % 256])) LC LS) (cwV 1 hts (jgV (jWr_24 _ (List.mem_of_getElem? (i := 22) rfl)) (jWr_16 _ (List.mem_of_getElem? (i := 0) rfl)) (jWr_16 _ (List.mem_of_getElem? (i := 1) rfl)) (jWr_1 _ (List.mem_of_getElem? (i := 14) rfl)) (jWr_16 _ (List.mem_of_getElem? (i := 2) rfl))) rfl rfl rfl (by decide +kernel) ⟨by rw [← hR]; exact Nat.le_of_ble_eq_true rfl, by rw [← hR]; exact Nat.le_of_ble_eq_true rfl⟩) ⟨fun a U g mk q => by obtain ⟨q0, q1, q2, qK, q10, q11, q12, q13, q14⟩ := q; exact ⟨q0, q1, q2, jG.calling g mk a qK, q10, q11, q12, q13, q14⟩, hh_105.recv (C := RX0) (T := TX0) (N := 2) hB17 rfl (by decide) hg_100 hK, fun U hU hW => ⟨rfl, hU, hh_105.2.1, hG.step hW hU hh_105.1, hg_100, hgq_98_0, (hh_105.2.2.1.sub (L1 := [(r0, 17, 1, .int qc_98), (r0, 17, 0, .ref qa_98)]) [0, 1] rfl), (hh_105.2.2.2.2.2.2.2.2.sub (L1 := [(jFib, jIB dC dI ca G_98 0 (jUf (jUf ibx_16 r0 (ibx_16 r0 ++ jiT (jChT "\\u00") 4)) r0 ((jUf ibx_16 r0 (ibx_16 r0 ++ jiT (jChT "\\u00") 4)) r0 ++ [z_97.toInt % 256])))]) [1] rfl), (by omega), (by omega), ⟨(by first | omega | rfl | assumption | fail), (by first | omega | rfl | assumption | fail), (by first | omega | rfl | assumption | fail), (by first | omega | rfl | assumption | fail), (by first | assumption | fail | omega), (by first | omega | rfl | assumption | fail)⟩⟩⟩ rfl rfl hl.1 rfl (lv_room (Nat.le_of_ble_eq_true rfl)) dX0_quoted_176 ⟨by rw [hRc]; omega, by rw [hRs]; omega⟩) hh_105.1 (fun q _ h => h) (fun q h => h) (fun u_111 t_111 H_111 locs_111 ht_111 hvm_111 hr_112 hb_111 hz_111 hk_111 hS_111 => ?_)
                  obtain ⟨qc_111, qa_111, m_qa_111, G_111⟩ := u_111
                  rw [ht_111] at hb_111
                  simp only at hb_111
                  obtain ⟨⟨hb_1111, hb_1112, hb_1113, hb_1114, hb_1115, hb_1116⟩, hgq_111_0, hN_111, hbO_111, hbE_111⟩ := hb_111
                  have hW_111 := hN_111
                  have hh_111 : jSt (dC, dI) B base G0 G_111 EX0_quotedI s.heap (((m_qa_98 - n_pa) / 16) + ((m_qa_111 - m_qa_98) / 16)) ((2 * (m_qa_98 - n_pa)) + (2 * (m_qa_111 - m_qa_98))) [(r0, 17, 1, .int qc_111), (r0, 17, 0, .ref qa_111)] [(r1, 174, n1, ca 1, f1)] [] H_111 locs_111 := (hh_105.callG hb_1111 hb_1112 hb_1113 hb_1114 hb_1115 hS_111 rfl (L1 := []) [] rfl rfl (M1 := [(r1, 174, n1, ca 1, f1)]) [0] rfl rfl (I1 := []) [] rfl rfl).more hb_1116
                  have hNn_111 : (jNk [0, 1, 2, 3, 4, 5, 6, 7, 8, 9, 10, 11, 12, 13, 14, 15, 16, 17, 175]) G0 G_111 := (hNn_98).tr hN_111
                  have hg_113 := hb_1112 _ _ hg_100
                  have hg_114 := hb_1112 _ _ hg_101
                  have hh_115 := hh_111.addIs hbE_111
                  have hd_116 := jOw.tr (hh_105.iv 0 rfl) hh_105.2.2.2.2.1 hbO_111
                  have hh_117 := hh_115.addI (jOw.ie (dC := dC) (dI := dI) (G0 := G0) (k := 17) (r := r0) (H0 := s.heap) (F := [(17, 0), (17, 1)]) (C := RX0) (T := TX0) (N := 2) rfl (by decide) hh_115.2.2.2.2.1 (hd_116))
                  clear hh_115
                  try simp only at hr_112
                  obtain ⟨hr_112_0, hr_112_1, hr_112_2, hr_112_3, hr_112_4, hr_112_5⟩ := hr_112
                  have hh_118 := hh_117.wk (zc1 := (m_qa_111 - n_pa) / 16) (zs1 := 2 * (m_qa_111 - n_pa)) (by omega) (by omega)
                  clear hh_117
                  try clear hsz_111 htt_111 hrc_111 hrs_111
                  try clear hb_1114 hb_1115
                  refine lv_goto (tgt := 208) hx hb dX0_quoted_179 (by decide) ?_
                  obtain ⟨z_119, ez_119⟩ : ∃ y : Int32, y = v5_16 + 1 := ⟨_, rfl⟩
                  refine lv_iinc (v := z_119) (lv' := [(5, .int z_119), (6, .int z_32), (0, .ref r0), (1, .ref r1), (2, .int a2), (3, .int a3), (4, .int z_13)]) hx hb dX0_quoted_208 hl (k := 6) rfl (by rw [ez_119]; rfl) (by decide) rfl (fun ls hl => ?_)
                  have hz_119 : z_119.toInt = v5_16.toInt + 1 := by rw [ez_119]; exact jb_iadd2 (rfl) (by decide) (by omega)
                  refine lv_goto (tgt := 23) hx hb dX0_quoted_211 (by decide) ?_
                  refine W.tight (c2 := ((m_qa_111 - n_pa) / 16)) (n2 := (2 * (m_qa_111 - n_pa))) hh_118.2.2.2.2.2.1 hh_118.2.2.2.2.2.2.1 ?_
                  exact L23 G_111 ((m_qa_111 - n_pa) / 16) (2 * (m_qa_111 - n_pa)) z_119 qc_111 qa_111 m_qa_111 (jUf (jUf (jUf ibx_16 r0 (ibx_16 r0 ++ jiT (jChT "\\u00") 4)) r0 ((jUf ibx_16 r0 (ibx_16 r0 ++ jiT (jChT "\\u00") 4)) r0 ++ [z_97.toInt % 256])) r0 ((jUf (jUf ibx_16 r0 (ibx_16 r0 ++ jiT (jChT "\\u00") 4)) r0 ((jUf ibx_16 r0 (ibx_16 r0 ++ jiT (jChT "\\u00") 4)) r0 ++ [z_97.toInt % 256])) r0 ++ [z_110.toInt % 256])) _ _ hh_118 (hNn_111) ((((hle_16).tr hb_882).tr hb_982).tr hb_1112) hgq_111_0 (⟨(by first | (with_reducible assumption) | omega), (by first | (with_reducible assumption) | omega), (by first | (with_reducible assumption) | omega), (by first | (with_reducible assumption) | omega), (by first | (with_reducible assumption) | omega), (by first | (with_reducible assumption) | omega), (by first | (with_reducible assumption) | omega), by omega, by omega, by omega, by omega, by omega, hi_16_12.one (by omega) (by have h9 := hqz_32; omega) (((jiP.st.tr rfl).tr rfl).tr rfl) (by rw [← hqz_32]; exact jpC.sm (by omega) (by omega) (by decide) (by have h9 := jb_shr4 ez_96 (by omega); omega) (by omega)) (by omega)⟩) (by omega) _ (lv_sub hl [2, 3, 4, 5, 6, 0] rfl)
                · skip
                  have c_107' : z_106.toInt < 10 := jb_ge_n (rfl) ((by decide)) c_107
                  refine lv_bipush (v := 48) hx hb dX0_quoted_154 (by decide) ?_
                  refine lv_iload hx hb dX0_quoted_156 (lv_at hl 0 rfl) ?_
                  refine lv_bipush (v := 15) hx hb dX0_quoted_158 (by decide) ?_
                  refine lv_iand hx hb dX0_quoted_160 ?_
                  refine lv_topi (fun z_120 ez_120 => ?_)
                  have hz_120 : 0 ≤ z_120.toInt ∧ z_120.toInt ≤ 15 := by rw [ez_120]; exact jb_and z_32 (m := 15) (k := 4) (by decide) (by decide)
                  have hbz_120 : z_120.toInt = z_32.toInt % 16 := by rw [ez_120, jb_and15]
                  refine lv_iadd hx hb dX0_quoted_161 ?_
                  refine lv_topi (fun z_121 ez_121 => ?_)
                  have hz_121 : z_121.toInt = 48 + z_120.toInt := by rw [ez_121]; exact jb_iadd2 ((by decide)) (rfl) (by omega)
                  refine lv_goto (tgt := 176) hx hb dX0_quoted_162 (by decide) ?_
                  have hsz_122 := hh_105.2.2.2.2.2.1
                  have htt_122 := hh_105.2.2.2.2.2.2.1
                  refine W.room (fun hrc_122 hrs_122 => ?_)
                  refine va_callv (A0 := jA base) (H0 := s.heap) (va_runV (As := [.int z_121]) (rest := []) ⟨hx, hb, hml, hown, hts⟩ (uX0_putI l dC dI ca base B hB hAp hB2 hB17 hB196 hB199 G_98 H_98 r0 z_121 qc_98 qa_98 m_qa_98 (jUf (jUf ibx_16 r0 (ibx_16 r0 ++ jiT (jChT "\\u00") 4)) r0 ((jUf ibx_16 r0 (ibx_16 r0 ++ jiT (jChT "\\u00") 4)) r0 ++ [z_97.toInt % 256])) LC LS) (cwV 1 hts (jgV (jWr_24 _ (List.mem_of_getElem? (i := 22) rfl)) (jWr_16 _ (List.mem_of_getElem? (i := 0) rfl)) (jWr_16 _ (List.mem_of_getElem? (i := 1) rfl)) (jWr_1 _ (List.mem_of_getElem? (i := 14) rfl)) (jWr_16 _ (List.mem_of_getElem? (i := 2) rfl))) rfl rfl rfl (by decide +kernel) ⟨by rw [← hR]; exact Nat.le_of_ble_eq_true rfl, by rw [← hR]; exact Nat.le_of_ble_eq_true rfl⟩) ⟨fun a U g mk q => by obtain ⟨q0, q1, q2, qK, q10, q11, q12, q13, q14⟩ := q; exact ⟨q0, q1, q2, jG.calling g mk a qK, q10, q11, q12, q13, q14⟩, hh_105.recv (C := RX0) (T := TX0) (N := 2) hB17 rfl (by decide) hg_100 hK, fun U hU hW => ⟨rfl, hU, hh_105.2.1, hG.step hW hU hh_105.1, hg_100, hgq_98_0, (hh_105.2.2.1.sub (L1 := [(r0, 17, 1, .int qc_98), (r0, 17, 0, .ref qa_98)]) [0, 1] rfl), (hh_105.2.2.2.2.2.2.2.2.sub (L1 := [(jFib, jIB dC dI ca G_98 0 (jUf (jUf ibx_16 r0 (ibx_16 r0 ++ jiT (jChT "\\u00") 4)) r0 ((jUf ibx_16 r0 (ibx_16 r0 ++ jiT (jChT "\\u00") 4)) r0 ++ [z_97.toInt % 256])))]) [1] rfl), (by omega), (by omega), ⟨(by first | omega | rfl | assumption | fail), (by first | omega | rfl | assumption | fail), (by first | omega | rfl | assumption | fail), (by first | omega | rfl | assumption | fail), (by first | assumption | fail | omega), (by first | omega | rfl | assumption | fail)⟩⟩⟩ rfl rfl hl.1 rfl (lv_room (Nat.le_of_ble_eq_true rfl)) dX0_quoted_176 ⟨by rw [hRc]; omega, by rw [hRs]; omega⟩) hh_105.1 (fun q _ h => h) (fun q h => h) (fun u_122 t_122 H_122 locs_122 ht_122 hvm_122 hr_123 hb_122 hz_122 hk_122 hS_122 => ?_)
                  obtain ⟨qc_122, qa_122, m_qa_122, G_122⟩ := u_122
                  rw [ht_122] at hb_122
                  simp only at hb_122
                  obtain ⟨⟨hb_1221, hb_1222, hb_1223, hb_1224, hb_1225, hb_1226⟩, hgq_122_0, hN_122, hbO_122, hbE_122⟩ := hb_122
                  have hW_122 := hN_122
                  have hh_122 : jSt (dC, dI) B base G0 G_122 EX0_quotedI s.heap (((m_qa_98 - n_pa) / 16) + ((m_qa_122 - m_qa_98) / 16)) ((2 * (m_qa_98 - n_pa)) + (2 * (m_qa_122 - m_qa_98))) [(r0, 17, 1, .int qc_122), (r0, 17, 0, .ref qa_122)] [(r1, 174, n1, ca 1, f1)] [] H_122 locs_122 := (hh_105.callG hb_1221 hb_1222 hb_1223 hb_1224 hb_1225 hS_122 rfl (L1 := []) [] rfl rfl (M1 := [(r1, 174, n1, ca 1, f1)]) [0] rfl rfl (I1 := []) [] rfl rfl).more hb_1226
                  have hNn_122 : (jNk [0, 1, 2, 3, 4, 5, 6, 7, 8, 9, 10, 11, 12, 13, 14, 15, 16, 17, 175]) G0 G_122 := (hNn_98).tr hN_122
                  have hg_124 := hb_1222 _ _ hg_100
                  have hg_125 := hb_1222 _ _ hg_101
                  have hh_126 := hh_122.addIs hbE_122
                  have hd_127 := jOw.tr (hh_105.iv 0 rfl) hh_105.2.2.2.2.1 hbO_122
                  have hh_128 := hh_126.addI (jOw.ie (dC := dC) (dI := dI) (G0 := G0) (k := 17) (r := r0) (H0 := s.heap) (F := [(17, 0), (17, 1)]) (C := RX0) (T := TX0) (N := 2) rfl (by decide) hh_126.2.2.2.2.1 (hd_127))
                  clear hh_126
                  try simp only at hr_123
                  obtain ⟨hr_123_0, hr_123_1, hr_123_2, hr_123_3, hr_123_4, hr_123_5⟩ := hr_123
                  have hh_129 := hh_128.wk (zc1 := (m_qa_122 - n_pa) / 16) (zs1 := 2 * (m_qa_122 - n_pa)) (by omega) (by omega)
                  clear hh_128
                  try clear hsz_122 htt_122 hrc_122 hrs_122
                  try clear hb_1224 hb_1225
                  refine lv_goto (tgt := 208) hx hb dX0_quoted_179 (by decide) ?_
                  obtain ⟨z_130, ez_130⟩ : ∃ y : Int32, y = v5_16 + 1 := ⟨_, rfl⟩
                  refine lv_iinc (v := z_130) (lv' := [(5, .int z_130), (6, .int z_32), (0, .ref r0), (1, .ref r1), (2, .int a2), (3, .int a3), (4, .int z_13)]) hx hb dX0_quoted_208 hl (k := 6) rfl (by rw [ez_130]; rfl) (by decide) rfl (fun ls hl => ?_)
                  have hz_130 : z_130.toInt = v5_16.toInt + 1 := by rw [ez_130]; exact jb_iadd2 (rfl) (by decide) (by omega)
                  refine lv_goto (tgt := 23) hx hb dX0_quoted_211 (by decide) ?_
                  refine W.tight (c2 := ((m_qa_122 - n_pa) / 16)) (n2 := (2 * (m_qa_122 - n_pa))) hh_129.2.2.2.2.2.1 hh_129.2.2.2.2.2.2.1 ?_
                  exact L23 G_122 ((m_qa_122 - n_pa) / 16) (2 * (m_qa_122 - n_pa)) z_130 qc_122 qa_122 m_qa_122 (jUf (jUf (jUf ibx_16 r0 (ibx_16 r0 ++ jiT (jChT "\\u00") 4)) r0 ((jUf ibx_16 r0 (ibx_16 r0 ++ jiT (jChT "\\u00") 4)) r0 ++ [z_97.toInt % 256])) r0 ((jUf (jUf ibx_16 r0 (ibx_16 r0 ++ jiT (jChT "\\u00") 4)) r0 ((jUf ibx_16 r0 (ibx_16 r0 ++ jiT (jChT "\\u00") 4)) r0 ++ [z_97.toInt % 256])) r0 ++ [z_121.toInt % 256])) _ _ hh_129 (hNn_122) ((((hle_16).tr hb_882).tr hb_982).tr hb_1222) hgq_122_0 (⟨(by first | (with_reducible assumption) | omega), (by first | (with_reducible assumption) | omega), (by first | (with_reducible assumption) | omega), (by first | (with_reducible assumption) | omega), (by first | (with_reducible assumption) | omega), (by first | (with_reducible assumption) | omega), (by first | (with_reducible assumption) | omega), by omega, by omega, by omega, by omega, by omega, hi_16_12.one (by omega) (by have h9 := hqz_32; omega) (((jiP.st.tr rfl).tr rfl).tr rfl) (by rw [← hqz_32]; exact jpC.sm (by omega) (by omega) (by decide) (by have h9 := jb_shr4 ez_96 (by omega); omega) (by omega)) (by omega)⟩) (by omega) _ (lv_sub hl [2, 3, 4, 5, 6, 0] rfl)
            · skip
              have c_41' : r_40.toInt ≠ 0 := jb_eq_n (rfl) ((by decide)) c_41
              exact absurd c_41' (by omega)
        · skip
          have c_35' : r_34.toInt ≠ 0 := jb_eq_n (rfl) ((by decide)) c_35
          first | (have hr_34pq := hr_34p.resolve_left (by omega); clear hr_34p) | (have hr_34pq := hr_34p.resolve_right (by omega); clear hr_34p) | try clear hr_34p
          refine lv_iload hx hb dX0_quoted_44 (lv_at hl 6 rfl) ?_
          refine lv_iconst (v := 1) hx hb dX0_quoted_46 (by decide) ?_
          refine lv_iadd hx hb dX0_quoted_47 ?_
          refine lv_topi (fun z_131 ez_131 => ?_)
          have hz_131 : z_131.toInt = v5_16.toInt + 1 := by rw [ez_131]; exact jb_iadd2 (rfl) ((by decide)) (by omega)
          refine lv_iload hx hb dX0_quoted_48 (lv_at hl 5 rfl) ?_
          refine lv_icmp_ge (tgt := 94) hx hb dX0_quoted_50 (by decide) (fun c_132 => ?_) (fun c_132 => ?_)
          · skip
            have c_132' : z_131.toInt ≥ z_13.toInt := jb_ge (rfl) (rfl) c_132
            exact absurd c_132' (by omega)
          · skip
            have c_132' : z_131.toInt < z_13.toInt := jb_ge_n (rfl) (rfl) c_132
            refine lv_aload_n hx hb dX0_quoted_53 rfl (lv_at hl 2 rfl) ?_
            refine lv_iload hx hb dX0_quoted_54 (lv_at hl 6 rfl) ?_
            refine lv_iconst (v := 1) hx hb dX0_quoted_56 (by decide) ?_
            refine lv_iadd hx hb dX0_quoted_57 ?_
            refine lv_topi (fun z_133 ez_133 => ?_)
            have hz_133 : z_133.toInt = v5_16.toInt + 1 := by rw [ez_133]; exact jb_iadd2 (rfl) ((by decide)) (by omega)
            refine j7_ialdM hx hb hK hh_33 hB174 1 rfl (by decide) hg_18 (x := z_133.toInt) (rfl) (by omega) (j := 0) rfl dX0_quoted_58 (fun z_134 ez_134 (hz_134 : True) => ?_)
            have hqz_134 : z_134.toInt = jSo f1 ((v5_16.toInt + 1)) := by unfold jSo; rw [ez_134, show z_133.toInt = (v5_16.toInt + 1) by omega]
            have hqw9 := hqz_134
            have hsz_135 := hh_33.2.2.2.2.2.1
            have htt_135 := hh_33.2.2.2.2.2.2.1
            refine W.room (fun hrc_135 hrs_135 => ?_)
            refine va_calli (A0 := jA base) (H0 := s.heap) (va_runS (As := [.int z_134]) (rest := []) ⟨hx, hb, hml, hown, hts⟩ (uX0_isLowJ l dC dI ca base B hB hAp Gx_16 H_33 z_134) (va_cwS 1 hts (jgS (jWr_25 _ (List.mem_of_getElem? (i := 16) rfl)) (jWr_21 _ (List.mem_of_getElem? (i := 10) rfl)) (jWr_1 _ (List.mem_of_getElem? (i := 14) rfl)) (jWr_21 _ (List.mem_of_getElem? (i := 11) rfl))) rfl rfl rfl (by decide +kernel) ⟨by rw [← hR]; exact Nat.le_of_ble_eq_true rfl, by rw [← hR]; exact Nat.le_of_ble_eq_true rfl⟩) ⟨fun a U g mk q => by obtain ⟨q0, q1, q2, qK, q10, q11⟩ := q; exact ⟨q0, q1, q2, jG.calling g mk a qK, q10, q11⟩, fun U hU hW => ⟨rfl, hU, hh_33.2.1, hG.step hW hU hh_33.1, jP.nil, trivial⟩⟩ rfl rfl hl.1 rfl (lv_room (Nat.le_of_ble_eq_true rfl)) dX0_quoted_59 ⟨by rw [hRc]; show _ + 0 ≤ _; omega, by rw [hRs]; show _ + 0 ≤ _; omega⟩) hh_33.1 (fun q _ h => h) (fun q h => h) (fun r_136 u_135 t_135 H_135 locs_135 ht_135 hvm_135 hr_136 hb_135 hz_135 hk_135 hS_135 => ?_)
            rw [ht_135] at hb_135
            obtain ⟨hb_1351, hb_1352, hb_1353, hb_1354, hb_1355⟩ := hb_135
            have hh_135 : jSt (dC, dI) B base G0 Gx_16 EX0_quotedI s.heap zcx_16 zsx_16 [(r0, 17, 1, .int wc_16), (r0, 17, 0, .ref wr_16)] [(r1, 174, n1, ca 1, f1)] [([(17, 0), (17, 1)], jOw (dC, dI) G0 17 r0 s.heap), (jFib, jIB dC dI ca Gx_16 0 ibx_16)] H_135 locs_135 := ((hh_33.call hb_1351 hb_1352 hb_1353 hb_1354 hS_135 rfl (L1 := [(r0, 17, 1, .int wc_16), (r0, 17, 0, .ref wr_16)]) [0, 1] rfl rfl (M1 := [(r1, 174, n1, ca 1, f1)]) [0] rfl rfl (I1 := [([(17, 0), (17, 1)], jOw (dC, dI) G0 17 r0 s.heap), (jFib, jIB dC dI ca Gx_16 0 ibx_16)]) [0, 1] rfl rfl).more hb_1355)
            clear hh_33 ht_135 hvm_135 hz_135 hk_135 hS_135 hb_1351 hb_1352 hb_1353 hb_1354 hb_1355
            obtain ⟨hr_136b, hr_136p⟩ := hr_136
            have hr_136' := jb_01 hr_136b
            refine lv_if_eq (tgt := 94) hx hb dX0_quoted_62 (by decide) (fun c_137 => ?_) (fun c_137 => ?_)
            · skip
              have c_137' : r_136.toInt = 0 := jb_eq (rfl) ((by decide)) c_137
              exact absurd c_137' (by omega)
            · skip
              have c_137' : r_136.toInt ≠ 0 := jb_eq_n (rfl) ((by decide)) c_137
              first | (have hr_136pq := hr_136p.resolve_left (by omega); clear hr_136p) | (have hr_136pq := hr_136p.resolve_right (by omega); clear hr_136p) | try clear hr_136p
              obtain ⟨z_138, ez_138⟩ : ∃ y : Int32, y = v5_16 + 1 := ⟨_, rfl⟩
              refine lv_iinc (v := z_138) (lv' := [(5, .int z_138), (6, .int z_32), (0, .ref r0), (1, .ref r1), (2, .int a2), (3, .int a3), (4, .int z_13)]) hx hb dX0_quoted_65 hl (k := 6) rfl (by rw [ez_138]; rfl) (by decide) rfl (fun ls hl => ?_)
              have hz_138 : z_138.toInt = v5_16.toInt + 1 := by rw [ez_138]; exact jb_iadd2 (rfl) (by decide) (by omega)
              refine lv_aload_n hx hb dX0_quoted_68 rfl (lv_at hl 2 rfl) ?_
              refine lv_ldc hx hb hown hcs_60 dX0_quoted_69 ?_
              refine lv_iload hx hb dX0_quoted_71 (lv_at hl 1 rfl) ?_
              refine lv_ldc hx hb hown hcs_61 dX0_quoted_73 ?_
              refine lv_isub hx hb dX0_quoted_75 ?_
              refine lv_topi (fun z_139 ez_139 => ?_)
              have hz_139 : z_139.toInt = z_32.toInt - 55296 := by rw [ez_139]; exact jb_isub2 (rfl) ((by decide)) (by omega)
              refine lv_bipush (v := 10) hx hb dX0_quoted_76 (by decide) ?_
              refine lv_ishl hx hb dX0_quoted_78 ?_
              refine lv_topi (fun z_140 ez_140 => ?_)
              have hbz_140 := jb_shlc 10 1024 ez_140 (by decide) (by decide) (by omega) (by omega)
              refine lv_iadd hx hb dX0_quoted_79 ?_
              refine lv_topi (fun z_141 ez_141 => ?_)
              have hz_141 : z_141.toInt = 65536 + z_140.toInt := by rw [ez_141]; exact jb_iadd2 ((by decide)) (rfl) (by omega)
              refine lv_aload_n hx hb dX0_quoted_80 rfl (lv_at hl 3 rfl) ?_
              refine lv_iload hx hb dX0_quoted_81 (lv_at hl 0 rfl) ?_
              refine j7_ialdM hx hb hK hh_135 hB174 1 rfl (by decide) hg_18 (x := z_138.toInt) (rfl) (by omega) (j := 0) rfl dX0_quoted_83 (fun z_142 ez_142 (hz_142 : True) => ?_)
              have hqz_142 : z_142.toInt = jSo f1 ((v5_16.toInt + 1)) := by unfold jSo; rw [ez_142, show z_138.toInt = (v5_16.toInt + 1) by omega]
              refine lv_iadd hx hb dX0_quoted_84 ?_
              refine lv_topi (fun z_143 ez_143 => ?_)
              have hz_143 : z_143.toInt = z_141.toInt + z_142.toInt := by rw [ez_143]; exact jb_iadd2 (rfl) (rfl) (by omega)
              refine lv_ldc hx hb hown hcs_62 dX0_quoted_85 ?_
              refine lv_isub hx hb dX0_quoted_87 ?_
              refine lv_topi (fun z_144 ez_144 => ?_)
              have hz_144 : z_144.toInt = z_143.toInt - 56320 := by rw [ez_144]; exact jb_isub2 (rfl) ((by decide)) (by omega)
              have hsz_145 := hh_135.2.2.2.2.2.1
              have htt_145 := hh_135.2.2.2.2.2.2.1
              refine W.room (fun hrc_145 hrs_145 => ?_)
              refine va_callv (A0 := jA base) (H0 := s.heap) (va_runV (As := [.int z_144]) (rest := []) ⟨hx, hb, hml, hown, hts⟩ (uX0_characterI l dC dI ca base B hB hAp hB2 hB17 hB196 hB199 Gx_16 H_135 r0 z_144 wc_16 wr_16 m_wr_16 ibx_16 LC LS) (cwV 1 hts (jgV (jWr_25 _ (List.mem_of_getElem? (i := 17) rfl)) (jWr_25 _ (List.mem_of_getElem? (i := 18) rfl)) (jWr_25 _ (List.mem_of_getElem? (i := 19) rfl)) (jWr_1 _ (List.mem_of_getElem? (i := 14) rfl)) (jWr_25 _ (List.mem_of_getElem? (i := 20) rfl))) rfl rfl rfl (by decide +kernel) ⟨by rw [← hR]; exact Nat.le_of_ble_eq_true rfl, by rw [← hR]; exact Nat.le_of_ble_eq_true rfl⟩) ⟨fun a U g mk q => by obtain ⟨q0, q1, q2, qK, q10, q11, q12, q13, q14⟩ := q; exact ⟨q0, q1, q2, jG.calling g mk a qK, q10, q11, q12, q13, q14⟩, hh_135.recv (C := RX0) (T := TX0) (N := 2) hB17 rfl (by decide) hg_17 hK, fun U hU hW => ⟨rfl, hU, hh_135.2.1, hG.step hW hU hh_135.1, hg_17, hg_wr_16, (hh_135.2.2.1.sub (L1 := [(r0, 17, 1, .int wc_16), (r0, 17, 0, .ref wr_16)]) [0, 1] rfl), (hh_135.2.2.2.2.2.2.2.2.sub (L1 := [(jFib, jIB dC dI ca Gx_16 0 ibx_16)]) [1] rfl), (by omega), (by omega), ⟨(by first | omega | rfl | assumption | fail), (by first | omega | rfl | assumption | fail), (by first | omega | rfl | assumption | fail), (by first | omega | rfl | assumption | fail), (by first | assumption | fail | omega), (by first | omega | rfl | assumption | fail), (by first | omega | rfl | assumption | fail), (by first | omega | rfl | assumption | fail)⟩⟩⟩ rfl rfl hl.1 rfl (lv_room (Nat.le_of_ble_eq_true rfl)) dX0_quoted_88 ⟨by rw [hRc]; omega, by rw [hRs]; omega⟩) hh_135.1 (fun q _ h => h) (fun q h => h) (fun u_145 t_145 H_145 locs_145 ht_145 hvm_145 hr_146 hb_145 hz_145 hk_145 hS_145 => ?_)
              obtain ⟨qc_145, qa_145, m_qa_145, G_145⟩ := u_145
              rw [ht_145] at hb_145
              simp only at hb_145
              obtain ⟨⟨hb_1451, hb_1452, hb_1453, hb_1454, hb_1455, hb_1456⟩, hgq_145_0, hN_145, hbO_145, hbE_145⟩ := hb_145
              have hW_145 := hN_145
              have hh_145 : jSt (dC, dI) B base G0 G_145 EX0_quotedI s.heap (zcx_16 + ((m_qa_145 - m_wr_16) / 16)) (zsx_16 + (2 * (m_qa_145 - m_wr_16))) [(r0, 17, 1, .int qc_145), (r0, 17, 0, .ref qa_145)] [(r1, 174, n1, ca 1, f1)] [] H_145 locs_145 := (hh_135.callG hb_1451 hb_1452 hb_1453 hb_1454 hb_1455 hS_145 rfl (L1 := []) [] rfl rfl (M1 := [(r1, 174, n1, ca 1, f1)]) [0] rfl rfl (I1 := []) [] rfl rfl).more hb_1456
              have hNn_145 : (jNk [0, 1, 2, 3, 4, 5, 6, 7, 8, 9, 10, 11, 12, 13, 14, 15, 16, 17, 175]) G0 G_145 := (hN_16).tr hN_145
              have hg_147 := hb_1452 _ _ hg_17
              have hg_148 := hb_1452 _ _ hg_18
              have hh_149 := hh_145.addIs hbE_145
              have hd_150 := jOw.tr (hh_135.iv 0 rfl) hh_135.2.2.2.2.1 hbO_145
              have hh_151 := hh_149.addI (jOw.ie (dC := dC) (dI := dI) (G0 := G0) (k := 17) (r := r0) (H0 := s.heap) (F := [(17, 0), (17, 1)]) (C := RX0) (T := TX0) (N := 2) rfl (by decide) hh_149.2.2.2.2.1 (hd_150))
              clear hh_149
              try simp only at hr_146
              obtain ⟨hr_146_0, hr_146_1, hr_146_2, hr_146_3, hr_146_4, hr_146_5, hr_146_6⟩ := hr_146
              have hh_152 := hh_151.wk (zc1 := (m_qa_145 - n_pa) / 16) (zs1 := 2 * (m_qa_145 - n_pa)) (by omega) (by omega)
              clear hh_151
              try clear hsz_145 htt_145 hrc_145 hrs_145
              try clear hb_1454 hb_1455
              refine lv_goto (tgt := 208) hx hb dX0_quoted_91 (by decide) ?_
              obtain ⟨z_153, ez_153⟩ : ∃ y : Int32, y = z_138 + 1 := ⟨_, rfl⟩
              refine lv_iinc (v := z_153) (lv' := [(5, .int z_153), (6, .int z_32), (0, .ref r0), (1, .ref r1), (2, .int a2), (3, .int a3), (4, .int z_13)]) hx hb dX0_quoted_208 hl (k := 0) rfl (by rw [ez_153]; rfl) (by decide) rfl (fun ls hl => ?_)
              have hz_153 : z_153.toInt = z_138.toInt + 1 := by rw [ez_153]; exact jb_iadd2 (rfl) (by decide) (by omega)
              refine lv_goto (tgt := 23) hx hb dX0_quoted_211 (by decide) ?_
              refine W.tight (c2 := ((m_qa_145 - n_pa) / 16)) (n2 := (2 * (m_qa_145 - n_pa))) hh_152.2.2.2.2.2.1 hh_152.2.2.2.2.2.2.1 ?_
              exact L23 G_145 ((m_qa_145 - n_pa) / 16) (2 * (m_qa_145 - n_pa)) z_153 qc_145 qa_145 m_qa_145 (jUf ibx_16 r0 (ibx_16 r0 ++ jiC z_144.toInt)) _ _ hh_152 (hNn_145) ((hle_16).tr hb_1452) hgq_145_0 (⟨(by first | (with_reducible assumption) | omega), (by first | (with_reducible assumption) | omega), (by first | (with_reducible assumption) | omega), (by first | (with_reducible assumption) | omega), (by first | (with_reducible assumption) | omega), (by first | (with_reducible assumption) | omega), (by first | (with_reducible assumption) | omega), by omega, by omega, by omega, by omega, by omega, hi_16_12.two (by omega) (by have h9 := hqz_32; omega) (by have h9 := hqz_32; omega) (by have h9 := hqz_134; omega) (by have h9 := hqz_134; omega) rfl (by have h9 := hqz_32; have h8 := hqz_134; omega) (by omega)⟩) (by omega) _ (lv_sub hl [2, 3, 4, 5, 6, 0] rfl)
  refine W.tight (c2 := ((m_qa_2 - n_pa) / 16)) (n2 := (2 * (m_qa_2 - n_pa))) hh_9.2.2.2.2.2.1 hh_9.2.2.2.2.2.2.1 ?_
  exact L23 (((z_13.toInt - (z_15 : Int32).toInt).toNat : Int) : Int).toNat.succ G_2 ((m_qa_2 - n_pa) / 16) (2 * (m_qa_2 - n_pa)) z_15 qc_2 qa_2 m_qa_2 (jUf ib r0 (ib r0 ++ [34 % 256])) _ _ hh_9 (hNn_2) (jLe.rf) hgq_2_0 (⟨(by first | (with_reducible assumption) | omega), (by first | (with_reducible assumption) | omega), (by first | (with_reducible assumption) | omega), (by first | (with_reducible assumption) | omega), (by first | (with_reducible assumption) | omega), (by first | (with_reducible assumption) | omega), (by first | (with_reducible assumption) | omega), by omega, by omega, by omega, by omega, by omega, jiQ.z hp9 rfl hk34 (by omega)⟩) (by omega) _ (lv_sub hl [2, 3, 4, 5, 1, 0] rfl)
end
