section
def EX11_dismissT : List (Nat × Nat) := [(1, 0), (1, 2), (2, 0), (2, 1), (13, 14), (196, 0), (221, 0), (222, 0), (223, 0)]
set_option maxHeartbeats 4000000 in
set_option maxRecDepth 20000 in
theorem uX11_dismissT (l : Launch) (dC : Nat → ClassId) (dI : Nat → Nat → Nat) (ca : Nat → ClassId) (base : Nat) (B : jF) (hB : jBok B) (hAp : jAp (dC, dI)) (hB1 : ∀ n G a H, B 1 n G a H ↔ jOb (dC, dI) 1 3 (F1 n G) a H) (hB2 : ∀ n G a H, B 2 n G a H ↔ jOb (dC, dI) 2 2 (F2 n G) a H) (hB3 : ∀ n G a H, B 3 n G a H ↔ jOb (dC, dI) 3 17 (F3 n G) a H) (hB4 : ∀ n G a H, B 4 n G a H ↔ jOb (dC, dI) 4 12 (F4 n G) a H) (hB10 : ∀ n G a H, B 10 n G a H ↔ jOb (dC, dI) 10 5 (F10 n G) a H) (hB13 : ∀ n G a H, B 13 n G a H ↔ jOb (dC, dI) 13 19 (F13 n G) a H) (hB17 : ∀ n G a H, B 17 n G a H ↔ jOb (dC, dI) 17 2 (F17 n G) a H) (hB196 : ∀ n G a H, B 196 n G a H ↔ jAr (dC, dI) (ca 0) (fun j z => jBf j z) n a H) (hB199 : ∀ n G a H, B 199 n G a H ↔ jAr (dC, dI) (ca 0) (fun j z => jBf j z) n a H) (hB222 : ∀ n G a H, B 222 n G a H ↔ jAq (dC, dI) (ca 9) (jQn 10 0) n G a H) (G0 : jT) (H0 : Heap) (r0 : Nat) (r1 : Nat) (bo : Nat) (pc : Int32) (pa : Nat) (n_pa : Nat) (ou : Nat) (op : Nat) (sz : Int32) (wt_ : Nat) (wz : Int32) (wl : jWl9) (qq : jRqG) (LC LS : Nat) : Met l yX11_dismiss (jw yX11_dismiss cX11_dismiss 4 none) ({ frames := 7, cells := LC - H0.size, slots := LS - jTot H0, locals := 207 }) (va_Pc [.ref r0, .ref r1] (fun U => U.heap = H0 ∧ jX B base G0 [] H0 ∧ jG dC dI ca base U ∧ jK5 dC dI ca U ∧ jK7 dC dI ca base U ∧ G0 r0 = some (13, 0) ∧ G0 r1 = some (3, 0) ∧ G0 bo = some (2, 0) ∧ G0 pa = some (196, n_pa) ∧ G0 ou = some (2, 20000) ∧ G0 op = some (1, 1) ∧ G0 wt_ = some (1, 2) ∧ jP (dC, dI) G0 H0 [(r0, 13, 4, .ref bo), (bo, 2, 1, .int pc), (bo, 2, 0, .ref pa), (r0, 13, 3, .ref ou), (r0, 13, 7, .ref op), (op, 1, 2, .int sz), (r0, 13, 8, .ref wt_), (wt_, 1, 2, .int wz)] ∧ jIs (dC, dI) G0 H0 [(jFy, jYb dC dI G0), (jFl, jLs dC dI ca G0 3 none wl), (jFqd, jQD dC dI ca G0 none qq)] ∧ H0.size + (1048576 - n_pa) / 16 + 1 ≤ LC ∧ jTot H0 + 2 * (1048576 - n_pa) ≤ LS ∧ 0 ≤ pc.toInt ∧ pc.toInt ≤ n_pa ∧ 16 ≤ n_pa ∧ n_pa ≤ 1048576 ∧ jPw n_pa)) (va_Qv (S := Int32 × Int32 × Int32 × Nat × Nat × jWl9 × jT) (fun u => 0 ≤ u.1.toInt ∧ u.1.toInt ≤ u.2.2.2.2.1 ∧ n_pa ≤ u.2.2.2.2.1 ∧ u.2.2.2.2.1 ≤ 1048576 ∧ jPw u.2.2.2.2.1 ∧ u.2.1.toInt = sz.toInt ∧ u.2.2.2.2.2.1 = wl.s2 (wl.2.2.1.filter (fun x => !jzAb qq r1 x))) (fun u t => jRa (dC, dI) B base G0 u.2.2.2.2.2.2 EX11_dismissT H0 ((u.2.2.2.2.1 - n_pa) / 16) (2 * (u.2.2.2.2.1 - n_pa)) [(bo, 2, 1, .int u.1), (op, 1, 2, .int u.2.1), (wt_, 1, 2, .int u.2.2.1), (bo, 2, 0, .ref u.2.2.2.1)] t.heap ∧ u.2.2.2.2.2.2 u.2.2.2.1 = some (196, u.2.2.2.2.1) ∧ (jNk [0, 1, 2, 3, 4, 5, 6, 7, 8, 9, 10, 11, 12, 13, 14, 15, 16, 17, 175]) G0 u.2.2.2.2.2.2 ∧ jOl (dC, dI) G0 2 [bo, ou] H0 t.heap ∧ jIs (dC, dI) u.2.2.2.2.2.2 t.heap [(jFy, jYb dC dI u.2.2.2.2.2.2), (jFl, jLs dC dI ca u.2.2.2.2.2.2 3 none (u.2.2.2.2.2.1)), (jFqd, jQD dC dI ca u.2.2.2.2.2.2 none qq)]) (jA base)) (LC - H0.size) (LS - jTot H0) (jA base) := by
  refine Met.ofW (cc := cX11_dismiss) (maxL := 4) (ret := none) (by decide) rfl ?_
  intro p e s m args below meth c s₁ Bd hml hv
  obtain ⟨rfl, hH0, hX, hG, hK5, hK7, hg_r0, hg_r1, hg_bo, hg_pa, hg_ou, hg_op, hg_wt_, hP0, hI0, hLC0, hLS0, hp0, hp1, hp2, hp3, hp4⟩ := hv
  have hK := hG.1
  have hx := Bd.exec
  have hb := Bd.bytes
  have hr := Bd.returns
  have hts := atoms_spec (ws := (jw yX11_dismiss cX11_dismiss 4 none)) Bd.pre
  have htw : ∀ w ∈ jWl, w.before _ s = true := fun w h => hts w (List.mem_cons_of_mem _ h)
  have hown : s.vm.findClass RX11 = some m.cls := findClass_of_methodNamed Bd.named
  have hlocks := Bd.notSynchronized
  obtain ⟨Q, hQ⟩ : ∃ Q, Q = MQ below (va_Qv (S := Int32 × Int32 × Int32 × Nat × Nat × jWl9 × jT) (fun u => 0 ≤ u.1.toInt ∧ u.1.toInt ≤ u.2.2.2.2.1 ∧ n_pa ≤ u.2.2.2.2.1 ∧ u.2.2.2.2.1 ≤ 1048576 ∧ jPw u.2.2.2.2.1 ∧ u.2.1.toInt = sz.toInt ∧ u.2.2.2.2.2.1 = wl.s2 (wl.2.2.1.filter (fun x => !jzAb qq r1 x))) (fun u t => jRa (dC, dI) B base G0 u.2.2.2.2.2.2 EX11_dismissT H0 ((u.2.2.2.2.1 - n_pa) / 16) (2 * (u.2.2.2.2.1 - n_pa)) [(bo, 2, 1, .int u.1), (op, 1, 2, .int u.2.1), (wt_, 1, 2, .int u.2.2.1), (bo, 2, 0, .ref u.2.2.2.1)] t.heap ∧ u.2.2.2.2.2.2 u.2.2.2.1 = some (196, u.2.2.2.2.1) ∧ (jNk [0, 1, 2, 3, 4, 5, 6, 7, 8, 9, 10, 11, 12, 13, 14, 15, 16, 17, 175]) G0 u.2.2.2.2.2.2 ∧ jOl (dC, dI) G0 2 [bo, ou] H0 t.heap ∧ jIs (dC, dI) u.2.2.2.2.2.2 t.heap [(jFy, jYb dC dI u.2.2.2.2.2.2), (jFl, jLs dC dI ca u.2.2.2.2.2.2 3 none (u.2.2.2.2.2.1)), (jFqd, jQD dC dI ca u.2.2.2.2.2.2 none qq)]) (jA base)) ([.ref r0, .ref r1] : List Value).toArray s (LC - H0.size) (LS - jTot H0) (jA base) := ⟨_, rfl⟩
  rw [← hQ]
  have hl := lv_entry ([.ref r0, .ref r1]) (n := 4) (Nat.le_of_ble_eq_true rfl)
  rw [lg_entry_eq]
  generalize (lg_sl ([.ref r0, .ref r1]) ++ List.replicate (4 - (lg_sl ([.ref r0, .ref r1])).length) Slot.unset).toArray = ls at hl ⊢
  have hl : lv_has ls 4 [(0, .ref r0), (1, .ref r1)] := hl
  generalize hR : (headSpec (jw yX11_dismiss cX11_dismiss 4 none) ({ frames := 7, cells := LC - H0.size, slots := LS - jTot H0, locals := 207 })).room = R
  subst hH0
  have hh : jSt (dC, dI) B base G0 G0 EX11_dismissT s.heap 0 0 [(r0, 13, 4, .ref bo), (bo, 2, 1, .int pc), (bo, 2, 0, .ref pa), (r0, 13, 3, .ref ou), (r0, 13, 7, .ref op), (op, 1, 2, .int sz), (r0, 13, 8, .ref wt_), (wt_, 1, 2, .int wz)] [] [(jFy, jYb dC dI G0), (jFl, jLs dC dI ca G0 3 none wl), (jFqd, jQD dC dI ca G0 none qq)] s.heap [] := jSt.start hX hP0 jMc.nil hI0
  clear hX hP0
  have hkm32801 : ((-32801) : Int32).toInt = (-32801) := by decide
  have hk0 : (0 : Int32).toInt = 0 := by decide
  have hk1 : (1 : Int32).toInt = 1 := by decide
  have hk12 : (12 : Int32).toInt = 12 := by decide
  have hly_10_1 := htw (u_lay RX8 TX8 1) (jWc_wsX80 _ (u_in_lay (by decide)))
  have hly_13_8 := htw (u_lay RX11 TX11 8) (jWc_wsX110 _ (u_in_lay (by decide)))
  have hlk_65 := (htw (.fieldLink RX11 65 "ProofServer" "waiting" "Ljava/util/List;") (jWr_2 _ (List.mem_of_getElem? (i := 15) rfl)))
  have hlk_432 := (htw (.fieldLink RX11 432 "ProofServer$Request" "about" "LProofServer$Document;") (jWr_27 _ (List.mem_of_getElem? (i := 14) rfl)))
  have hcs_459 := htw (.constant RX11 459 (-32801)) (jWr_42 _ (List.mem_of_getElem? (i := 6) rfl))
  have hbs : base ≤ s.heap.size := Nat.le_of_lt (Nat.lt_of_le_of_lt (hh.ab hg_r0).1 (hh.ab hg_r0).2)
  have hRc : R.cells = LC - s.heap.size := by rw [← hR]; rfl
  have hRs : R.slots = LS - jTot s.heap := by rw [← hR]; rfl
  have hh_1 := hh.addI (jOl.ie (dC := dC) (dI := dI) (G0 := G0) (k := 2) (rs := [bo, ou]) (H0 := s.heap) (F := [(2, 0), (2, 1)]) (C := RX0) (T := TX0) (N := 2) rfl (by decide) hh.2.2.2.2.1 (jOl.rf))
  clear hh
  have hws2 : (wl.2.2.1.length : Int) = wz.toInt ∧ wz.toInt ≤ 12 := jLs.sz2 (hh_1.iv 2 rfl) hg_wt_ (by decide) (hh_1.at 7 rfl)
  refine lv_iconst (v := 0) hx hb dX11_dismiss_0 (by decide) ?_
  refine lv_istore_n (lv' := [(2, .int 0), (0, .ref r0), (1, .ref r1)]) hx hb dX11_dismiss_1 rfl hl (by decide) rfl (fun ls hl => ?_)
  refine lv_iconst (v := 0) hx hb dX11_dismiss_2 (by decide) ?_
  refine lv_istore_n (lv' := [(3, .int 0), (2, .int 0), (0, .ref r0), (1, .ref r1)]) hx hb dX11_dismiss_3 rfl hl (by decide) rfl (fun ls hl => ?_)
  have L4 : ∀ (N : Nat) (Gx_2 : jT) (zcx_2 : Nat) (zsx_2 : Nat) (v2_2 : Int32) (v3_2 : Int32) (wc_2 : Int32) (wr_2 : Nat) (m_wr_2 : Nat) (wz_2 : Int32) (wy_2 : Int32) (wl_2 : jWl9) (H_2 : Heap) (locs_2 : List Loc), jSt (dC, dI) B base G0 Gx_2 EX11_dismissT s.heap zcx_2 zsx_2 [(bo, 2, 1, .int wc_2), (bo, 2, 0, .ref wr_2), (op, 1, 2, .int wz_2), (wt_, 1, 2, .int wy_2), (r0, 13, 4, .ref bo), (r0, 13, 3, .ref ou), (r0, 13, 7, .ref op), (r0, 13, 8, .ref wt_)] [] [([(2, 0), (2, 1)], jOl (dC, dI) G0 2 [bo, ou] s.heap), (jFy, jYb dC dI Gx_2), (jFl, jLs dC dI ca Gx_2 3 none wl_2), (jFqd, jQD dC dI ca Gx_2 none qq)] H_2 locs_2 → (jNk [0, 1, 2, 3, 4, 5, 6, 7, 8, 9, 10, 11, 12, 13, 14, 15, 16, 17, 175]) G0 Gx_2 → jLe G0 Gx_2 → Gx_2 wr_2 = some (196, m_wr_2) → (0 ≤ wc_2.toInt ∧ wc_2.toInt ≤ m_wr_2 ∧ n_pa ≤ m_wr_2 ∧ m_wr_2 ≤ 1048576 ∧ jPw m_wr_2 ∧ zcx_2 ≤ (m_wr_2 - n_pa) / 16 ∧ zsx_2 ≤ 2 * (m_wr_2 - n_pa) ∧ wz_2.toInt = sz.toInt ∧ 0 ≤ v2_2.toInt ∧ v2_2.toInt ≤ v3_2.toInt ∧ v3_2.toInt ≤ 12 ∧ 0 ≤ wy_2.toInt ∧ wy_2.toInt ≤ 12 ∧ wy_2.toInt - v2_2.toInt + v3_2.toInt ≤ 12 ∧ (wl_2.2.2.1.length : Int) = wy_2.toInt ∧ wl_2 = wl.s2 wl_2.2.2.1 ∧ jzPs (fun x => !jzAb qq r1 x) wl.2.2.1 wl_2.2.2.1 v2_2.toInt) → (12 - v3_2.toInt : Int) < N → ∀ ls : Array Slot, lv_has ls 4 [(0, .ref r0), (1, .ref r1), (2, .int v2_2), (3, .int v3_2)] → W p l e R s m ([.ref r0, .ref r1] : List Value).toArray below meth c H_2 locs_2 zcx_2 zsx_2 Q (F0 m 4 ls []) := by
    intro N
    induction N with
    | zero => intro Gx_2 zcx_2 zsx_2 v2_2 v3_2 wc_2 wr_2 m_wr_2 wz_2 wy_2 wl_2 H_2 locs_2 hh_2 hN_2 hle_2 hg_wr_2 hi_2 hm; exact absurd hm (by omega)
    | succ N L4 =>
      intro Gx_2 zcx_2 zsx_2 v2_2 v3_2 wc_2 wr_2 m_wr_2 wz_2 wy_2 wl_2 H_2 locs_2 hh_2 hN_2 hle_2 hg_wr_2 hi_2 hm_2 ls hl
      have hg_3 := hle_2 _ _ hg_r0
      have hg_4 := hle_2 _ _ hg_r1
      have hg_5 := hle_2 _ _ hg_bo
      have hg_6 := hle_2 _ _ hg_ou
      have hg_7 := hle_2 _ _ hg_op
      have hg_8 := hle_2 _ _ hg_wt_
      obtain ⟨hi_2_0, hi_2_1, hi_2_2, hi_2_3, hi_2_4, hi_2_5, hi_2_6, hi_2_7, hi_2_8, hi_2_9, hi_2_10, hi_2_11, hi_2_12, hi_2_13, hi_2_14, hi_2_15, hi_2_16⟩ := hi_2
      refine lv_iload_n hx hb dX11_dismiss_4 rfl (lv_at hl 3 rfl) ?_
      refine lv_bipush (v := 12) hx hb dX11_dismiss_5 (by decide) ?_
      refine lv_icmp_ge (tgt := 75) hx hb dX11_dismiss_7 (by decide) (fun c_9 => ?_) (fun c_9 => ?_)
      · skip
        have c_9' : v3_2.toInt ≥ 12 := jb_ge (rfl) ((by decide)) c_9
        have hsz_10 := hh_2.2.2.2.2.2.1
        have htt_10 := hh_2.2.2.2.2.2.2.1
        refine W.room (fun hrc_10 hrs_10 => ?_)
        refine W.widen (k := LC - s.heap.size) (n := LS - jTot s.heap) (by omega) (by omega) ?_
        rw [hQ]
        exact W.vret hx hb hr (fun t ht hW => ⟨⟨(wc_2, wz_2, wy_2, wr_2, m_wr_2, wl_2, Gx_2), rfl, by skip; (try dsimp only); refine ⟨(by first | (with_reducible assumption) | omega), (by first | (with_reducible assumption) | omega), (by first | (with_reducible assumption) | omega), (by first | (with_reducible assumption) | omega), (by first | (with_reducible assumption) | omega), (by first | (with_reducible assumption) | omega), ?_⟩; rw [← hi_2_16.e (by have h9 := hi_2_14; omega)]; exact hi_2_15, ⟨hh_2.ra (by first | (simp only; omega) | omega) (by first | (simp only; omega) | omega) (M1 := [(bo, 2, 1, .int wc_2), (op, 1, 2, .int wz_2), (wt_, 1, 2, .int wy_2), (bo, 2, 0, .ref wr_2)]) [0, 2, 3, 1] rfl ht, hg_wr_2, hN_2, by rw [ht]; exact hh_2.iv 0 rfl, by rw [ht]; exact hh_2.2.2.2.2.2.2.2.2.sub (L1 := [(jFy, jYb dC dI Gx_2), (jFl, jLs dC dI ca Gx_2 3 none wl_2), (jFqd, jQD dC dI ca Gx_2 none qq)]) [1, 2, 3] rfl⟩⟩, by rw [ht]; try exact hh_2.1.1, fun q h9 hq => by rw [ht]; try exact hh_2.1.2.1 q h9 hq⟩) hh_2.1.2.2 dX11_dismiss_75
      · skip
        have c_9' : v3_2.toInt < 12 := jb_ge_n (rfl) ((by decide)) c_9
        refine lv_iload_n hx hb dX11_dismiss_10 rfl (lv_at hl 2 rfl) ?_
        refine lv_aload_n hx hb dX11_dismiss_11 rfl (lv_at hl 0 rfl) ?_
        refine j7_read hx hb hown hK (C := RX11) (T := TX11) (N := 19) rfl hly_13_8 hlk_65 (hh_2.at 7 rfl) dX11_dismiss_12 ?_
        have hsz_11 := hh_2.2.2.2.2.2.1
        have htt_11 := hh_2.2.2.2.2.2.2.1
        refine W.room (fun hrc_11 hrs_11 => ?_)
        refine va_callFi (A0 := jA base) (H0 := s.heap) (va_runF (hK.1 1 _ rfl).2 (As := []) (rest := [.int v2_2]) ⟨hx, hb, hml, hown, hts⟩ (uJx4a65c_size_8abf5 l dC dI ca base B hB hAp hB1 Gx_2 H_2 wt_ 2 wy_2) (va_cwF 0 hts (jgF (jWr_27 _ (List.mem_of_getElem? (i := 22) rfl)) (jWr_27 _ (List.mem_of_getElem? (i := 23) rfl)) (jWr_28 _ (List.mem_of_getElem? (i := 0) rfl)) (jWr_2 _ (List.mem_of_getElem? (i := 13) rfl)) (jWr_28 _ (List.mem_of_getElem? (i := 1) rfl))) rfl rfl rfl hK7.2.2.2.2.2.1.1 ⟨by decide, by decide, by decide +kernel⟩ ⟨by rw [← hR]; exact Nat.le_of_ble_eq_true rfl, by rw [← hR]; exact Nat.le_of_ble_eq_true rfl⟩) ⟨fun a U g mk q => by obtain ⟨q0, q1, q2, qK, q10, q11, q12⟩ := q; exact ⟨q0, q1, q2, jG.calling g mk a qK, q10, q11, q12⟩, hh_2.recv (C := RJx4a65c) (T := TJx4a65c) (N := 3) hB1 rfl (by decide) hg_8 hK, fun U hU hW => ⟨rfl, hU, hh_2.2.1, hG.step hW hU hh_2.1, hg_8, (hh_2.2.2.1.sub (L1 := [(wt_, 1, 2, .int wy_2)]) [3] rfl), trivial⟩⟩ rfl rfl hl.1 rfl (lv_room (Nat.le_of_ble_eq_true rfl)) dX11_dismiss_15 ⟨by rw [hRc]; show _ + 0 ≤ _; omega, by rw [hRs]; show _ + 0 ≤ _; omega⟩) hh_2.1 (fun q _ h => h) (fun q h => h) (fun r_12 u_11 t_11 H_11 locs_11 ht_11 hvm_11 hr_12 hb_11 hz_11 hk_11 hS_11 => ?_)
        rw [ht_11] at hb_11
        obtain ⟨hb_111, hb_112, hb_113, hb_114, hb_115⟩ := hb_11
        have hh_11 : jSt (dC, dI) B base G0 Gx_2 EX11_dismissT s.heap zcx_2 zsx_2 [(bo, 2, 1, .int wc_2), (bo, 2, 0, .ref wr_2), (op, 1, 2, .int wz_2), (wt_, 1, 2, .int wy_2), (r0, 13, 4, .ref bo), (r0, 13, 3, .ref ou), (r0, 13, 7, .ref op), (r0, 13, 8, .ref wt_)] [] [([(2, 0), (2, 1)], jOl (dC, dI) G0 2 [bo, ou] s.heap), (jFy, jYb dC dI Gx_2), (jFl, jLs dC dI ca Gx_2 3 none wl_2), (jFqd, jQD dC dI ca Gx_2 none qq)] H_11 locs_11 := ((hh_2.call hb_111 hb_112 hb_113 hb_114 hS_11 rfl (L1 := [(bo, 2, 1, .int wc_2), (bo, 2, 0, .ref wr_2), (op, 1, 2, .int wz_2), (wt_, 1, 2, .int wy_2), (r0, 13, 4, .ref bo), (r0, 13, 3, .ref ou), (r0, 13, 7, .ref op), (r0, 13, 8, .ref wt_)]) [0, 1, 2, 3, 4, 5, 6, 7] rfl rfl (M1 := []) [] rfl rfl (I1 := [([(2, 0), (2, 1)], jOl (dC, dI) G0 2 [bo, ou] s.heap), (jFy, jYb dC dI Gx_2), (jFl, jLs dC dI ca Gx_2 3 none wl_2), (jFqd, jQD dC dI ca Gx_2 none qq)]) [0, 1, 2, 3] rfl rfl).more hb_115)
        clear hh_2 ht_11 hvm_11 hz_11 hk_11 hS_11 hb_111 hb_112 hb_113 hb_114 hb_115
        refine lv_icmp_ge (tgt := 75) hx hb dX11_dismiss_20 (by decide) (fun c_13 => ?_) (fun c_13 => ?_)
        · skip
          have c_13' : v2_2.toInt ≥ r_12.toInt := jb_ge (rfl) (rfl) c_13
          have hsz_14 := hh_11.2.2.2.2.2.1
          have htt_14 := hh_11.2.2.2.2.2.2.1
          refine W.room (fun hrc_14 hrs_14 => ?_)
          refine W.widen (k := LC - s.heap.size) (n := LS - jTot s.heap) (by omega) (by omega) ?_
          rw [hQ]
          exact W.vret hx hb hr (fun t ht hW => ⟨⟨(wc_2, wz_2, wy_2, wr_2, m_wr_2, wl_2, Gx_2), rfl, by skip; (try dsimp only); refine ⟨(by first | (with_reducible assumption) | omega), (by first | (with_reducible assumption) | omega), (by first | (with_reducible assumption) | omega), (by first | (with_reducible assumption) | omega), (by first | (with_reducible assumption) | omega), (by first | (with_reducible assumption) | omega), ?_⟩; rw [← hi_2_16.e (by have h9 := hi_2_14; omega)]; exact hi_2_15, ⟨hh_11.ra (by first | (simp only; omega) | omega) (by first | (simp only; omega) | omega) (M1 := [(bo, 2, 1, .int wc_2), (op, 1, 2, .int wz_2), (wt_, 1, 2, .int wy_2), (bo, 2, 0, .ref wr_2)]) [0, 2, 3, 1] rfl ht, hg_wr_2, hN_2, by rw [ht]; exact hh_11.iv 0 rfl, by rw [ht]; exact hh_11.2.2.2.2.2.2.2.2.sub (L1 := [(jFy, jYb dC dI Gx_2), (jFl, jLs dC dI ca Gx_2 3 none wl_2), (jFqd, jQD dC dI ca Gx_2 none qq)]) [1, 2, 3] rfl⟩⟩, by rw [ht]; try exact hh_11.1.1, fun q h9 hq => by rw [ht]; try exact hh_11.1.2.1 q h9 hq⟩) hh_11.1.2.2 dX11_dismiss_75
        · skip
          have c_13' : v2_2.toInt < r_12.toInt := jb_ge_n (rfl) (rfl) c_13
          refine lv_aload_n hx hb dX11_dismiss_23 rfl (lv_at hl 0 rfl) ?_
          refine j7_read hx hb hown hK (C := RX11) (T := TX11) (N := 19) rfl hly_13_8 hlk_65 (hh_11.at 7 rfl) dX11_dismiss_24 ?_
          refine lv_iload_n hx hb dX11_dismiss_27 rfl (lv_at hl 2 rfl) ?_
          have hsz_15 := hh_11.2.2.2.2.2.1
          have htt_15 := hh_11.2.2.2.2.2.2.1
          refine W.room (fun hrc_15 hrs_15 => ?_)
          refine j_callFx (A0 := jA base) (H0 := s.heap) (va_runF (hK.1 1 _ rfl).2 (As := [.int v2_2]) (rest := []) ⟨hx, hb, hml, hown, hts⟩ (uJx4a65c_get_915e3L2 l dC dI ca base B hB hAp hB1 hB10 hB222 Gx_2 H_11 wt_ v2_2 wy_2 wl_2) (va_cwF 1 hts (jgF (jWr_28 _ (List.mem_of_getElem? (i := 3) rfl)) (jWr_28 _ (List.mem_of_getElem? (i := 4) rfl)) (jWr_28 _ (List.mem_of_getElem? (i := 5) rfl)) (jWr_2 _ (List.mem_of_getElem? (i := 13) rfl)) (jWr_28 _ (List.mem_of_getElem? (i := 6) rfl))) rfl rfl rfl hK7.2.2.2.2.2.1.2.1 ⟨by decide, by decide, by decide +kernel⟩ ⟨by rw [← hR]; exact Nat.le_of_ble_eq_true rfl, by rw [← hR]; exact Nat.le_of_ble_eq_true rfl⟩) ⟨fun a U g mk q => by obtain ⟨q0, q1, q2, qK, q10, q11, q12, q13, q14⟩ := q; exact ⟨q0, q1, q2, jG.calling g mk a qK, (jK7.calling g mk a q10), q11, q12, q13, q14⟩, hh_11.recv (C := RJx4a65c) (T := TJx4a65c) (N := 3) hB1 rfl (by decide) hg_8 hK, fun U hU hW => ⟨rfl, hU, hh_11.2.1, hG.step hW hU hh_11.1, (hK7.step hW hU hh_11.1), hg_8, (hh_11.2.2.1.sub (L1 := [(wt_, 1, 2, .int wy_2)]) [3] rfl), (hh_11.2.2.2.2.2.2.2.2.sub (L1 := [(jFl, jLs dC dI ca Gx_2 3 none wl_2)]) [2] rfl), ⟨(by first | omega | rfl | assumption | fail), (by first | omega | rfl | assumption | fail)⟩⟩⟩ rfl rfl hl.1 rfl (lv_room (Nat.le_of_ble_eq_true rfl)) dX11_dismiss_28 ⟨by rw [hRc]; show _ + 0 ≤ _; omega, by rw [hRs]; show _ + 0 ≤ _; omega⟩) hh_11.1 (fun q _ h => h) (fun q h => h) (fun r_16 u_15 t_15 H_15 locs_15 ht_15 hvm_15 hr_16 hb_15 hz_15 hk_15 hS_15 => ?_)
          rw [ht_15] at hb_15
          obtain ⟨hb_15, hbE_15⟩ := hb_15
          obtain ⟨hb_151, hb_152, hb_153, hb_154, hb_155⟩ := hb_15
          have hh_15 : jSt (dC, dI) B base G0 Gx_2 EX11_dismissT s.heap zcx_2 zsx_2 [(bo, 2, 1, .int wc_2), (bo, 2, 0, .ref wr_2), (op, 1, 2, .int wz_2), (wt_, 1, 2, .int wy_2), (r0, 13, 4, .ref bo), (r0, 13, 3, .ref ou), (r0, 13, 7, .ref op), (r0, 13, 8, .ref wt_)] [] [(jFl, jLs dC dI ca Gx_2 3 none wl_2), ([(2, 0), (2, 1)], jOl (dC, dI) G0 2 [bo, ou] s.heap), (jFy, jYb dC dI Gx_2), (jFqd, jQD dC dI ca Gx_2 none qq)] H_15 locs_15 := (((hh_11.call hb_151 hb_152 hb_153 hb_154 hS_15 rfl (L1 := [(bo, 2, 1, .int wc_2), (bo, 2, 0, .ref wr_2), (op, 1, 2, .int wz_2), (wt_, 1, 2, .int wy_2), (r0, 13, 4, .ref bo), (r0, 13, 3, .ref ou), (r0, 13, 7, .ref op), (r0, 13, 8, .ref wt_)]) [0, 1, 2, 3, 4, 5, 6, 7] rfl rfl (M1 := []) [] rfl rfl (I1 := [([(2, 0), (2, 1)], jOl (dC, dI) G0 2 [bo, ou] s.heap), (jFy, jYb dC dI Gx_2), (jFqd, jQD dC dI ca Gx_2 none qq)]) [0, 1, 3] rfl rfl).more hb_155)).addIs hbE_15
          clear hh_11 ht_15 hvm_15 hz_15 hk_15 hS_15 hb_151 hb_152 hb_153 hb_154 hb_155
          clear  hbE_15
          obtain ⟨hr_16, hr_16p⟩ := hr_16
          obtain ⟨ret_17, rfl, hg_ret_17⟩ := hr_16
          refine va_castY hx hb hown (htw (.classLink RX11 115 "ProofServer$Request") (jWr_42 _ (List.mem_of_getElem? (i := 5) rfl))) hK7.2.2.1.2.1.2 (hh_15.recv (C := RX8) (T := TX8) (N := 5) hB10 rfl (by decide) hg_ret_17 hK) dX11_dismiss_33 ?_
          obtain ⟨hgP_18, hgM_18⟩ := jQD.at (ca := ca) (hh_15.iv 3 rfl) hg_ret_17 (fun q => by cases q)
          have hh_19 := ((hh_15.sub (L1 := [(bo, 2, 1, .int wc_2), (bo, 2, 0, .ref wr_2), (op, 1, 2, .int wz_2), (wt_, 1, 2, .int wy_2), (r0, 13, 4, .ref bo), (r0, 13, 3, .ref ou), (r0, 13, 7, .ref op), (r0, 13, 8, .ref wt_)]) [0, 1, 2, 3, 4, 5, 6, 7] rfl (M1 := []) [] rfl (I1 := [(jFl, jLs dC dI ca Gx_2 3 none wl_2), ([(2, 0), (2, 1)], jOl (dC, dI) G0 2 [bo, ou] s.heap), (jFy, jYb dC dI Gx_2), (jFqd, jQD dC dI ca Gx_2 none qq)]) [0, 1, 2, 3] rfl).more (hgP_18.sub (L1 := [(ret_17, 10, 2, .int (qq.nd ret_17)), (ret_17, 10, 0, (qq.iv ret_17)), (ret_17, 10, 1, (qq.ab ret_17))]) [0, 1, 2] rfl)).moreM hgM_18
          clear hh_15
          have hwf_20 := hh_19.at 2 rfl
          have hh_21 := hh_19.sub (L1 := [(ret_17, 10, 2, .int (qq.nd ret_17)), (ret_17, 10, 0, (qq.iv ret_17)), (bo, 2, 1, .int wc_2), (bo, 2, 0, .ref wr_2), (op, 1, 2, .int wz_2), (wt_, 1, 2, .int wy_2), (r0, 13, 4, .ref bo), (r0, 13, 3, .ref ou), (r0, 13, 7, .ref op), (r0, 13, 8, .ref wt_)]) [0, 1, 3, 4, 5, 6, 7, 8, 9, 10] rfl (M1 := []) [] rfl (I1 := [(jFl, jLs dC dI ca Gx_2 3 none wl_2), ([(2, 0), (2, 1)], jOl (dC, dI) G0 2 [bo, ou] s.heap), (jFy, jYb dC dI Gx_2), (jFqd, jQD dC dI ca Gx_2 none qq)]) [0, 1, 2, 3] rfl
          clear hh_19
          obtain ⟨v_22, hv_22, hh_23⟩ := hh_21.pin (C := RX8) (T := TX8) (N := 5) hB10 rfl (by decide) hg_ret_17 (i := 1) (by decide) rfl
          clear hh_21
          have hwe36 : (qq.ab ret_17) = v_22 := jf.uniq hwf_20 (hh_23.at 0 rfl)
          clear hwf_20
          rcases hv_22 with rfl | ⟨about_24, rfl, hg_about_24⟩
          · refine j7_read hx hb hown hK (C := RX8) (T := TX8) (N := 5) rfl hly_10_1 hlk_432 (hh_23.at 0 rfl) dX11_dismiss_36 ?_
            refine lv_aload_n hx hb dX11_dismiss_39 rfl (lv_at hl 1 rfl) ?_
            refine lv_acmp_ne (rx := none) (ry := (some r1)) (tgt := 66) hx hb dX11_dismiss_40 (by decide) (fun c_25 => ?_) (fun c_25 => ?_)
            · skip
              obtain ⟨z_26, ez_26⟩ : ∃ y : Int32, y = v2_2 + 1 := ⟨_, rfl⟩
              refine lv_iinc (v := z_26) (lv' := [(2, .int z_26), (0, .ref r0), (1, .ref r1), (3, .int v3_2)]) hx hb dX11_dismiss_66 hl (k := 2) rfl (by rw [ez_26]; rfl) (by decide) rfl (fun ls hl => ?_)
              have hz_26 : z_26.toInt = v2_2.toInt + 1 := by rw [ez_26]; exact jb_iadd2 (rfl) (by decide) (by omega)
              obtain ⟨z_27, ez_27⟩ : ∃ y : Int32, y = v3_2 + 1 := ⟨_, rfl⟩
              refine lv_iinc (v := z_27) (lv' := [(3, .int z_27), (2, .int z_26), (0, .ref r0), (1, .ref r1)]) hx hb dX11_dismiss_69 hl (k := 3) rfl (by rw [ez_27]; rfl) (by decide) rfl (fun ls hl => ?_)
              have hz_27 : z_27.toInt = v3_2.toInt + 1 := by rw [ez_27]; exact jb_iadd2 (rfl) (by decide) (by omega)
              refine lv_goto (tgt := 4) hx hb dX11_dismiss_72 (by decide) ?_
              refine W.tight (c2 := zcx_2) (n2 := zsx_2) hh_23.2.2.2.2.2.1 hh_23.2.2.2.2.2.2.1 ?_
              exact L4 Gx_2 zcx_2 zsx_2 z_26 z_27 wc_2 wr_2 m_wr_2 wz_2 wy_2 wl_2 _ _ (hh_23.sub (L1 := [(bo, 2, 1, .int wc_2), (bo, 2, 0, .ref wr_2), (op, 1, 2, .int wz_2), (wt_, 1, 2, .int wy_2), (r0, 13, 4, .ref bo), (r0, 13, 3, .ref ou), (r0, 13, 7, .ref op), (r0, 13, 8, .ref wt_)]) [3, 4, 5, 6, 7, 8, 9, 10] rfl (M1 := []) [] rfl (I1 := [([(2, 0), (2, 1)], jOl (dC, dI) G0 2 [bo, ou] s.heap), (jFy, jYb dC dI Gx_2), (jFl, jLs dC dI ca Gx_2 3 none wl_2), (jFqd, jQD dC dI ca Gx_2 none qq)]) [1, 2, 0, 3] rfl) (hN_2) (hle_2) hg_wr_2 (⟨(by first | (with_reducible assumption) | omega), (by first | (with_reducible assumption) | omega), (by first | (with_reducible assumption) | omega), (by first | (with_reducible assumption) | omega), (by first | (with_reducible assumption) | omega), (by first | (with_reducible assumption) | omega), (by first | (with_reducible assumption) | omega), (by first | (with_reducible assumption) | omega), (by first | (with_reducible assumption) | omega), (by first | (with_reducible assumption) | omega), (by first | (with_reducible assumption) | omega), (by first | (with_reducible assumption) | omega), (by first | (with_reducible assumption) | omega), (by first | (with_reducible assumption) | omega), hi_2_14, hi_2_15, hi_2_16.k (jdAt hr_16p) (by rw [jzAb.n (fun e9 => by rw [hwe36] at e9; first | (cases e9; done) | exact c_25 (congrArg some (Value.ref.inj e9)))]; rfl) (by omega)⟩) (by omega) _ (lv_sub hl [2, 3, 1, 0] rfl)
            · skip
              cases c_25
          · refine j7_read hx hb hown hK (C := RX8) (T := TX8) (N := 5) rfl hly_10_1 hlk_432 (hh_23.at 0 rfl) dX11_dismiss_36 ?_
            refine lv_aload_n hx hb dX11_dismiss_39 rfl (lv_at hl 1 rfl) ?_
            refine lv_acmp_ne (rx := (some about_24)) (ry := (some r1)) (tgt := 66) hx hb dX11_dismiss_40 (by decide) (fun c_28 => ?_) (fun c_28 => ?_)
            · skip
              obtain ⟨z_29, ez_29⟩ : ∃ y : Int32, y = v2_2 + 1 := ⟨_, rfl⟩
              refine lv_iinc (v := z_29) (lv' := [(2, .int z_29), (0, .ref r0), (1, .ref r1), (3, .int v3_2)]) hx hb dX11_dismiss_66 hl (k := 2) rfl (by rw [ez_29]; rfl) (by decide) rfl (fun ls hl => ?_)
              have hz_29 : z_29.toInt = v2_2.toInt + 1 := by rw [ez_29]; exact jb_iadd2 (rfl) (by decide) (by omega)
              obtain ⟨z_30, ez_30⟩ : ∃ y : Int32, y = v3_2 + 1 := ⟨_, rfl⟩
              refine lv_iinc (v := z_30) (lv' := [(3, .int z_30), (2, .int z_29), (0, .ref r0), (1, .ref r1)]) hx hb dX11_dismiss_69 hl (k := 3) rfl (by rw [ez_30]; rfl) (by decide) rfl (fun ls hl => ?_)
              have hz_30 : z_30.toInt = v3_2.toInt + 1 := by rw [ez_30]; exact jb_iadd2 (rfl) (by decide) (by omega)
              refine lv_goto (tgt := 4) hx hb dX11_dismiss_72 (by decide) ?_
              refine W.tight (c2 := zcx_2) (n2 := zsx_2) hh_23.2.2.2.2.2.1 hh_23.2.2.2.2.2.2.1 ?_
              exact L4 Gx_2 zcx_2 zsx_2 z_29 z_30 wc_2 wr_2 m_wr_2 wz_2 wy_2 wl_2 _ _ (hh_23.sub (L1 := [(bo, 2, 1, .int wc_2), (bo, 2, 0, .ref wr_2), (op, 1, 2, .int wz_2), (wt_, 1, 2, .int wy_2), (r0, 13, 4, .ref bo), (r0, 13, 3, .ref ou), (r0, 13, 7, .ref op), (r0, 13, 8, .ref wt_)]) [3, 4, 5, 6, 7, 8, 9, 10] rfl (M1 := []) [] rfl (I1 := [([(2, 0), (2, 1)], jOl (dC, dI) G0 2 [bo, ou] s.heap), (jFy, jYb dC dI Gx_2), (jFl, jLs dC dI ca Gx_2 3 none wl_2), (jFqd, jQD dC dI ca Gx_2 none qq)]) [1, 2, 0, 3] rfl) (hN_2) (hle_2) hg_wr_2 (⟨(by first | (with_reducible assumption) | omega), (by first | (with_reducible assumption) | omega), (by first | (with_reducible assumption) | omega), (by first | (with_reducible assumption) | omega), (by first | (with_reducible assumption) | omega), (by first | (with_reducible assumption) | omega), (by first | (with_reducible assumption) | omega), (by first | (with_reducible assumption) | omega), (by first | (with_reducible assumption) | omega), (by first | (with_reducible assumption) | omega), (by first | (with_reducible assumption) | omega), (by first | (with_reducible assumption) | omega), (by first | (with_reducible assumption) | omega), (by first | (with_reducible assumption) | omega), hi_2_14, hi_2_15, hi_2_16.k (jdAt hr_16p) (by rw [jzAb.n (fun e9 => by rw [hwe36] at e9; first | (cases e9; done) | exact c_28 (congrArg some (Value.ref.inj e9)))]; rfl) (by omega)⟩) (by omega) _ (lv_sub hl [2, 3, 1, 0] rfl)
            · skip
              refine lv_aload_n hx hb dX11_dismiss_43 rfl (lv_at hl 0 rfl) ?_
              refine lv_aload_n hx hb dX11_dismiss_44 rfl (lv_at hl 0 rfl) ?_
              refine j7_read hx hb hown hK (C := RX11) (T := TX11) (N := 19) rfl hly_13_8 hlk_65 (hh_23.at 10 rfl) dX11_dismiss_45 ?_
              refine lv_iload_n hx hb dX11_dismiss_48 rfl (lv_at hl 2 rfl) ?_
              have hsz_31 := hh_23.2.2.2.2.2.1
              have htt_31 := hh_23.2.2.2.2.2.2.1
              refine W.room (fun hrc_31 hrs_31 => ?_)
              refine j_callFx (A0 := jA base) (H0 := s.heap) (va_runF (hK.1 1 _ rfl).2 (As := [.int v2_2]) (rest := [.ref r0]) ⟨hx, hb, hml, hown, hts⟩ (uJx4a65c_remove_915e3L2 l dC dI ca base B hB hAp hB1 hB10 hB222 Gx_2 H_15 wt_ v2_2 wy_2 wl_2) (va_cwF 1 hts (jgF (jWr_42 _ (List.mem_of_getElem? (i := 7) rfl)) (jWr_42 _ (List.mem_of_getElem? (i := 8) rfl)) (jWr_42 _ (List.mem_of_getElem? (i := 9) rfl)) (jWr_2 _ (List.mem_of_getElem? (i := 13) rfl)) (jWr_42 _ (List.mem_of_getElem? (i := 10) rfl))) rfl rfl rfl hK7.2.2.2.2.2.1.2.2.2 ⟨by decide, by decide, by decide +kernel⟩ ⟨by rw [← hR]; exact Nat.le_of_ble_eq_true rfl, by rw [← hR]; exact Nat.le_of_ble_eq_true rfl⟩) ⟨fun a U g mk q => by obtain ⟨q0, q1, q2, qK, q10, q11, q12, q13, q14⟩ := q; exact ⟨q0, q1, q2, jG.calling g mk a qK, (jK7.calling g mk a q10), q11, q12, q13, q14⟩, hh_23.recv (C := RJx4a65c) (T := TJx4a65c) (N := 3) hB1 rfl (by decide) hg_8 hK, fun U hU hW => ⟨rfl, hU, hh_23.2.1, hG.step hW hU hh_23.1, (hK7.step hW hU hh_23.1), hg_8, (hh_23.2.2.1.sub (L1 := [(wt_, 1, 2, .int wy_2)]) [6] rfl), (hh_23.2.2.2.2.2.2.2.2.sub (L1 := [(jFl, jLs dC dI ca Gx_2 3 none wl_2)]) [0] rfl), ⟨(by first | omega | rfl | assumption | fail), (by first | omega | rfl | assumption | fail)⟩⟩⟩ rfl rfl hl.1 rfl (lv_room (Nat.le_of_ble_eq_true rfl)) dX11_dismiss_49 ⟨by rw [hRc]; show _ + 0 ≤ _; omega, by rw [hRs]; show _ + 0 ≤ _; omega⟩) hh_23.1 (fun q _ h => h) (fun q h => h) (fun r_32 u_31 t_31 H_31 locs_31 ht_31 hvm_31 hr_32 hb_31 hz_31 hk_31 hS_31 => ?_)
              obtain ⟨qz_31, rfl⟩ : ∃ z, z = u_31 := ⟨_, rfl⟩
              rw [ht_31] at hb_31
              obtain ⟨hb_31, hbE_31⟩ := hb_31
              obtain ⟨hb_31, hbO_31⟩ := hb_31
              obtain ⟨hb_311, hb_312, hb_313, hb_314, hb_315⟩ := hb_31
              have hh_31 : jSt (dC, dI) B base G0 Gx_2 EX11_dismissT s.heap zcx_2 zsx_2 [(wt_, 1, 2, .int qz_31), (ret_17, 10, 1, .ref about_24), (ret_17, 10, 2, .int (qq.nd ret_17)), (ret_17, 10, 0, (qq.iv ret_17)), (bo, 2, 1, .int wc_2), (bo, 2, 0, .ref wr_2), (r0, 13, 4, .ref bo), (r0, 13, 3, .ref ou), (r0, 13, 7, .ref op), (r0, 13, 8, .ref wt_)] [] [(jFl, jLs dC dI ca Gx_2 3 none (wl_2.s2 (wl_2.2.2.1.eraseIdx (v2_2.toInt).toNat))), ([(2, 0), (2, 1)], jOl (dC, dI) G0 2 [bo, ou] s.heap), (jFy, jYb dC dI Gx_2), (jFqd, jQD dC dI ca Gx_2 none qq)] H_31 locs_31 := (((hh_23.call hb_311 hb_312 hb_313 hb_314 hS_31 rfl (L1 := [(ret_17, 10, 1, .ref about_24), (ret_17, 10, 2, .int (qq.nd ret_17)), (ret_17, 10, 0, (qq.iv ret_17)), (bo, 2, 1, .int wc_2), (bo, 2, 0, .ref wr_2), (r0, 13, 4, .ref bo), (r0, 13, 3, .ref ou), (r0, 13, 7, .ref op), (r0, 13, 8, .ref wt_)]) [0, 1, 2, 3, 4, 7, 8, 9, 10] rfl rfl (M1 := []) [] rfl rfl (I1 := [([(2, 0), (2, 1)], jOl (dC, dI) G0 2 [bo, ou] s.heap), (jFy, jYb dC dI Gx_2), (jFqd, jQD dC dI ca Gx_2 none qq)]) [1, 2, 3] rfl rfl).more hb_315)).addIs hbE_31
              have hh_33 := hh_31.more (P1 := [(op, 1, 2, .int wz_2)]) (jP.cons hg_7 (hbO_31 _ _ _ _ (by first | assumption | exact Ne.symm (by assumption) | exact jnek hg_7 hg_8 (by decide)) hg_7 (hh_23.at 5 rfl)) jP.nil)
              clear hh_23 ht_31 hvm_31 hz_31 hk_31 hS_31 hb_311 hb_312 hb_313 hb_314 hb_315
              clear  hbE_31
              obtain ⟨hr_32, hr_32p⟩ := hr_32
              obtain ⟨ret_34, rfl, hg_ret_34⟩ := hr_32
              refine va_castY hx hb hown (htw (.classLink RX11 115 "ProofServer$Request") (jWr_42 _ (List.mem_of_getElem? (i := 5) rfl))) hK7.2.2.1.2.1.2 (hh_33.recv (C := RX8) (T := TX8) (N := 5) hB10 rfl (by decide) hg_ret_34 hK) dX11_dismiss_54 ?_
              refine lv_ldcw hx hb hown hcs_459 dX11_dismiss_57 ?_
              have hsz_35 := hh_33.2.2.2.2.2.1
              have htt_35 := hh_33.2.2.2.2.2.2.1
              refine W.room (fun hrc_35 hrs_35 => ?_)
              refine va_callv (A0 := jA base) (H0 := s.heap) (va_runV (As := [.ref ret_34, .int (-32801)]) (rest := []) ⟨hx, hb, hml, hown, hts⟩ (uX11_refuse l dC dI ca base B hB hAp hB2 hB4 hB10 hB13 hB17 hB196 hB199 Gx_2 H_31 r0 ret_34 (-32801) bo wc_2 wr_2 m_wr_2 ou LC LS) (cwV 2 hts (jgV (jWr_26 _ (List.mem_of_getElem? (i := 3) rfl)) (jWr_26 _ (List.mem_of_getElem? (i := 4) rfl)) (jWr_26 _ (List.mem_of_getElem? (i := 5) rfl)) (jWr_1 _ (List.mem_of_getElem? (i := 2) rfl)) (jWr_26 _ (List.mem_of_getElem? (i := 6) rfl))) rfl rfl rfl (by decide +kernel) ⟨by rw [← hR]; exact Nat.le_of_ble_eq_true rfl, by rw [← hR]; exact Nat.le_of_ble_eq_true rfl⟩) ⟨fun a U g mk q => by obtain ⟨q0, q1, q2, qK, q10, q11, q12, q13, q14, q15, q16, q17⟩ := q; exact ⟨q0, q1, q2, jG.calling g mk a qK, q10, q11, q12, q13, q14, q15, q16, q17⟩, hh_33.recv (C := RX11) (T := TX11) (N := 19) hB13 rfl (by decide) hg_3 hK, fun U hU hW => ⟨rfl, hU, hh_33.2.1, hG.step hW hU hh_33.1, hg_ret_34, hg_3, hg_5, hg_wr_2, hg_6, (hh_33.2.2.1.sub (L1 := [(r0, 13, 4, .ref bo), (bo, 2, 1, .int wc_2), (bo, 2, 0, .ref wr_2), (r0, 13, 3, .ref ou)]) [7, 5, 6, 8] rfl), (hh_33.2.2.2.2.2.2.2.2.sub (L1 := [(jFy, jYb dC dI Gx_2)]) [2] rfl), (by omega), (by omega), ⟨(by first | omega | rfl | assumption | fail), (by first | omega | rfl | assumption | fail), (by first | omega | rfl | assumption | fail), (by first | omega | rfl | assumption | fail), (by first | assumption | fail | omega)⟩⟩⟩ rfl rfl hl.1 rfl (lv_room (Nat.le_of_ble_eq_true rfl)) dX11_dismiss_60 ⟨by rw [hRc]; omega, by rw [hRs]; omega⟩) hh_33.1 (fun q _ h => h) (fun q h => h) (fun u_35 t_35 H_35 locs_35 ht_35 hvm_35 hr_36 hb_35 hz_35 hk_35 hS_35 => ?_)
              obtain ⟨qc_35, qa_35, m_qa_35, G_35⟩ := u_35
              rw [ht_35] at hb_35
              simp only at hb_35
              obtain ⟨⟨hb_351, hb_352, hb_353, hb_354, hb_355, hb_356⟩, hgq_35_0, hN_35, hbO_35, hbE_35⟩ := hb_35
              have hW_35 := hN_35
              have hh_35 : jSt (dC, dI) B base G0 G_35 EX11_dismissT s.heap (zcx_2 + ((m_qa_35 - m_wr_2) / 16)) (zsx_2 + (2 * (m_qa_35 - m_wr_2))) [(bo, 2, 1, .int qc_35), (bo, 2, 0, .ref qa_35), (op, 1, 2, .int wz_2), (wt_, 1, 2, .int qz_31), (ret_17, 10, 1, .ref about_24), (ret_17, 10, 2, .int (qq.nd ret_17)), (ret_17, 10, 0, (qq.iv ret_17)), (r0, 13, 4, .ref bo), (r0, 13, 3, .ref ou), (r0, 13, 7, .ref op), (r0, 13, 8, .ref wt_)] [] [(jFl, jLs dC dI ca Gx_2 3 none (wl_2.s2 (wl_2.2.2.1.eraseIdx (v2_2.toInt).toNat))), (jFqd, jQD dC dI ca Gx_2 none qq)] H_35 locs_35 := (hh_33.callG hb_351 hb_352 hb_353 hb_354 hb_355 hS_35 rfl (L1 := [(op, 1, 2, .int wz_2), (wt_, 1, 2, .int qz_31), (ret_17, 10, 1, .ref about_24), (ret_17, 10, 2, .int (qq.nd ret_17)), (ret_17, 10, 0, (qq.iv ret_17)), (r0, 13, 4, .ref bo), (r0, 13, 3, .ref ou), (r0, 13, 7, .ref op), (r0, 13, 8, .ref wt_)]) [0, 1, 2, 3, 4, 7, 8, 9, 10] rfl rfl (M1 := []) [] rfl rfl (I1 := [(jFl, jLs dC dI ca Gx_2 3 none (wl_2.s2 (wl_2.2.2.1.eraseIdx (v2_2.toInt).toNat))), (jFqd, jQD dC dI ca Gx_2 none qq)]) [0, 3] rfl rfl).more hb_356
              have hNn_35 : (jNk [0, 1, 2, 3, 4, 5, 6, 7, 8, 9, 10, 11, 12, 13, 14, 15, 16, 17, 175]) G0 G_35 := (hN_2).tr hN_35
              have hg_37 := hb_352 _ _ hg_3
              have hg_38 := hb_352 _ _ hg_4
              have hg_39 := hb_352 _ _ hg_about_24
              have hg_40 := hb_352 _ _ hg_5
              have hg_41 := hb_352 _ _ hg_6
              have hg_42 := hb_352 _ _ hg_7
              have hg_43 := hb_352 _ _ hg_8
              have hd_44 := jLs.grow (hh_35.iv 0 rfl) hb_352 hN_35 (by decide)
              have hh_45 := hh_35.sub (L1 := [(bo, 2, 1, .int qc_35), (bo, 2, 0, .ref qa_35), (op, 1, 2, .int wz_2), (wt_, 1, 2, .int qz_31), (ret_17, 10, 1, .ref about_24), (ret_17, 10, 2, .int (qq.nd ret_17)), (ret_17, 10, 0, (qq.iv ret_17)), (r0, 13, 4, .ref bo), (r0, 13, 3, .ref ou), (r0, 13, 7, .ref op), (r0, 13, 8, .ref wt_)]) [0, 1, 2, 3, 4, 5, 6, 7, 8, 9, 10] rfl (M1 := []) [] rfl (I1 := [(jFqd, jQD dC dI ca Gx_2 none qq)]) [1] rfl
              clear hh_35
              have hh_46 := hh_45.addI (jLs.ie hd_44)
              clear hh_45
              have hd_47 := jQD.grow (ca := ca) (hh_46.iv 1 rfl) hb_352 hW_35 (by decide)
              have hh_48 := hh_46.sub (L1 := [(bo, 2, 1, .int qc_35), (bo, 2, 0, .ref qa_35), (op, 1, 2, .int wz_2), (wt_, 1, 2, .int qz_31), (ret_17, 10, 1, .ref about_24), (ret_17, 10, 2, .int (qq.nd ret_17)), (ret_17, 10, 0, (qq.iv ret_17)), (r0, 13, 4, .ref bo), (r0, 13, 3, .ref ou), (r0, 13, 7, .ref op), (r0, 13, 8, .ref wt_)]) [0, 1, 2, 3, 4, 5, 6, 7, 8, 9, 10] rfl (M1 := []) [] rfl (I1 := [(jFl, jLs dC dI ca G_35 3 none (wl_2.s2 (wl_2.2.2.1.eraseIdx (v2_2.toInt).toNat)))]) [0] rfl
              clear hh_46
              have hh_49 := hh_48.addI (jQD.ie hd_47)
              clear hh_48
              have hh_50 := hh_49.addIs hbE_35
              have hd_51 := jOl.trL (hh_33.iv 1 rfl) hh_33.2.2.2.2.1 hbO_35 (by simp)
              have hh_52 := hh_50.addI (jOl.ie (dC := dC) (dI := dI) (G0 := G0) (k := 2) (rs := [bo, ou]) (H0 := s.heap) (F := [(2, 0), (2, 1)]) (C := RX0) (T := TX0) (N := 2) rfl (by decide) hh_50.2.2.2.2.1 (hd_51))
              clear hh_50
              try simp only at hr_36
              obtain ⟨hr_36_0, hr_36_1, hr_36_2, hr_36_3, hr_36_4⟩ := hr_36
              have hh_53 := hh_52.wk (zc1 := (m_qa_35 - n_pa) / 16) (zs1 := 2 * (m_qa_35 - n_pa)) (by omega) (by omega)
              clear hh_52
              try clear hsz_35 htt_35 hrc_35 hrs_35
              try clear hb_354 hb_355
              refine lv_goto (tgt := 69) hx hb dX11_dismiss_63 (by decide) ?_
              obtain ⟨z_54, ez_54⟩ : ∃ y : Int32, y = v3_2 + 1 := ⟨_, rfl⟩
              refine lv_iinc (v := z_54) (lv' := [(3, .int z_54), (0, .ref r0), (1, .ref r1), (2, .int v2_2)]) hx hb dX11_dismiss_69 hl (k := 3) rfl (by rw [ez_54]; rfl) (by decide) rfl (fun ls hl => ?_)
              have hz_54 : z_54.toInt = v3_2.toInt + 1 := by rw [ez_54]; exact jb_iadd2 (rfl) (by decide) (by omega)
              refine lv_goto (tgt := 4) hx hb dX11_dismiss_72 (by decide) ?_
              refine W.tight (c2 := ((m_qa_35 - n_pa) / 16)) (n2 := (2 * (m_qa_35 - n_pa))) hh_53.2.2.2.2.2.1 hh_53.2.2.2.2.2.2.1 ?_
              exact L4 G_35 ((m_qa_35 - n_pa) / 16) (2 * (m_qa_35 - n_pa)) v2_2 z_54 qc_35 qa_35 m_qa_35 wz_2 qz_31 (wl_2.s2 (wl_2.2.2.1.eraseIdx (v2_2.toInt).toNat)) _ _ (hh_53.sub (L1 := [(bo, 2, 1, .int qc_35), (bo, 2, 0, .ref qa_35), (op, 1, 2, .int wz_2), (wt_, 1, 2, .int qz_31), (r0, 13, 4, .ref bo), (r0, 13, 3, .ref ou), (r0, 13, 7, .ref op), (r0, 13, 8, .ref wt_)]) [0, 1, 2, 3, 7, 8, 9, 10] rfl (M1 := []) [] rfl (I1 := [([(2, 0), (2, 1)], jOl (dC, dI) G0 2 [bo, ou] s.heap), (jFy, jYb dC dI G_35), (jFl, jLs dC dI ca G_35 3 none (wl_2.s2 (wl_2.2.2.1.eraseIdx (v2_2.toInt).toNat))), (jFqd, jQD dC dI ca G_35 none qq)]) [0, 1, 3, 2] rfl) (hNn_35) ((hle_2).tr hb_352) hgq_35_0 (by have hd9 := hi_2_16.d (jdAt hr_16p) (by rw [jzAb.y (hwe36.trans (congrArg Value.ref (Option.some.inj c_28)))]; decide); have hl9 : (wl_2.2.2.1.eraseIdx v2_2.toInt.toNat).length = wl_2.2.2.1.length - 1 := (by rw [List.length_eraseIdx, if_pos (by have h9 := hi_2_14; omega)]); refine ⟨(by first | (with_reducible assumption) | omega), (by first | (with_reducible assumption) | omega), (by first | (with_reducible assumption) | omega), (by first | (with_reducible assumption) | omega), (by first | (with_reducible assumption) | omega), (by first | (with_reducible assumption) | omega), (by first | (with_reducible assumption) | omega), (by first | (with_reducible assumption) | omega), (by first | (with_reducible assumption) | omega), (by first | (with_reducible assumption) | omega), (by first | (with_reducible assumption) | omega), (by first | (with_reducible assumption) | omega), (by first | (with_reducible assumption) | omega), (by first | (with_reducible assumption) | omega), ?_, ?_, hd9⟩; (show ((wl_2.2.2.1.eraseIdx v2_2.toInt.toNat).length : Int) = _; have h9 := hi_2_14; omega); (show wl_2.s2 (wl_2.2.2.1.eraseIdx v2_2.toInt.toNat) = _; rw [hi_2_15]; rfl)) (by omega) _ (lv_sub hl [1, 2, 3, 0] rfl)
  refine W.tight (c2 := 0) (n2 := 0) hh_1.2.2.2.2.2.1 hh_1.2.2.2.2.2.2.1 ?_
  exact L4 (12 - (0 : Int32).toInt : Int).toNat.succ G0 0 0 0 0 pc pa n_pa sz wz wl _ _ (hh_1.sub (L1 := [(bo, 2, 1, .int pc), (bo, 2, 0, .ref pa), (op, 1, 2, .int sz), (wt_, 1, 2, .int wz), (r0, 13, 4, .ref bo), (r0, 13, 3, .ref ou), (r0, 13, 7, .ref op), (r0, 13, 8, .ref wt_)]) [1, 2, 5, 7, 0, 3, 4, 6] rfl (M1 := []) [] rfl (I1 := [([(2, 0), (2, 1)], jOl (dC, dI) G0 2 [bo, ou] s.heap), (jFy, jYb dC dI G0), (jFl, jLs dC dI ca G0 3 none wl), (jFqd, jQD dC dI ca G0 none qq)]) [0, 1, 2, 3] rfl) (jNk.rf) (jLe.rf) hg_pa (⟨(by first | (with_reducible assumption) | omega), (by first | (with_reducible assumption) | omega), (by first | (with_reducible assumption) | omega), (by first | (with_reducible assumption) | omega), (by first | (with_reducible assumption) | omega), (by first | (with_reducible assumption) | omega), (by first | (with_reducible assumption) | omega), (by first | (with_reducible assumption) | omega), (by first | (with_reducible assumption) | omega), (by first | (with_reducible assumption) | omega), (by first | (with_reducible assumption) | omega), (by first | (with_reducible assumption) | omega), (by first | (with_reducible assumption) | omega), (by first | (with_reducible assumption) | omega), hws2.1, rfl, jzPs.st (by omega)⟩) (by omega) _ (lv_sub hl [2, 3, 1, 0] rfl)
end
section
-- p8: a document is closed: on the class's side
section J9P
variable {G : jT} {s0 a d : Nat} {t : jDtl} {q q1 : jKg} {w w1 : jWl9} {ho ho1 : Nat → Option Nat} {us rw : Nat → List Int} {qq : jRqG} {ib : Nat → List Int} {S S1 : Int × (Int → jdD)} {Z : jwSt}
end J9P
section J9Q
variable {G : jT} {s0 a d : Nat} {t : jDtl} {q q1 : jKg} {w w1 w2 : jWl9} {ho ho1 : Nat → Option Nat} {us rw : Nat → List Int} {qq : jRqG} {ib : Nat → List Int} {S S1 : Int × (Int → jdD)} {Z : jwSt} {T : Nat → Int → Int} {v n : Int}
theorem jcZ.cln (h : jcZ G s0 t q w ho us rw qq ib S Z) (hn : jdWh T v (jdCs t w).1 (jdCs t w).2 < 0) : jcZ G s0 t q w ho us rw qq ib (jdClose T v S) (jwCl T v S Z) := by
  rw [h.2.1] at hn
  rw [show jdClose T v S = S from if_neg (by omega), show jwCl T v S Z = Z from if_neg (by omega)]
  exact h
theorem jcZ.clz (h : jcZ G s0 t q w ho us rw qq ib S Z) (hx : 0 ≤ jdWh T v (jdCs t w).1 (jdCs t w).2 ∧ jdWh T v (jdCs t w).1 (jdCs t w).2 < w.1 ∧ w.2.1 (jdWh T v (jdCs t w).1 (jdCs t w).2).toNat = some a) (h0 : 0 ≤ n) (h1 : n < w.1) (hn : w.2.1 n.toNat = some a) (hR : jzRe q q1 a) (hh : ∀ j, j < 2 → ho1 j = if ho j = some a then none else ho j) (hD : w2 = w.s2 (w.2.2.1.filter (fun x => !jzAb qq a x))) (hw : w1 = w2.s1 (w2.1 - 1) (jRmv w2.2.1 n.toNat)) : jcZ G s0 t q1 w1 ho1 us rw qq ib (jdClose T v S) (jwCl T v S Z) := by
  subst hD
  obtain ⟨i1, i2⟩ := jdClose.y (T := T) (v := v) (n := n) (d := t) (w := w.s2 (w.2.2.1.filter (fun x => !jzAb qq a x))) (w1 := w1) (x := a) h.1 hx h0 h1 hn hw
  have e2 : jdCs t (w.s2 (w.2.2.1.filter (fun x => !jzAb qq a x))) = S := h.2.1
  rw [e2] at i2
  rw [h.2.1] at hx
  obtain ⟨x1, x2, x3⟩ := hx
  have ed : jdWh T v S.1 S.2 = n := by
    have := h.inj (i := (jdWh T v S.1 S.2).toNat) (j := n.toNat) (by omega) (by omega) (x3.trans hn.symm)
    omega
  rw [show jwCl T v S Z = jwCl1 Z n by unfold jwCl; rw [ed, if_pos h0]]
  have := h.cls (d := n.toNat) (by omega) hn hR hh (w1 := w1) (by rw [hw]; rfl) (fun i _ => by rw [hw]; rfl) (by rw [hw]; rfl) (by rw [hw]; rfl) i1 i2
  rw [show ((n.toNat : Nat) : Int) = n by omega] at this
  exact this
end J9Q
end
section
-- p8: what holds of the machine stays, from message to message
section J9OM
variable {T : Nat → Int → Int} {v p : Int} {S S1 : Int × (Int → jdD)} {Z : jwSt} {d e : Int}
theorem jwOk.wk : ∀ (k : Nat) (Z : jwSt), jwOk S Z → jwOk S (jwWk S k Z).2
  | 0, _, h => h
  | k + 1, Z, h => by
    by_cases c : jwHs S Z = 1
    · rw [show jwWk S (k + 1) Z = ((jwWk S k (jwAd S (jwAd S Z 0) 1)).1 + 1, (jwWk S k (jwAd S (jwAd S Z 0) 1)).2) from if_pos c]
      exact jwOk.wk k _ ((h.ad (Or.inl rfl)).ad (Or.inr rfl))
    · rw [show jwWk S (k + 1) Z = (0, Z) from if_neg c]
      exact h
end J9OM
end
