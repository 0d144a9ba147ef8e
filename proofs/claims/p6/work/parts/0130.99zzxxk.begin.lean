section
def EX11_beginN : List (Nat × Nat) := [(3, 11), (3, 12), (3, 13)]
set_option maxHeartbeats 4000000 in
set_option maxRecDepth 20000 in
theorem uX11_beginN (l : Launch) (dC : Nat → ClassId) (dI : Nat → Nat → Nat) (ca : Nat → ClassId) (base : Nat) (B : jF) (hB : jBok B) (hAp : jAp (dC, dI)) (hB1 : ∀ n G a H, B 1 n G a H ↔ jOb (dC, dI) 1 3 (F1 n G) a H) (hB3 : ∀ n G a H, B 3 n G a H ↔ jOb (dC, dI) 3 17 (F3 n G) a H) (hB7 : ∀ n G a H, B 7 n G a H ↔ jOb (dC, dI) 7 11 (F7 n G) a H) (hB11 : ∀ n G a H, B 11 n G a H ↔ jOb (dC, dI) 11 9 (F11 n G) a H) (hB13 : ∀ n G a H, B 13 n G a H ↔ jOb (dC, dI) 13 19 (F13 n G) a H) (hB101 : ∀ n G a H, B 101 n G a H ↔ jAr (dC, dI) (ca 1) (fun j z => True) n a H) (hB171 : ∀ n G a H, B 171 n G a H ↔ jAr (dC, dI) (ca 1) (fun j z => 0 ≤ z.toInt ∧ z.toInt ≤ 1500) n a H) (hB172 : ∀ n G a H, B 172 n G a H ↔ jAr (dC, dI) (ca 1) (fun j z => 0 ≤ z.toInt ∧ z.toInt ≤ 1500) n a H) (hB173 : ∀ n G a H, B 173 n G a H ↔ jAr (dC, dI) (ca 1) (fun j z => True) n a H) (hB175 : ∀ n G a H, B 175 n G a H ↔ jAr (dC, dI) (ca 1) (fun j z => True) n a H) (hB176 : ∀ n G a H, B 176 n G a H ↔ jAr (dC, dI) (ca 1) (fun j z => True) n a H) (hB210 : ∀ n G a H, B 210 n G a H ↔ jAq (dC, dI) (ca 6) (jQn 11 0) n G a H) (hB223 : ∀ n G a H, B 223 n G a H ↔ jAq (dC, dI) (ca 9) (jQn 11 0) n G a H) (hB280 : ∀ n G a H, B 280 n G a H ↔ jAr (dC, dI) (ca 1) (fun j z => -1 ≤ z.toInt) n a H) (G0 : jT) (H0 : Heap) (r0 : Nat) (r1 : Nat) (sa_ : Nat) (ea_ : Nat) (tx_ : Nat) (ch_ : Nat) (cz : Int32) (kk_ : Nat) (st_ : Nat) (ph : Nat) (nn : Int) (wl : jWl9) (kq : jKg) (us : Nat → List Int) (rw : Nat → List Int) (ft : Nat → Int32) (LC LS : Nat) : Met l yX11_begin (jw yX11_begin cX11_begin 6 none) ({ frames := 3, cells := LC - H0.size, slots := LS - jTot H0, locals := 107 }) (va_Pc [.ref r0, .ref r1] (fun U => U.heap = H0 ∧ jX B base G0 [] H0 ∧ jG dC dI ca base U ∧ jK2 dC dI ca U ∧ jK7 dC dI ca base U ∧ jK8 U ∧ G0 r0 = some (13, 0) ∧ G0 r1 = some (3, 0) ∧ G0 sa_ = some (171, 40) ∧ G0 ea_ = some (172, 40) ∧ G0 tx_ = some (173, 1500) ∧ G0 ch_ = some (1, 3) ∧ G0 kk_ = some (7, 0) ∧ G0 st_ = some (11, 0) ∧ jP (dC, dI) G0 H0 [(r1, 3, 5, .ref sa_), (r1, 3, 6, .ref ea_), (r1, 3, 2, .ref tx_), (r0, 13, 9, .ref ch_), (ch_, 1, 2, .int cz), (r0, 13, 5, .ref kk_), (kk_, 7, 2, .ref st_)] ∧ jMc (dC, dI) G0 H0 [(tx_, 173, 1500, ca 1, ft)] ∧ jIs (dC, dI) G0 H0 [(jFl, jLs dC dI ca G0 3 none wl), (jFdo, jDcc dC dI ca G0 (some r1) ph), (jFkd, jKD dC dI ca G0 none kq), (jFun, jUN dC dI ca G0 0 us rw)] ∧ H0.size + 1 ≤ LC ∧ jTot H0 + (jSo (kq.se r1) (kq.ck r1).toInt - jSo (kq.sb r1) (kq.ck r1).toInt).toNat ≤ LS ∧ 0 ≤ (kq.ck r1).toInt ∧ (kq.ck r1).toInt < (kq.sn r1).toInt ∧ (kq.sn r1).toInt ≤ 40 ∧ 0 ≤ nn ∧ nn ≤ 1500 ∧ jcP ft nn (kq.sb r1) (kq.se r1) (kq.sn r1).toInt ∧ jcPc ft nn (kq.sc r1) (kq.sn r1).toInt ∧ jzH G0 rw (kq.bh r1) st_ ft nn (kq.ck r1).toInt ∧ (∀ x ∈ wl.2.2.2, jnE (rw x) ∧ rw x ≠ []) ∧ (∀ c ∈ jcU ft nn ((kq.ck r1).toInt).toNat, c ≠ (-1 : Int)))) (va_Qv (S := Nat × Nat × jKg × (Nat → List Int) × jT) (fun u => u.2.1 ≤ 1500 ∧ jzBe G0 kq u.2.2.1 r1 us u.2.2.2.1 rw wl.2.2.2 ft nn u.1) (fun u t => jRa (dC, dI) B base G0 u.2.2.2.2 EX11_beginN H0 (1) ((jSo (kq.se r1) (kq.ck r1).toInt - jSo (kq.sb r1) (kq.ck r1).toInt).toNat) [(r1, 3, 11, .ref u.1)] t.heap ∧ u.2.2.2.2 u.1 = some (175, u.2.1) ∧ (jNk [0, 1, 2, 3, 4, 5, 6, 7, 8, 9, 10, 11, 12, 13, 14, 15, 16, 17]) G0 u.2.2.2.2 ∧ jIs (dC, dI) u.2.2.2.2 t.heap [(jFl, jLs dC dI ca u.2.2.2.2 3 none wl), (jFdo, jDcc dC dI ca u.2.2.2.2 (some r1) ph), (jFkd, jKD dC dI ca u.2.2.2.2 none (u.2.2.1)), (jFun, jUN dC dI ca u.2.2.2.2 0 (u.2.2.2.1) rw)]) (jA base)) (LC - H0.size) (LS - jTot H0) (jA base) := by
  refine Met.ofW (cc := cX11_begin) (maxL := 6) (ret := none) (by decide) rfl ?_
  intro p e s m args below meth c s₁ Bd hml hv
  obtain ⟨rfl, hH0, hX, hG, hK2, hK7, hK8, hg_r0, hg_r1, hg_sa_, hg_ea_, hg_tx_, hg_ch_, hg_kk_, hg_st_, hP0, hM0, hI0, hLC0, hLS0, hp0, hp1, hp2, hp3, hp4, hp5, hp6, hp7, hp8, hp9⟩ := hv
  have hK := hG.1
  have hx := Bd.exec
  have hb := Bd.bytes
  have hr := Bd.returns
  have hts := atoms_spec (ws := (jw yX11_begin cX11_begin 6 none)) Bd.pre
  have htw : ∀ w ∈ jWl, w.before _ s = true := fun w h => hts w (List.mem_cons_of_mem _ h)
  have hown : s.vm.findClass RX11 = some m.cls := findClass_of_methodNamed Bd.named
  have hlocks := Bd.notSynchronized
  obtain ⟨Q, hQ⟩ : ∃ Q, Q = MQ below (va_Qv (S := Nat × Nat × jKg × (Nat → List Int) × jT) (fun u => u.2.1 ≤ 1500 ∧ jzBe G0 kq u.2.2.1 r1 us u.2.2.2.1 rw wl.2.2.2 ft nn u.1) (fun u t => jRa (dC, dI) B base G0 u.2.2.2.2 EX11_beginN H0 (1) ((jSo (kq.se r1) (kq.ck r1).toInt - jSo (kq.sb r1) (kq.ck r1).toInt).toNat) [(r1, 3, 11, .ref u.1)] t.heap ∧ u.2.2.2.2 u.1 = some (175, u.2.1) ∧ (jNk [0, 1, 2, 3, 4, 5, 6, 7, 8, 9, 10, 11, 12, 13, 14, 15, 16, 17]) G0 u.2.2.2.2 ∧ jIs (dC, dI) u.2.2.2.2 t.heap [(jFl, jLs dC dI ca u.2.2.2.2 3 none wl), (jFdo, jDcc dC dI ca u.2.2.2.2 (some r1) ph), (jFkd, jKD dC dI ca u.2.2.2.2 none (u.2.2.1)), (jFun, jUN dC dI ca u.2.2.2.2 0 (u.2.2.2.1) rw)]) (jA base)) ([.ref r0, .ref r1] : List Value).toArray s (LC - H0.size) (LS - jTot H0) (jA base) := ⟨_, rfl⟩
  rw [← hQ]
  have hl := lv_entry ([.ref r0, .ref r1]) (n := 6) (Nat.le_of_ble_eq_true rfl)
  rw [lg_entry_eq]
  generalize (lg_sl ([.ref r0, .ref r1]) ++ List.replicate (6 - (lg_sl ([.ref r0, .ref r1])).length) Slot.unset).toArray = ls at hl ⊢
  have hl : lv_has ls 6 [(0, .ref r0), (1, .ref r1)] := hl
  generalize hR : (headSpec (jw yX11_begin cX11_begin 6 none) ({ frames := 3, cells := LC - H0.size, slots := LS - jTot H0, locals := 107 })).room = R
  subst hH0
  have hh : jSt (dC, dI) B base G0 G0 EX11_beginN s.heap 0 0 [(r1, 3, 5, .ref sa_), (r1, 3, 6, .ref ea_), (r1, 3, 2, .ref tx_), (r0, 13, 9, .ref ch_), (ch_, 1, 2, .int cz), (r0, 13, 5, .ref kk_), (kk_, 7, 2, .ref st_)] [(tx_, 173, 1500, ca 1, ft)] [(jFl, jLs dC dI ca G0 3 none wl), (jFdo, jDcc dC dI ca G0 (some r1) ph), (jFkd, jKD dC dI ca G0 none kq), (jFun, jUN dC dI ca G0 0 us rw)] s.heap [] := jSt.start hX hP0 hM0 hI0
  clear hX hP0
  have hk0 : (0 : Int32).toInt = 0 := by decide
  have hk1 : (1 : Int32).toInt = 1 := by decide
  have hk40 : (40 : Int32).toInt = 40 := by decide
  have hly_3_2 := htw (u_lay RX1 TX1 2) (jWc_wsX10 _ (u_in_lay (by decide)))
  have hly_3_5 := htw (u_lay RX1 TX1 5) (jWc_wsX10 _ (u_in_lay (by decide)))
  have hly_3_6 := htw (u_lay RX1 TX1 6) (jWc_wsX10 _ (u_in_lay (by decide)))
  have hly_3_7 := htw (u_lay RX1 TX1 7) (jWc_wsX10 _ (u_in_lay (by decide)))
  have hly_3_10 := htw (u_lay RX1 TX1 10) (jWc_wsX10 _ (u_in_lay (by decide)))
  have hly_3_11 := htw (u_lay RX1 TX1 11) (jWc_wsX10 _ (u_in_lay (by decide)))
  have hly_3_12 := htw (u_lay RX1 TX1 12) (jWc_wsX10 _ (u_in_lay (by decide)))
  have hly_3_13 := htw (u_lay RX1 TX1 13) (jWc_wsX10 _ (u_in_lay (by decide)))
  have hly_7_2 := htw (u_lay RX5 TX5 2) (jWc_wsX50 _ (u_in_lay (by decide)))
  have hly_11_0 := htw (u_lay RX9 TX9 0) (jWc_wsX90 _ (u_in_lay (by decide)))
  have hly_11_1 := htw (u_lay RX9 TX9 1) (jWc_wsX90 _ (u_in_lay (by decide)))
  have hly_13_5 := htw (u_lay RX11 TX11 5) (jWc_wsX110 _ (u_in_lay (by decide)))
  have hly_13_9 := htw (u_lay RX11 TX11 9) (jWc_wsX110 _ (u_in_lay (by decide)))
  have hlk_171 := (htw (.fieldLink RX11 171 "ProofServer$Document" "checked" "I") (jWr_35 _ (List.mem_of_getElem? (i := 17) rfl)))
  have hlk_41 := (htw (.fieldLink RX11 41 "ProofServer" "kernel" "LProofServer$Kernel;") (jWr_2 _ (List.mem_of_getElem? (i := 5) rfl)))
  have hlk_217 := (htw (.fieldLink RX11 217 "ProofServer$Kernel" "start" "LProofServer$State;") (jWr_30 _ (List.mem_of_getElem? (i := 6) rfl)))
  have hlk_580 := (htw (.fieldLink RX11 580 "ProofServer$Document" "found" "LProofServer$State;") (jWr_43 _ (List.mem_of_getElem? (i := 8) rfl)))
  have hlk_68 := (htw (.fieldLink RX11 68 "ProofServer" "cache" "Ljava/util/List;") (jWr_2 _ (List.mem_of_getElem? (i := 16) rfl)))
  have hlk_596 := (htw (.fieldLink RX11 596 "ProofServer$State" "units" "[I") (jWr_77 _ (List.mem_of_getElem? (i := 13) rfl)))
  have hlk_602 := (htw (.fieldLink RX11 602 "ProofServer$State" "ahead" "LProofServer$State;") (jWr_77 _ (List.mem_of_getElem? (i := 14) rfl)))
  have hlk_567 := (htw (.fieldLink RX11 567 "ProofServer$Document" "checking" "[I") (jWr_43 _ (List.mem_of_getElem? (i := 7) rfl)))
  have hlk_577 := (htw (.fieldLink RX11 577 "ProofServer$Document" "left" "I") (jWr_43 _ (List.mem_of_getElem? (i := 9) rfl)))
  have hlk_174 := (htw (.fieldLink RX11 174 "ProofServer$Document" "text" "[I") (jWr_77 _ (List.mem_of_getElem? (i := 15) rfl)))
  have hlk_182 := (htw (.fieldLink RX11 182 "ProofServer$Document" "starts" "[I") (jWr_40 _ (List.mem_of_getElem? (i := 13) rfl)))
  have hlk_185 := (htw (.fieldLink RX11 185 "ProofServer$Document" "ends" "[I") (jWr_40 _ (List.mem_of_getElem? (i := 14) rfl)))
  have hlk_193 := (htw (.fieldLink RX11 193 "ProofServer$Document" "costs" "[I") (jWr_77 _ (List.mem_of_getElem? (i := 16) rfl)))
  have hbs : base ≤ s.heap.size := Nat.le_of_lt (Nat.lt_of_le_of_lt (hh.ab hg_r0).1 (hh.ab hg_r0).2)
  have hRc : R.cells = LC - s.heap.size := by rw [← hR]; rfl
  have hRs : R.slots = LS - jTot s.heap := by rw [← hR]; rfl
  have hws3 : (wl.2.2.2.length : Int) = cz.toInt ∧ cz.toInt ≤ 24 := jLs.sz2 (hh.iv 0 rfl) hg_ch_ (by decide) (hh.at 4 rfl)
  have hpC := hp8
  have hpU := hp9
  have hpH := hp7
  have hab9 : ∀ z m, G0 z = some (175, m) → z < s.heap.size := fun z m hz => (hh.ab hz).2
  obtain ⟨t1, t2, t3⟩ := hp5 (kq.ck r1).toInt.toNat (by omega)
  have hpc9 := hp6 (kq.ck r1).toInt.toNat (by omega)
  rw [show (((kq.ck r1).toInt.toNat : Nat) : Int) = (kq.ck r1).toInt by omega] at t1 t2 hpc9
  have hce := jcE.rg t3
  have hcb := jcB.nn (f := ft) hp3 (kq.ck r1).toInt.toNat
  obtain ⟨⟨ysb_1, yse_1, ysc_1, ybh_1, hgsb_1, hgse_1, hgsc_1, hgbh_1, hgP_1, hgM_1, hqbh_1⟩, hGe_1⟩ := jKD.opn (ca := ca) (hh.iv 2 rfl) hg_r1
  obtain rfl : sa_ = ysb_1 := by have h9 := jf.uniq (hh.at 0 rfl) (hgP_1 _ (List.mem_of_getElem? (i := 0) rfl)).2; cases h9; rfl
  obtain rfl : ea_ = yse_1 := by have h9 := jf.uniq (hh.at 1 rfl) (hgP_1 _ (List.mem_of_getElem? (i := 1) rfl)).2; cases h9; rfl
  have hh_2 := ((hh.sub (L1 := [(r1, 3, 2, .ref tx_), (r0, 13, 9, .ref ch_), (ch_, 1, 2, .int cz), (r0, 13, 5, .ref kk_), (kk_, 7, 2, .ref st_)]) [2, 3, 4, 5, 6] rfl (M1 := [(tx_, 173, 1500, ca 1, ft)]) [0] rfl (I1 := [(jFl, jLs dC dI ca G0 3 none wl), (jFdo, jDcc dC dI ca G0 (some r1) ph), (jFkd, jKD dC dI ca G0 none kq), (jFun, jUN dC dI ca G0 0 us rw)]) [0, 1, 2, 3] rfl).more (hgP_1.sub (L1 := [(r1, 3, 5, .ref sa_), (r1, 3, 6, .ref ea_), (r1, 3, 7, .ref ysc_1), (r1, 3, 9, .ref ybh_1), (r1, 3, 4, .int (kq.sn r1)), (r1, 3, 10, .int (kq.ck r1)), (r1, 3, 13, .int (kq.lf r1)), (r1, 3, 11, (kq.cv r1)), (r1, 3, 12, (kq.fv r1))]) [0, 1, 2, 3, 4, 5, 6, 7, 8] rfl)).moreM hgM_1
  clear hh
  have hh_3 := hh_2.addI (jQc.ie hqbh_1 hgbh_1 (by decide) (by decide))
  clear hh_2
  have hh_4 := hh_3.sub (L1 := [(r1, 3, 5, .ref sa_), (r1, 3, 6, .ref ea_), (r1, 3, 7, .ref ysc_1), (r1, 3, 9, .ref ybh_1), (r1, 3, 4, .int (kq.sn r1)), (r1, 3, 10, .int (kq.ck r1)), (r1, 3, 13, .int (kq.lf r1)), (r1, 3, 11, (kq.cv r1)), (r1, 3, 12, (kq.fv r1)), (r1, 3, 2, .ref tx_), (r0, 13, 9, .ref ch_), (ch_, 1, 2, .int cz), (r0, 13, 5, .ref kk_), (kk_, 7, 2, .ref st_)]) [0, 1, 2, 3, 4, 5, 6, 7, 8, 9, 10, 11, 12, 13] rfl (M1 := [(sa_, 171, 40, ca 1, (kq.sb r1)), (ea_, 172, 40, ca 1, (kq.se r1)), (ysc_1, 176, 40, ca 1, (kq.sc r1)), (tx_, 173, 1500, ca 1, ft)]) [0, 1, 2, 3] rfl (I1 := [([(210, 0)], jQc dC dI (ca 6) ybh_1 40 (kq.bh r1)), (jFl, jLs dC dI ca G0 3 none wl), (jFdo, jDcc dC dI ca G0 (some r1) ph), (jFun, jUN dC dI ca G0 0 us rw)]) [0, 1, 2, 4] rfl
  clear hh_3
  have hh_5 := hh_4.addI (jKD.ie hGe_1)
  clear hh_4
  refine lv_aload_n hx hb dX11_begin_0 rfl (lv_at hl 1 rfl) ?_
  refine j7_read hx hb hown hK (C := RX1) (T := TX1) (N := 17) rfl hly_3_10 hlk_171 (hh_5.at 5 rfl) dX11_begin_1 ?_
  refine lv_istore_n (lv' := [(2, .int (kq.ck r1)), (0, .ref r0), (1, .ref r1)]) hx hb dX11_begin_4 rfl hl (by decide) rfl (fun ls hl => ?_)
  refine lv_iload_n hx hb dX11_begin_5 rfl (lv_at hl 0 rfl) ?_
  refine lv_if_lt (tgt := 15) hx hb dX11_begin_6 (by decide) (fun c_6 => ?_) (fun c_6 => ?_)
  · skip
    have c_6' : (kq.ck r1).toInt < 0 := jb_lt (rfl) ((by decide)) c_6
    exact absurd c_6' (by omega)
  · skip
    have c_6' : (kq.ck r1).toInt ≥ 0 := jb_lt_n (rfl) ((by decide)) c_6
    refine lv_iload_n hx hb dX11_begin_9 rfl (lv_at hl 0 rfl) ?_
    refine lv_bipush (v := 40) hx hb dX11_begin_10 (by decide) ?_
    refine lv_icmp_lt (tgt := 16) hx hb dX11_begin_12 (by decide) (fun c_7 => ?_) (fun c_7 => ?_)
    · skip
      have c_7' : (kq.ck r1).toInt < 40 := jb_lt (rfl) ((by decide)) c_7
      refine lv_aload_n hx hb dX11_begin_16 rfl (lv_at hl 2 rfl) ?_
      refine lv_iload_n hx hb dX11_begin_17 rfl (lv_at hl 0 rfl) ?_
      refine lv_aload_n hx hb dX11_begin_18 rfl (lv_at hl 1 rfl) ?_
      refine j7_read hx hb hown hK (C := RX11) (T := TX11) (N := 19) rfl hly_13_5 hlk_41 (hh_5.at 12 rfl) dX11_begin_19 ?_
      refine j7_read hx hb hown hK (C := RX5) (T := TX5) (N := 11) rfl hly_7_2 hlk_217 (hh_5.at 13 rfl) dX11_begin_22 ?_
      have hsz_8 := hh_5.2.2.2.2.2.1
      have htt_8 := hh_5.2.2.2.2.2.2.1
      refine W.room (fun hrc_8 hrs_8 => ?_)
      refine j_callx (A0 := jA base) (H0 := s.heap) (va_runV (As := [.int (kq.ck r1), .ref st_]) (rest := []) ⟨hx, hb, hml, hown, hts⟩ (uX1_stateBehindT l dC dI ca base B hB hAp hB3 hB11 hB210 G0 s.heap r1 (kq.ck r1) st_ 0 ybh_1 (kq.bh r1)) (cwV 2 hts (jgV (jWr_30 _ (List.mem_of_getElem? (i := 9) rfl)) (jWr_30 _ (List.mem_of_getElem? (i := 10) rfl)) (jWr_30 _ (List.mem_of_getElem? (i := 11) rfl)) (jWr_2 _ (List.mem_of_getElem? (i := 21) rfl)) (jWr_30 _ (List.mem_of_getElem? (i := 12) rfl))) rfl rfl rfl (by decide +kernel) ⟨by rw [← hR]; exact Nat.le_of_ble_eq_true rfl, by rw [← hR]; exact Nat.le_of_ble_eq_true rfl⟩) ⟨fun a U g mk q => by obtain ⟨q0, q1, q2, qK, q10, q11, q12, q13, q14, q15, q16⟩ := q; exact ⟨q0, q1, q2, jG.calling g mk a qK, (va_K.moved (Vm.Alike.refl U.vm) q10), q11, q12, q13, q14, q15, q16⟩, hh_5.recv (C := RX1) (T := TX1) (N := 17) hB3 rfl (by decide) hg_r1 hK, fun U hU hW => ⟨rfl, hU, hh_5.2.1, hG.step hW hU hh_5.1, va_K.moved hW.alike hK2, hg_r1, hg_st_, hgbh_1, (hh_5.2.2.1.sub (L1 := [(r1, 3, 9, .ref ybh_1)]) [3] rfl), (hh_5.2.2.2.2.2.2.2.2.sub (L1 := [([(210, 0)], jQc dC dI (ca 6) ybh_1 40 (kq.bh r1))]) [1] rfl), trivial⟩⟩ rfl rfl hl.1 rfl (lv_room (Nat.le_of_ble_eq_true rfl)) dX11_begin_25 ⟨by rw [hRc]; show _ + 0 ≤ _; omega, by rw [hRs]; show _ + 0 ≤ _; omega⟩) hh_5.1 (fun q _ h => h) (fun q h => h) (fun r_9 u_8 t_8 H_8 locs_8 ht_8 hvm_8 hr_9 hb_8 hz_8 hk_8 hS_8 => ?_)
      rw [ht_8] at hb_8
      obtain ⟨hb_81, hb_82, hb_83, hb_84, hb_85⟩ := hb_8
      have hh_8 : jSt (dC, dI) B base G0 G0 EX11_beginN s.heap 0 0 [(r1, 3, 5, .ref sa_), (r1, 3, 6, .ref ea_), (r1, 3, 7, .ref ysc_1), (r1, 3, 9, .ref ybh_1), (r1, 3, 4, .int (kq.sn r1)), (r1, 3, 10, .int (kq.ck r1)), (r1, 3, 13, .int (kq.lf r1)), (r1, 3, 11, (kq.cv r1)), (r1, 3, 12, (kq.fv r1)), (r1, 3, 2, .ref tx_), (r0, 13, 9, .ref ch_), (ch_, 1, 2, .int cz), (r0, 13, 5, .ref kk_), (kk_, 7, 2, .ref st_)] [(sa_, 171, 40, ca 1, (kq.sb r1)), (ea_, 172, 40, ca 1, (kq.se r1)), (ysc_1, 176, 40, ca 1, (kq.sc r1)), (tx_, 173, 1500, ca 1, ft)] [(jFkd, jKD dC dI ca G0 (some r1) kq), ([(210, 0)], jQc dC dI (ca 6) ybh_1 40 (kq.bh r1)), (jFl, jLs dC dI ca G0 3 none wl), (jFdo, jDcc dC dI ca G0 (some r1) ph), (jFun, jUN dC dI ca G0 0 us rw)] H_8 locs_8 := ((hh_5.call hb_81 hb_82 hb_83 hb_84 hS_8 rfl (L1 := [(r1, 3, 5, .ref sa_), (r1, 3, 6, .ref ea_), (r1, 3, 7, .ref ysc_1), (r1, 3, 9, .ref ybh_1), (r1, 3, 4, .int (kq.sn r1)), (r1, 3, 10, .int (kq.ck r1)), (r1, 3, 13, .int (kq.lf r1)), (r1, 3, 11, (kq.cv r1)), (r1, 3, 12, (kq.fv r1)), (r1, 3, 2, .ref tx_), (r0, 13, 9, .ref ch_), (ch_, 1, 2, .int cz), (r0, 13, 5, .ref kk_), (kk_, 7, 2, .ref st_)]) [0, 1, 2, 3, 4, 5, 6, 7, 8, 9, 10, 11, 12, 13] rfl rfl (M1 := [(sa_, 171, 40, ca 1, (kq.sb r1)), (ea_, 172, 40, ca 1, (kq.se r1)), (ysc_1, 176, 40, ca 1, (kq.sc r1)), (tx_, 173, 1500, ca 1, ft)]) [0, 1, 2, 3] rfl rfl (I1 := [(jFkd, jKD dC dI ca G0 (some r1) kq), ([(210, 0)], jQc dC dI (ca 6) ybh_1 40 (kq.bh r1)), (jFl, jLs dC dI ca G0 3 none wl), (jFdo, jDcc dC dI ca G0 (some r1) ph), (jFun, jUN dC dI ca G0 0 us rw)]) [0, 1, 2, 3, 4] rfl rfl).more hb_85)
      clear hh_5 ht_8 hvm_8 hz_8 hk_8 hS_8 hb_81 hb_82 hb_83 hb_84 hb_85
      obtain ⟨hr_9, hr_9p⟩ := hr_9
      obtain ⟨ret_10, rfl, hg_ret_10⟩ := hr_9
      refine lv_astore_n (lv' := [(3, .ref ret_10), (2, .int (kq.ck r1)), (0, .ref r0), (1, .ref r1)]) hx hb dX11_begin_28 rfl hl (by decide) rfl (fun ls hl => ?_)
      have hah8 : rw (jzB (kq.bh r1) (kq.ck r1).toInt st_) = jcR ft nn (kq.ck r1).toInt.toNat := hpH.bb (by omega) (by omega)
      have hah9 : rw ret_10 = jcR ft nn (kq.ck r1).toInt.toNat := by rw [← hah8]; exact congrArg rw (Value.ref.inj hr_9p)
      have hahE : jnE (rw ret_10) := by rw [hah9]; exact jcR.en _
      refine lv_aload_n hx hb dX11_begin_29 rfl (lv_at hl 3 rfl) ?_
      refine lv_null hx hb dX11_begin_30 ?_
      have hdg_11 := hh_8.iv 0 rfl
      have hdg_11_5 := hh_8.at 0 rfl
      have hdg_11_6 := hh_8.at 1 rfl
      have hdg_11_7 := hh_8.at 2 rfl
      have hdg_11_9 := hh_8.at 3 rfl
      have hh_12 := hh_8.sub (L1 := [(r1, 3, 5, .ref sa_), (r1, 3, 6, .ref ea_), (r1, 3, 7, .ref ysc_1), (r1, 3, 9, .ref ybh_1), (r1, 3, 4, .int (kq.sn r1)), (r1, 3, 10, .int (kq.ck r1)), (r1, 3, 13, .int (kq.lf r1)), (r1, 3, 11, (kq.cv r1)), (r1, 3, 12, (kq.fv r1)), (r1, 3, 2, .ref tx_), (r0, 13, 9, .ref ch_), (ch_, 1, 2, .int cz), (r0, 13, 5, .ref kk_), (kk_, 7, 2, .ref st_)]) [0, 1, 2, 3, 4, 5, 6, 7, 8, 9, 10, 11, 12, 13] rfl (M1 := [(sa_, 171, 40, ca 1, (kq.sb r1)), (ea_, 172, 40, ca 1, (kq.se r1)), (ysc_1, 176, 40, ca 1, (kq.sc r1)), (tx_, 173, 1500, ca 1, ft)]) [0, 1, 2, 3] rfl (I1 := [([(210, 0)], jQc dC dI (ca 6) ybh_1 40 (kq.bh r1)), (jFl, jLs dC dI ca G0 3 none wl), (jFdo, jDcc dC dI ca G0 (some r1) ph), (jFun, jUN dC dI ca G0 0 us rw)]) [1, 2, 3, 4] rfl
      clear hh_8
      refine j7_putX hx hb hown hK hh_12 hB hAp hB3 (C := RX1) (T := TX1) (N := 17) rfl (by decide) hg_r1 (i := 12) (by decide) hly_3_12 rfl hlk_580 rfl (ty := (.object "ProofServer$State")) (v := .null) (by decide +kernel) rfl rfl (Or.inl rfl) rfl (L1 := [(r1, 3, 5, .ref sa_), (r1, 3, 6, .ref ea_), (r1, 3, 7, .ref ysc_1), (r1, 3, 9, .ref ybh_1), (r1, 3, 4, .int (kq.sn r1)), (r1, 3, 10, .int (kq.ck r1)), (r1, 3, 13, .int (kq.lf r1)), (r1, 3, 11, (kq.cv r1)), (r1, 3, 2, .ref tx_), (r0, 13, 9, .ref ch_), (ch_, 1, 2, .int cz), (r0, 13, 5, .ref kk_), (kk_, 7, 2, .ref st_)]) [0, 1, 2, 3, 4, 5, 6, 7, 9, 10, 11, 12, 13] rfl rfl rfl dX11_begin_31 (fun H_13 locs_13 hr_13 hh_13 => ?_)
      clear hh_12
      have hdg_11n := jKD.fld (ca := ca) hdg_11 hg_r1 hr_13 hdg_11_5 hdg_11_6 hdg_11_7 hdg_11_9 (hh_13.at 1 rfl) (hh_13.at 2 rfl) (hh_13.at 3 rfl) (hh_13.at 4 rfl)
      have hh_14 := hh_13.addI (jKD.ie hdg_11n)
      clear hh_13
      clear hdg_11 hdg_11n hr_13 hdg_11_5 hdg_11_6 hdg_11_7 hdg_11_9
      refine lv_iconst (v := 0) hx hb dX11_begin_34 (by decide) ?_
      refine lv_istore (lv' := [(4, .int 0), (3, .ref ret_10), (2, .int (kq.ck r1)), (0, .ref r0), (1, .ref r1)]) hx hb dX11_begin_35 hl (by decide) rfl (fun ls hl => ?_)
      have L37 : ∀ (N : Nat) (v4_15 : Int32) (wf_15 : Value) (H_15 : Heap) (locs_15 : List Loc), jSt (dC, dI) B base G0 G0 EX11_beginN s.heap 0 0 [(r1, 3, 12, wf_15), (r1, 3, 5, .ref sa_), (r1, 3, 6, .ref ea_), (r1, 3, 7, .ref ysc_1), (r1, 3, 9, .ref ybh_1), (r1, 3, 4, .int (kq.sn r1)), (r1, 3, 10, .int (kq.ck r1)), (r1, 3, 13, .int (kq.lf r1)), (r1, 3, 11, (kq.cv r1)), (r1, 3, 2, .ref tx_), (r0, 13, 9, .ref ch_), (ch_, 1, 2, .int cz), (r0, 13, 5, .ref kk_), (kk_, 7, 2, .ref st_)] [(sa_, 171, 40, ca 1, (kq.sb r1)), (ea_, 172, 40, ca 1, (kq.se r1)), (ysc_1, 176, 40, ca 1, (kq.sc r1)), (tx_, 173, 1500, ca 1, ft)] [(jFkd, jKD dC dI ca G0 (some r1) kq), ([(210, 0)], jQc dC dI (ca 6) ybh_1 40 (kq.bh r1)), (jFl, jLs dC dI ca G0 3 none wl), (jFdo, jDcc dC dI ca G0 (some r1) ph), (jFun, jUN dC dI ca G0 0 us rw)] H_15 locs_15 → (0 ≤ v4_15.toInt ∧ v4_15.toInt ≤ cz.toInt ∧ jzF wl.2.2.2 rw (jcR ft nn ((kq.ck r1).toInt + 1).toNat) wf_15 v4_15.toInt) → (cz.toInt - v4_15.toInt : Int) < N → ∀ ls : Array Slot, lv_has ls 6 [(0, .ref r0), (1, .ref r1), (2, .int (kq.ck r1)), (3, .ref ret_10), (4, .int v4_15)] → W p l e R s m ([.ref r0, .ref r1] : List Value).toArray below meth c H_15 locs_15 0 0 Q (F0 m 37 ls []) := by
        intro N
        induction N with
        | zero => intro v4_15 wf_15 H_15 locs_15 hh_15  hi_15 hm; exact absurd hm (by omega)
        | succ N L37 =>
          intro v4_15 wf_15 H_15 locs_15 hh_15  hi_15 hm_15 ls hl
          obtain ⟨hi_15_0, hi_15_1, hi_15_2⟩ := hi_15
          refine lv_iload hx hb dX11_begin_37 (lv_at hl 4 rfl) ?_
          refine lv_aload_n hx hb dX11_begin_39 rfl (lv_at hl 0 rfl) ?_
          refine j7_read hx hb hown hK (C := RX11) (T := TX11) (N := 19) rfl hly_13_9 hlk_68 (hh_15.at 10 rfl) dX11_begin_40 ?_
          have hsz_16 := hh_15.2.2.2.2.2.1
          have htt_16 := hh_15.2.2.2.2.2.2.1
          refine W.room (fun hrc_16 hrs_16 => ?_)
          refine va_callFi (A0 := jA base) (H0 := s.heap) (va_runF (hK.1 1 _ rfl).2 (As := []) (rest := [.int v4_15]) ⟨hx, hb, hml, hown, hts⟩ (uJx4a65c_size_8abf5 l dC dI ca base B hB hAp hB1 G0 H_15 ch_ 3 cz) (va_cwF 0 hts (jgF (jWr_27 _ (List.mem_of_getElem? (i := 22) rfl)) (jWr_27 _ (List.mem_of_getElem? (i := 23) rfl)) (jWr_28 _ (List.mem_of_getElem? (i := 0) rfl)) (jWr_2 _ (List.mem_of_getElem? (i := 13) rfl)) (jWr_28 _ (List.mem_of_getElem? (i := 1) rfl))) rfl rfl rfl hK7.2.2.2.2.2.1.1 ⟨by decide, by decide, by decide +kernel⟩ ⟨by rw [← hR]; exact Nat.le_of_ble_eq_true rfl, by rw [← hR]; exact Nat.le_of_ble_eq_true rfl⟩) ⟨fun a U g mk q => by obtain ⟨q0, q1, q2, qK, q10, q11, q12⟩ := q; exact ⟨q0, q1, q2, jG.calling g mk a qK, q10, q11, q12⟩, hh_15.recv (C := RJx4a65c) (T := TJx4a65c) (N := 3) hB1 rfl (by decide) hg_ch_ hK, fun U hU hW => ⟨rfl, hU, hh_15.2.1, hG.step hW hU hh_15.1, hg_ch_, (hh_15.2.2.1.sub (L1 := [(ch_, 1, 2, .int cz)]) [11] rfl), trivial⟩⟩ rfl rfl hl.1 rfl (lv_room (Nat.le_of_ble_eq_true rfl)) dX11_begin_43 ⟨by rw [hRc]; show _ + 0 ≤ _; omega, by rw [hRs]; show _ + 0 ≤ _; omega⟩) hh_15.1 (fun q _ h => h) (fun q h => h) (fun r_17 u_16 t_16 H_16 locs_16 ht_16 hvm_16 hr_17 hb_16 hz_16 hk_16 hS_16 => ?_)
          rw [ht_16] at hb_16
          obtain ⟨hb_161, hb_162, hb_163, hb_164, hb_165⟩ := hb_16
          have hh_16 : jSt (dC, dI) B base G0 G0 EX11_beginN s.heap 0 0 [(r1, 3, 12, wf_15), (r1, 3, 5, .ref sa_), (r1, 3, 6, .ref ea_), (r1, 3, 7, .ref ysc_1), (r1, 3, 9, .ref ybh_1), (r1, 3, 4, .int (kq.sn r1)), (r1, 3, 10, .int (kq.ck r1)), (r1, 3, 13, .int (kq.lf r1)), (r1, 3, 11, (kq.cv r1)), (r1, 3, 2, .ref tx_), (r0, 13, 9, .ref ch_), (ch_, 1, 2, .int cz), (r0, 13, 5, .ref kk_), (kk_, 7, 2, .ref st_)] [(sa_, 171, 40, ca 1, (kq.sb r1)), (ea_, 172, 40, ca 1, (kq.se r1)), (ysc_1, 176, 40, ca 1, (kq.sc r1)), (tx_, 173, 1500, ca 1, ft)] [(jFkd, jKD dC dI ca G0 (some r1) kq), ([(210, 0)], jQc dC dI (ca 6) ybh_1 40 (kq.bh r1)), (jFl, jLs dC dI ca G0 3 none wl), (jFdo, jDcc dC dI ca G0 (some r1) ph), (jFun, jUN dC dI ca G0 0 us rw)] H_16 locs_16 := ((hh_15.call hb_161 hb_162 hb_163 hb_164 hS_16 rfl (L1 := [(r1, 3, 12, wf_15), (r1, 3, 5, .ref sa_), (r1, 3, 6, .ref ea_), (r1, 3, 7, .ref ysc_1), (r1, 3, 9, .ref ybh_1), (r1, 3, 4, .int (kq.sn r1)), (r1, 3, 10, .int (kq.ck r1)), (r1, 3, 13, .int (kq.lf r1)), (r1, 3, 11, (kq.cv r1)), (r1, 3, 2, .ref tx_), (r0, 13, 9, .ref ch_), (ch_, 1, 2, .int cz), (r0, 13, 5, .ref kk_), (kk_, 7, 2, .ref st_)]) [0, 1, 2, 3, 4, 5, 6, 7, 8, 9, 10, 11, 12, 13] rfl rfl (M1 := [(sa_, 171, 40, ca 1, (kq.sb r1)), (ea_, 172, 40, ca 1, (kq.se r1)), (ysc_1, 176, 40, ca 1, (kq.sc r1)), (tx_, 173, 1500, ca 1, ft)]) [0, 1, 2, 3] rfl rfl (I1 := [(jFkd, jKD dC dI ca G0 (some r1) kq), ([(210, 0)], jQc dC dI (ca 6) ybh_1 40 (kq.bh r1)), (jFl, jLs dC dI ca G0 3 none wl), (jFdo, jDcc dC dI ca G0 (some r1) ph), (jFun, jUN dC dI ca G0 0 us rw)]) [0, 1, 2, 3, 4] rfl rfl).more hb_165)
          clear hh_15 ht_16 hvm_16 hz_16 hk_16 hS_16 hb_161 hb_162 hb_163 hb_164 hb_165
          refine lv_icmp_ge (tgt := 111) hx hb dX11_begin_48 (by decide) (fun c_18 => ?_) (fun c_18 => ?_)
          · skip
            have c_18' : v4_15.toInt ≥ r_17.toInt := jb_ge (rfl) (rfl) c_18
            refine lv_aload_n hx hb dX11_begin_111 rfl (lv_at hl 1 rfl) ?_
            have hwf_19 := hh_16.at 0 rfl
            have hh_20 := hh_16.sub (L1 := [(r1, 3, 5, .ref sa_), (r1, 3, 6, .ref ea_), (r1, 3, 7, .ref ysc_1), (r1, 3, 9, .ref ybh_1), (r1, 3, 4, .int (kq.sn r1)), (r1, 3, 10, .int (kq.ck r1)), (r1, 3, 13, .int (kq.lf r1)), (r1, 3, 11, (kq.cv r1)), (r1, 3, 2, .ref tx_), (r0, 13, 9, .ref ch_), (ch_, 1, 2, .int cz), (r0, 13, 5, .ref kk_), (kk_, 7, 2, .ref st_)]) [1, 2, 3, 4, 5, 6, 7, 8, 9, 10, 11, 12, 13] rfl (M1 := [(sa_, 171, 40, ca 1, (kq.sb r1)), (ea_, 172, 40, ca 1, (kq.se r1)), (ysc_1, 176, 40, ca 1, (kq.sc r1)), (tx_, 173, 1500, ca 1, ft)]) [0, 1, 2, 3] rfl (I1 := [(jFkd, jKD dC dI ca G0 (some r1) kq), ([(210, 0)], jQc dC dI (ca 6) ybh_1 40 (kq.bh r1)), (jFl, jLs dC dI ca G0 3 none wl), (jFdo, jDcc dC dI ca G0 (some r1) ph), (jFun, jUN dC dI ca G0 0 us rw)]) [0, 1, 2, 3, 4] rfl
            clear hh_16
            obtain ⟨v_21, hv_21, hh_22⟩ := hh_20.pin (C := RX1) (T := TX1) (N := 17) hB3 rfl (by decide) hg_r1 (i := 12) (by decide) rfl
            clear hh_20
            have hwe112 : wf_15 = v_21 := jf.uniq hwf_19 (hh_22.at 0 rfl)
            clear hwf_19
            rcases hv_21 with rfl | ⟨found_23, rfl, hg_found_23⟩
            · refine j7_read hx hb hown hK (C := RX1) (T := TX1) (N := 17) rfl hly_3_12 hlk_580 (hh_22.at 0 rfl) dX11_begin_112 ?_
              refine lv_ifnullN (tgt := 137) hx hb dX11_begin_115 (by decide) ?_
              have hno9 := jzF.no hi_15_2 hwe112 (by have h9 := hws3.1; omega)
              refine lv_aload_n hx hb dX11_begin_137 rfl (lv_at hl 1 rfl) ?_
              refine lv_aload_n hx hb dX11_begin_138 rfl (lv_at hl 1 rfl) ?_
              refine j7_read hx hb hown hK (C := RX1) (T := TX1) (N := 17) rfl hly_3_2 hlk_174 (hh_22.at 9 rfl) dX11_begin_139 ?_
              refine lv_aload_n hx hb dX11_begin_142 rfl (lv_at hl 1 rfl) ?_
              refine j7_read hx hb hown hK (C := RX1) (T := TX1) (N := 17) rfl hly_3_5 hlk_182 (hh_22.at 1 rfl) dX11_begin_143 ?_
              refine lv_iload_n hx hb dX11_begin_146 rfl (lv_at hl 2 rfl) ?_
              refine j7_ialdM hx hb hK hh_22 hB171 1 rfl (by decide) hgsb_1 (x := (kq.ck r1).toInt) (rfl) (by omega) (j := 0) rfl dX11_begin_147 (fun z_24 ez_24 (hz_24 : 0 ≤ z_24.toInt ∧ z_24.toInt ≤ 1500) => ?_)
              have hqz_24 : z_24.toInt = jSo (kq.sb r1) ((kq.ck r1).toInt) := by unfold jSo; rw [ez_24]
              refine lv_aload_n hx hb dX11_begin_148 rfl (lv_at hl 1 rfl) ?_
              refine j7_read hx hb hown hK (C := RX1) (T := TX1) (N := 17) rfl hly_3_6 hlk_185 (hh_22.at 2 rfl) dX11_begin_149 ?_
              refine lv_iload_n hx hb dX11_begin_152 rfl (lv_at hl 2 rfl) ?_
              refine j7_ialdM hx hb hK hh_22 hB172 1 rfl (by decide) hgse_1 (x := (kq.ck r1).toInt) (rfl) (by omega) (j := 1) rfl dX11_begin_153 (fun z_25 ez_25 (hz_25 : 0 ≤ z_25.toInt ∧ z_25.toInt ≤ 1500) => ?_)
              have hqz_25 : z_25.toInt = jSo (kq.se r1) ((kq.ck r1).toInt) := by unfold jSo; rw [ez_25]
              have hsz_26 := hh_22.2.2.2.2.2.1
              have htt_26 := hh_22.2.2.2.2.2.2.1
              refine W.room (fun hrc_26 hrs_26 => ?_)
              refine j_callx (A0 := jA base) (H0 := s.heap) (va_runS (As := [.ref tx_, .int z_24, .int z_25]) (rest := [.ref r1]) ⟨hx, hb, hml, hown, hts⟩ (uJ7_copyOfRange_feeccN l dC dI ca base B hB hAp hB173 hB175 hB280 G0 H_16 tx_ z_24 z_25 1500 us rw ft LC LS) (va_cwS 3 hts (jgS (jWr_77 _ (List.mem_of_getElem? (i := 21) rfl)) (jWr_77 _ (List.mem_of_getElem? (i := 22) rfl)) (jWr_16 _ (List.mem_of_getElem? (i := 7) rfl)) (jWr_77 _ (List.mem_of_getElem? (i := 23) rfl))) rfl rfl rfl (by decide +kernel) ⟨by rw [← hR]; exact Nat.le_of_ble_eq_true rfl, by rw [← hR]; exact Nat.le_of_ble_eq_true rfl⟩) ⟨fun a U g mk q => by obtain ⟨q0, q1, q2, qK, q10, q11, q12, q13, q14, q15⟩ := q; exact ⟨q0, q1, q2, jG.calling g mk a qK, (jK8.calling g mk a q10), q11, q12, q13, q14, q15⟩, fun U hU hW => ⟨rfl, hU, hh_22.2.1, hG.step hW hU hh_22.1, (jK8.warm hW hK8), hg_tx_, jP.nil, (hh_22.2.2.2.2.2.2.2.1.sub (L1 := [(tx_, 173, 1500, ca 1, ft)]) [3] rfl), (hh_22.2.2.2.2.2.2.2.2.sub (L1 := [(jFun, jUN dC dI ca G0 0 us rw)]) [4] rfl), ⟨(by first | omega | rfl | assumption | (have h9 := hqz_24; have h8 := hqz_25; omega)), (by first | omega | rfl | assumption | (have h9 := hqz_24; have h8 := hqz_25; omega)), (by first | omega | rfl | assumption | (have h9 := hqz_24; have h8 := hqz_25; omega)), (by first | omega | rfl | assumption | (have h9 := hqz_24; have h8 := hqz_25; omega))⟩⟩⟩ rfl rfl hl.1 rfl (lv_room (Nat.le_of_ble_eq_true rfl)) dX11_begin_154 ⟨by rw [hRc]; omega, by rw [hRs]; omega⟩) hh_22.1 (fun q _ h => h) (fun q h => h) (fun r_27 u_26 t_26 H_26 locs_26 ht_26 hvm_26 hr_27 hb_26 hz_26 hk_26 hS_26 => ?_)
              rw [ht_26] at hb_26
              obtain ⟨qu_26, x_ret_26, m_ret_26, G_26⟩ := u_26
              simp only at hb_26
              obtain ⟨⟨hb_261, hb_262, hb_263, hb_264, hb_265, hb_266⟩, hN_26, hbQ_26, hbK_26, hbE_26⟩ := hb_26
              have hW_26 := hN_26
              have hh_26 : jSt (dC, dI) B base G0 G_26 EX11_beginN s.heap (0 + (1)) (0 + (m_ret_26)) [(r1, 3, 12, .null), (r1, 3, 5, .ref sa_), (r1, 3, 6, .ref ea_), (r1, 3, 7, .ref ysc_1), (r1, 3, 9, .ref ybh_1), (r1, 3, 4, .int (kq.sn r1)), (r1, 3, 10, .int (kq.ck r1)), (r1, 3, 13, .int (kq.lf r1)), (r1, 3, 11, (kq.cv r1)), (r1, 3, 2, .ref tx_), (r0, 13, 9, .ref ch_), (ch_, 1, 2, .int cz), (r0, 13, 5, .ref kk_), (kk_, 7, 2, .ref st_)] [(sa_, 171, 40, ca 1, (kq.sb r1)), (ea_, 172, 40, ca 1, (kq.se r1)), (ysc_1, 176, 40, ca 1, (kq.sc r1)), (tx_, 173, 1500, ca 1, ft)] [(jFkd, jKD dC dI ca G0 (some r1) kq), ([(210, 0)], jQc dC dI (ca 6) ybh_1 40 (kq.bh r1)), (jFl, jLs dC dI ca G0 3 none wl), (jFdo, jDcc dC dI ca G0 (some r1) ph)] H_26 locs_26 := (hh_22.callG hb_261 hb_262 hb_263 hb_264 hb_265 hS_26 rfl (L1 := [(r1, 3, 12, .null), (r1, 3, 5, .ref sa_), (r1, 3, 6, .ref ea_), (r1, 3, 7, .ref ysc_1), (r1, 3, 9, .ref ybh_1), (r1, 3, 4, .int (kq.sn r1)), (r1, 3, 10, .int (kq.ck r1)), (r1, 3, 13, .int (kq.lf r1)), (r1, 3, 11, (kq.cv r1)), (r1, 3, 2, .ref tx_), (r0, 13, 9, .ref ch_), (ch_, 1, 2, .int cz), (r0, 13, 5, .ref kk_), (kk_, 7, 2, .ref st_)]) [0, 1, 2, 3, 4, 5, 6, 7, 8, 9, 10, 11, 12, 13] rfl rfl (M1 := [(sa_, 171, 40, ca 1, (kq.sb r1)), (ea_, 172, 40, ca 1, (kq.se r1)), (ysc_1, 176, 40, ca 1, (kq.sc r1)), (tx_, 173, 1500, ca 1, ft)]) [0, 1, 2, 3] rfl rfl (I1 := [(jFkd, jKD dC dI ca G0 (some r1) kq), ([(210, 0)], jQc dC dI (ca 6) ybh_1 40 (kq.bh r1)), (jFl, jLs dC dI ca G0 3 none wl), (jFdo, jDcc dC dI ca G0 (some r1) ph)]) [0, 1, 2, 3] rfl rfl).more hb_266
              have hNn_26 : (jNk [0, 1, 2, 3, 4, 5, 6, 7, 8, 9, 10, 11, 12, 13, 14, 15, 16, 17]) G0 G_26 := (jNk.rf).tr hN_26
              have hg_28 := hb_262 _ _ hg_r0
              have hg_29 := hb_262 _ _ hg_r1
              have hg_30 := hb_262 _ _ hg_ret_10
              have hg_31 := hb_262 _ _ hgsb_1
              have hg_32 := hb_262 _ _ hgse_1
              have hg_33 := hb_262 _ _ hgsc_1
              have hg_34 := hb_262 _ _ hgbh_1
              have hg_35 := hb_262 _ _ hg_tx_
              have hg_36 := hb_262 _ _ hg_ch_
              have hg_37 := hb_262 _ _ hg_kk_
              have hg_38 := hb_262 _ _ hg_st_
              have hd_39 := jKD.grow (ca := ca) (hh_26.iv 0 rfl) hb_262 hW_26 (by decide)
              have hh_40 := hh_26.sub (L1 := [(r1, 3, 12, .null), (r1, 3, 5, .ref sa_), (r1, 3, 6, .ref ea_), (r1, 3, 7, .ref ysc_1), (r1, 3, 9, .ref ybh_1), (r1, 3, 4, .int (kq.sn r1)), (r1, 3, 10, .int (kq.ck r1)), (r1, 3, 13, .int (kq.lf r1)), (r1, 3, 11, (kq.cv r1)), (r1, 3, 2, .ref tx_), (r0, 13, 9, .ref ch_), (ch_, 1, 2, .int cz), (r0, 13, 5, .ref kk_), (kk_, 7, 2, .ref st_)]) [0, 1, 2, 3, 4, 5, 6, 7, 8, 9, 10, 11, 12, 13] rfl (M1 := [(sa_, 171, 40, ca 1, (kq.sb r1)), (ea_, 172, 40, ca 1, (kq.se r1)), (ysc_1, 176, 40, ca 1, (kq.sc r1)), (tx_, 173, 1500, ca 1, ft)]) [0, 1, 2, 3] rfl (I1 := [([(210, 0)], jQc dC dI (ca 6) ybh_1 40 (kq.bh r1)), (jFl, jLs dC dI ca G0 3 none wl), (jFdo, jDcc dC dI ca G0 (some r1) ph)]) [1, 2, 3] rfl
              clear hh_26
              have hh_41 := hh_40.addI (jKD.ie hd_39)
              clear hh_40
              have hd_43 := jLs.grow (hh_41.iv 2 rfl) hb_262 hN_26 (by decide)
              have hh_44 := hh_41.sub (L1 := [(r1, 3, 12, .null), (r1, 3, 5, .ref sa_), (r1, 3, 6, .ref ea_), (r1, 3, 7, .ref ysc_1), (r1, 3, 9, .ref ybh_1), (r1, 3, 4, .int (kq.sn r1)), (r1, 3, 10, .int (kq.ck r1)), (r1, 3, 13, .int (kq.lf r1)), (r1, 3, 11, (kq.cv r1)), (r1, 3, 2, .ref tx_), (r0, 13, 9, .ref ch_), (ch_, 1, 2, .int cz), (r0, 13, 5, .ref kk_), (kk_, 7, 2, .ref st_)]) [0, 1, 2, 3, 4, 5, 6, 7, 8, 9, 10, 11, 12, 13] rfl (M1 := [(sa_, 171, 40, ca 1, (kq.sb r1)), (ea_, 172, 40, ca 1, (kq.se r1)), (ysc_1, 176, 40, ca 1, (kq.sc r1)), (tx_, 173, 1500, ca 1, ft)]) [0, 1, 2, 3] rfl (I1 := [(jFkd, jKD dC dI ca G_26 (some r1) kq), ([(210, 0)], jQc dC dI (ca 6) ybh_1 40 (kq.bh r1)), (jFdo, jDcc dC dI ca G0 (some r1) ph)]) [0, 1, 3] rfl
              clear hh_41
              have hh_45 := hh_44.addI (jLs.ie hd_43)
              clear hh_44
              have hd_46 := jDcc.grow (hh_45.iv 3 rfl) hb_262 hN_26 (by decide)
              have hh_47 := hh_45.sub (L1 := [(r1, 3, 12, .null), (r1, 3, 5, .ref sa_), (r1, 3, 6, .ref ea_), (r1, 3, 7, .ref ysc_1), (r1, 3, 9, .ref ybh_1), (r1, 3, 4, .int (kq.sn r1)), (r1, 3, 10, .int (kq.ck r1)), (r1, 3, 13, .int (kq.lf r1)), (r1, 3, 11, (kq.cv r1)), (r1, 3, 2, .ref tx_), (r0, 13, 9, .ref ch_), (ch_, 1, 2, .int cz), (r0, 13, 5, .ref kk_), (kk_, 7, 2, .ref st_)]) [0, 1, 2, 3, 4, 5, 6, 7, 8, 9, 10, 11, 12, 13] rfl (M1 := [(sa_, 171, 40, ca 1, (kq.sb r1)), (ea_, 172, 40, ca 1, (kq.se r1)), (ysc_1, 176, 40, ca 1, (kq.sc r1)), (tx_, 173, 1500, ca 1, ft)]) [0, 1, 2, 3] rfl (I1 := [(jFl, jLs dC dI ca G_26 3 none wl), (jFkd, jKD dC dI ca G_26 (some r1) kq), ([(210, 0)], jQc dC dI (ca 6) ybh_1 40 (kq.bh r1))]) [0, 1, 2] rfl
              clear hh_45
              have hh_48 := hh_47.addI (jDcc.ie hd_46)
              clear hh_47
              have hh_49 := hh_48.addIs hbE_26
              obtain ⟨rfl, hr_27, hr_27n, hr_27p⟩ := hr_27
              try simp only at hr_27p
              obtain ⟨hr_27p_0, hr_27p_1⟩ := hr_27p
              have hgr_26 : G_26 x_ret_26 = some (175, m_ret_26) := by obtain ⟨y9, e9, h9⟩ := hr_27; cases e9; exact h9
              have hsy_26 : s.heap.size ≤ x_ret_26 := Nat.le_trans hh_22.1.1 hr_27n.le
              obtain ⟨fr_26, hqa_26, hqr_26⟩ := hbQ_26
              have hh_50 := hh_49.moreM (M1 := [(x_ret_26, 175, m_ret_26, ca 1, fr_26)]) (fun q hq => by cases List.mem_singleton.mp hq; exact ⟨hgr_26, (by show 18 ≤ 175; decide), (by show 175 < 1000; decide), hqa_26⟩)
              clear hh_49
              have hxr9 : s.heap.size ≤ x_ret_26 := hsy_26
              have hdg_51 := hh_50.iv 3 rfl
              have hdg_51_5 := hh_50.at 1 rfl
              have hdg_51_6 := hh_50.at 2 rfl
              have hdg_51_7 := hh_50.at 3 rfl
              have hdg_51_9 := hh_50.at 4 rfl
              have hh_52 := hh_50.sub (L1 := [(r1, 3, 12, .null), (r1, 3, 5, .ref sa_), (r1, 3, 6, .ref ea_), (r1, 3, 7, .ref ysc_1), (r1, 3, 9, .ref ybh_1), (r1, 3, 4, .int (kq.sn r1)), (r1, 3, 10, .int (kq.ck r1)), (r1, 3, 13, .int (kq.lf r1)), (r1, 3, 11, (kq.cv r1)), (r1, 3, 2, .ref tx_), (r0, 13, 9, .ref ch_), (ch_, 1, 2, .int cz), (r0, 13, 5, .ref kk_), (kk_, 7, 2, .ref st_)]) [0, 1, 2, 3, 4, 5, 6, 7, 8, 9, 10, 11, 12, 13] rfl (M1 := [(x_ret_26, 175, m_ret_26, ca 1, fr_26), (sa_, 171, 40, ca 1, (kq.sb r1)), (ea_, 172, 40, ca 1, (kq.se r1)), (ysc_1, 176, 40, ca 1, (kq.sc r1)), (tx_, 173, 1500, ca 1, ft)]) [0, 1, 2, 3, 4] rfl (I1 := [(jFun, jUN dC dI ca G_26 0 qu_26 rw), (jFdo, jDcc dC dI ca G_26 (some r1) ph), (jFl, jLs dC dI ca G_26 3 none wl), ([(210, 0)], jQc dC dI (ca 6) ybh_1 40 (kq.bh r1))]) [0, 1, 2, 4] rfl
              clear hh_50
              have hd_54 := hh_52.iv 1 rfl
              have hd_545 := hh_52.at 1 rfl
              have hd_546 := hh_52.at 2 rfl
              have hh_55 := hh_52.sub (L1 := [(r1, 3, 12, .null), (r1, 3, 5, .ref sa_), (r1, 3, 6, .ref ea_), (r1, 3, 7, .ref ysc_1), (r1, 3, 9, .ref ybh_1), (r1, 3, 4, .int (kq.sn r1)), (r1, 3, 10, .int (kq.ck r1)), (r1, 3, 13, .int (kq.lf r1)), (r1, 3, 11, (kq.cv r1)), (r1, 3, 2, .ref tx_), (r0, 13, 9, .ref ch_), (ch_, 1, 2, .int cz), (r0, 13, 5, .ref kk_), (kk_, 7, 2, .ref st_)]) [0, 1, 2, 3, 4, 5, 6, 7, 8, 9, 10, 11, 12, 13] rfl (M1 := [(x_ret_26, 175, m_ret_26, ca 1, fr_26), (sa_, 171, 40, ca 1, (kq.sb r1)), (ea_, 172, 40, ca 1, (kq.se r1)), (ysc_1, 176, 40, ca 1, (kq.sc r1)), (tx_, 173, 1500, ca 1, ft)]) [0, 1, 2, 3, 4] rfl (I1 := [(jFun, jUN dC dI ca G_26 0 qu_26 rw), (jFl, jLs dC dI ca G_26 3 none wl), ([(210, 0)], jQc dC dI (ca 6) ybh_1 40 (kq.bh r1))]) [0, 2, 3] rfl
              clear hh_52
              refine j7_putX hx hb hown hK hh_55 hB hAp hB3 (C := RX1) (T := TX1) (N := 17) rfl (by decide) hg_29 (i := 11) (by decide) hly_3_11 rfl hlk_567 rfl (ty := (.array .int)) (v := .ref x_ret_26) (by decide +kernel) rfl rfl (Or.inr ⟨_, _, rfl, hgr_26, by omega⟩) rfl (L1 := [(r1, 3, 12, .null), (r1, 3, 5, .ref sa_), (r1, 3, 6, .ref ea_), (r1, 3, 7, .ref ysc_1), (r1, 3, 9, .ref ybh_1), (r1, 3, 4, .int (kq.sn r1)), (r1, 3, 10, .int (kq.ck r1)), (r1, 3, 13, .int (kq.lf r1)), (r1, 3, 2, .ref tx_), (r0, 13, 9, .ref ch_), (ch_, 1, 2, .int cz), (r0, 13, 5, .ref kk_), (kk_, 7, 2, .ref st_)]) [0, 1, 2, 3, 4, 5, 6, 7, 9, 10, 11, 12, 13] rfl rfl rfl dX11_begin_157 (fun H_53 locs_53 hr_53 hh_53 => ?_)
              clear hh_55
              have hd_54n := jDcc.fld hd_54 hg_29 hr_53 hd_545 hd_546 (hh_53.at 2 rfl) (hh_53.at 3 rfl)
              have hh_56 := hh_53.addI (jDcc.ie hd_54n)
              clear hh_53
              clear hd_54 hd_54n hd_545 hd_546
              have hdg_51n := jKD.fld (ca := ca) hdg_51 hg_29 hr_53 hdg_51_5 hdg_51_6 hdg_51_7 hdg_51_9 (hh_56.at 2 rfl) (hh_56.at 3 rfl) (hh_56.at 4 rfl) (hh_56.at 5 rfl)
              have hh_57 := hh_56.addI (jKD.ie hdg_51n)
              clear hh_56
              clear hdg_51 hdg_51n hr_53 hdg_51_5 hdg_51_6 hdg_51_7 hdg_51_9
              refine lv_aload_n hx hb dX11_begin_160 rfl (lv_at hl 1 rfl) ?_
              refine lv_aload_n hx hb dX11_begin_161 rfl (lv_at hl 1 rfl) ?_
              refine j7_read hx hb hown hK (C := RX1) (T := TX1) (N := 17) rfl hly_3_7 hlk_193 (hh_57.at 4 rfl) dX11_begin_162 ?_
              refine lv_iload_n hx hb dX11_begin_165 rfl (lv_at hl 2 rfl) ?_
              refine j7_ialdM hx hb hK hh_57 hB176 1 rfl (by decide) hg_33 (x := (kq.ck r1).toInt) (rfl) (by omega) (j := 3) rfl dX11_begin_166 (fun z_58 ez_58 (hz_58 : True) => ?_)
              have hqz_58 : z_58.toInt = jSo (kq.sc r1) ((kq.ck r1).toInt) := by unfold jSo; rw [ez_58]
              have hdg_59 := hh_57.iv 0 rfl
              have hdg_59_5 := hh_57.at 2 rfl
              have hdg_59_6 := hh_57.at 3 rfl
              have hdg_59_7 := hh_57.at 4 rfl
              have hdg_59_9 := hh_57.at 5 rfl
              have hh_60 := hh_57.sub (L1 := [(r1, 3, 11, .ref x_ret_26), (r1, 3, 12, .null), (r1, 3, 5, .ref sa_), (r1, 3, 6, .ref ea_), (r1, 3, 7, .ref ysc_1), (r1, 3, 9, .ref ybh_1), (r1, 3, 4, .int (kq.sn r1)), (r1, 3, 10, .int (kq.ck r1)), (r1, 3, 13, .int (kq.lf r1)), (r1, 3, 2, .ref tx_), (r0, 13, 9, .ref ch_), (ch_, 1, 2, .int cz), (r0, 13, 5, .ref kk_), (kk_, 7, 2, .ref st_)]) [0, 1, 2, 3, 4, 5, 6, 7, 8, 9, 10, 11, 12, 13] rfl (M1 := [(x_ret_26, 175, m_ret_26, ca 1, fr_26), (sa_, 171, 40, ca 1, (kq.sb r1)), (ea_, 172, 40, ca 1, (kq.se r1)), (ysc_1, 176, 40, ca 1, (kq.sc r1)), (tx_, 173, 1500, ca 1, ft)]) [0, 1, 2, 3, 4] rfl (I1 := [(jFdo, jDcc dC dI ca G_26 (some r1) ph), (jFun, jUN dC dI ca G_26 0 qu_26 rw), (jFl, jLs dC dI ca G_26 3 none wl), ([(210, 0)], jQc dC dI (ca 6) ybh_1 40 (kq.bh r1))]) [1, 2, 3, 4] rfl
              clear hh_57
              refine j7_putX hx hb hown hK hh_60 hB hAp hB3 (C := RX1) (T := TX1) (N := 17) rfl (by decide) hg_29 (i := 13) (by decide) hly_3_13 rfl hlk_577 rfl (ty := .int) (v := .int z_58) (by decide +kernel) rfl rfl (⟨_, rfl⟩) rfl (L1 := [(r1, 3, 11, .ref x_ret_26), (r1, 3, 12, .null), (r1, 3, 5, .ref sa_), (r1, 3, 6, .ref ea_), (r1, 3, 7, .ref ysc_1), (r1, 3, 9, .ref ybh_1), (r1, 3, 4, .int (kq.sn r1)), (r1, 3, 10, .int (kq.ck r1)), (r1, 3, 2, .ref tx_), (r0, 13, 9, .ref ch_), (ch_, 1, 2, .int cz), (r0, 13, 5, .ref kk_), (kk_, 7, 2, .ref st_)]) [0, 1, 2, 3, 4, 5, 6, 7, 9, 10, 11, 12, 13] rfl rfl rfl dX11_begin_167 (fun H_61 locs_61 hr_61 hh_61 => ?_)
              clear hh_60
              have hdg_59n := jKD.fld (ca := ca) hdg_59 hg_29 hr_61 hdg_59_5 hdg_59_6 hdg_59_7 hdg_59_9 (hh_61.at 3 rfl) (hh_61.at 4 rfl) (hh_61.at 5 rfl) (hh_61.at 6 rfl)
              have hh_62 := hh_61.addI (jKD.ie hdg_59n)
              clear hh_61
              clear hdg_59 hdg_59n hr_61 hdg_59_5 hdg_59_6 hdg_59_7 hdg_59_9
              have hF_63 := jKD.full (ca := ca) (hh_62.iv 0 rfl) hg_29 (hh_62.at 3 rfl) (hh_62.at 4 rfl) (hh_62.at 5 rfl) (hh_62.at 6 rfl) (hh_62.at 7 rfl) (hh_62.at 8 rfl) (hh_62.at 0 rfl) (hh_62.at 1 rfl) (hh_62.at 2 rfl) (hh_62.2.2.2.2.2.2.2.1.sub (L1 := [(sa_, 171, 40, ca 1, (kq.sb r1)), (ea_, 172, 40, ca 1, (kq.se r1)), (ysc_1, 176, 40, ca 1, (kq.sc r1))]) [1, 2, 3] rfl) (hh_62.iv 4 rfl)
              obtain ⟨g_63, ht_64⟩ : ∃ q : jKg, q = kq.put r1 (kq.sn r1) (kq.ck r1) z_58 (.ref x_ret_26) .null (kq.sb r1) (kq.se r1) (kq.sc r1) (kq.bh r1) := ⟨_, rfl⟩
              rw [← ht_64] at hF_63
              have hh_65 := hh_62.sub (L1 := [(r1, 3, 13, .int z_58), (r1, 3, 11, .ref x_ret_26), (r1, 3, 12, .null), (r1, 3, 5, .ref sa_), (r1, 3, 6, .ref ea_), (r1, 3, 7, .ref ysc_1), (r1, 3, 9, .ref ybh_1), (r1, 3, 4, .int (kq.sn r1)), (r1, 3, 10, .int (kq.ck r1)), (r1, 3, 2, .ref tx_), (r0, 13, 9, .ref ch_), (ch_, 1, 2, .int cz), (r0, 13, 5, .ref kk_), (kk_, 7, 2, .ref st_)]) [0, 1, 2, 3, 4, 5, 6, 7, 8, 9, 10, 11, 12, 13] rfl (M1 := [(x_ret_26, 175, m_ret_26, ca 1, fr_26), (sa_, 171, 40, ca 1, (kq.sb r1)), (ea_, 172, 40, ca 1, (kq.se r1)), (ysc_1, 176, 40, ca 1, (kq.sc r1)), (tx_, 173, 1500, ca 1, ft)]) [0, 1, 2, 3, 4] rfl (I1 := [(jFdo, jDcc dC dI ca G_26 (some r1) ph), (jFun, jUN dC dI ca G_26 0 qu_26 rw), (jFl, jLs dC dI ca G_26 3 none wl)]) [1, 2, 3] rfl
              clear hh_62
              have hh_66 := hh_65.addI (jKD.ie hF_63)
              clear hh_65
              have hsz_67 := hh_66.2.2.2.2.2.1
              have htt_67 := hh_66.2.2.2.2.2.2.1
              refine W.room (fun hrc_67 hrs_67 => ?_)
              refine W.widen (k := LC - s.heap.size) (n := LS - jTot s.heap) (by omega) (by omega) ?_
              rw [hQ]
              exact W.vret hx hb hr (fun t ht hW => ⟨⟨(x_ret_26, m_ret_26, g_63, qu_26, G_26), rfl, by skip; (try dsimp only); exact ⟨by omega, _, _, ht_64, by rw [hr_27p_1, jUf_s, hqz_24, hqz_25, t1, t2]; rfl, fun z m hz => by rw [hr_27p_1, jUf_n _ _ (fun e9 => by have h9 := hab9 z m hz; have h8 := hxr9; omega)], Or.inl ⟨rfl, hno9, by rw [hqz_58]; exact hpc9⟩⟩, ⟨hh_66.ra (by first | (simp only; omega) | omega) (by first | (simp only; omega) | omega) (M1 := [(r1, 3, 11, .ref x_ret_26)]) [1] rfl ht, hgr_26, hNn_26, by rw [ht]; exact hh_66.2.2.2.2.2.2.2.2.sub (L1 := [(jFl, jLs dC dI ca G_26 3 none wl), (jFdo, jDcc dC dI ca G_26 (some r1) ph), (jFkd, jKD dC dI ca G_26 none g_63), (jFun, jUN dC dI ca G_26 0 qu_26 rw)]) [3, 1, 0, 2] rfl⟩⟩, by rw [ht]; try exact hh_66.1.1, fun q h9 hq => by rw [ht]; try exact hh_66.1.2.1 q h9 hq⟩) hh_66.1.2.2 dX11_begin_170
            · refine j7_read hx hb hown hK (C := RX1) (T := TX1) (N := 17) rfl hly_3_12 hlk_580 (hh_22.at 0 rfl) dX11_begin_112 ?_
              refine lv_ifnull hx hb dX11_begin_115 ?_
              obtain ⟨hfm9, hfr9⟩ := jzF.ff hi_15_2 hwe112
              refine lv_aload_n hx hb dX11_begin_118 rfl (lv_at hl 1 rfl) ?_
              refine lv_aload_n hx hb dX11_begin_119 rfl (lv_at hl 1 rfl) ?_
              refine j7_read hx hb hown hK (C := RX1) (T := TX1) (N := 17) rfl hly_3_12 hlk_580 (hh_22.at 0 rfl) dX11_begin_120 ?_
              obtain ⟨v_69, hv_69, hh_70⟩ := hh_22.pin (C := RX9) (T := TX9) (N := 9) hB11 rfl (by decide) hg_found_23 (i := 1) (by decide) rfl
              obtain ⟨units_71, nunits_71, rfl, hg_units_71, hn_units_71⟩ := hv_69
              obtain ⟨ny_68, nk_68, na_68, nf_68, hn0_68, hn1_68, hgy_68, hnv_68, hNR_68, hNU_68⟩ := jUN.at (r := 0) (hh_70.iv 4 rfl) hg_found_23
              obtain rfl : units_71 = ny_68 := by have h9 := jf.uniq (hh_70.at 0 rfl) hn1_68; cases h9; rfl
              obtain rfl : nunits_71 = nk_68 := by have h9 := Option.some.inj (hg_units_71.symm.trans hgy_68); exact congrArg Prod.snd h9
              have hh_72 := (hh_70.more (P1 := [(found_23, 11, 0, na_68)]) (jP.cons hg_found_23 hn0_68 jP.nil)).moreM (M1 := [(units_71, 175, nunits_71, ca 1, nf_68)]) (fun q hq => by cases List.mem_singleton.mp hq; exact ⟨hg_units_71, (by show 18 ≤ 175; decide), (by show 175 < 1000; decide), hnv_68⟩)
              clear hh_70
              refine j7_read hx hb hown hK (C := RX9) (T := TX9) (N := 9) rfl hly_11_1 hlk_596 (hh_72.at 1 rfl) dX11_begin_123 ?_
              have hdg_73 := hh_72.iv 0 rfl
              have hdg_73_5 := hh_72.at 3 rfl
              have hdg_73_6 := hh_72.at 4 rfl
              have hdg_73_7 := hh_72.at 5 rfl
              have hdg_73_9 := hh_72.at 6 rfl
              have hh_74 := hh_72.sub (L1 := [(found_23, 11, 0, na_68), (found_23, 11, 1, .ref units_71), (r1, 3, 12, .ref found_23), (r1, 3, 5, .ref sa_), (r1, 3, 6, .ref ea_), (r1, 3, 7, .ref ysc_1), (r1, 3, 9, .ref ybh_1), (r1, 3, 4, .int (kq.sn r1)), (r1, 3, 10, .int (kq.ck r1)), (r1, 3, 13, .int (kq.lf r1)), (r1, 3, 11, (kq.cv r1)), (r1, 3, 2, .ref tx_), (r0, 13, 9, .ref ch_), (ch_, 1, 2, .int cz), (r0, 13, 5, .ref kk_), (kk_, 7, 2, .ref st_)]) [0, 1, 2, 3, 4, 5, 6, 7, 8, 9, 10, 11, 12, 13, 14, 15] rfl (M1 := [(units_71, 175, nunits_71, ca 1, nf_68), (sa_, 171, 40, ca 1, (kq.sb r1)), (ea_, 172, 40, ca 1, (kq.se r1)), (ysc_1, 176, 40, ca 1, (kq.sc r1)), (tx_, 173, 1500, ca 1, ft)]) [0, 1, 2, 3, 4] rfl (I1 := [([(210, 0)], jQc dC dI (ca 6) ybh_1 40 (kq.bh r1)), (jFl, jLs dC dI ca G0 3 none wl), (jFdo, jDcc dC dI ca G0 (some r1) ph), (jFun, jUN dC dI ca G0 0 us rw)]) [1, 2, 3, 4] rfl
              clear hh_72
              have hd_76 := hh_74.iv 2 rfl
              have hd_765 := hh_74.at 3 rfl
              have hd_766 := hh_74.at 4 rfl
              have hh_77 := hh_74.sub (L1 := [(found_23, 11, 0, na_68), (found_23, 11, 1, .ref units_71), (r1, 3, 12, .ref found_23), (r1, 3, 5, .ref sa_), (r1, 3, 6, .ref ea_), (r1, 3, 7, .ref ysc_1), (r1, 3, 9, .ref ybh_1), (r1, 3, 4, .int (kq.sn r1)), (r1, 3, 10, .int (kq.ck r1)), (r1, 3, 13, .int (kq.lf r1)), (r1, 3, 11, (kq.cv r1)), (r1, 3, 2, .ref tx_), (r0, 13, 9, .ref ch_), (ch_, 1, 2, .int cz), (r0, 13, 5, .ref kk_), (kk_, 7, 2, .ref st_)]) [0, 1, 2, 3, 4, 5, 6, 7, 8, 9, 10, 11, 12, 13, 14, 15] rfl (M1 := [(units_71, 175, nunits_71, ca 1, nf_68), (sa_, 171, 40, ca 1, (kq.sb r1)), (ea_, 172, 40, ca 1, (kq.se r1)), (ysc_1, 176, 40, ca 1, (kq.sc r1)), (tx_, 173, 1500, ca 1, ft)]) [0, 1, 2, 3, 4] rfl (I1 := [([(210, 0)], jQc dC dI (ca 6) ybh_1 40 (kq.bh r1)), (jFl, jLs dC dI ca G0 3 none wl), (jFun, jUN dC dI ca G0 0 us rw)]) [0, 1, 3] rfl
              clear hh_74
              refine j7_putX hx hb hown hK hh_77 hB hAp hB3 (C := RX1) (T := TX1) (N := 17) rfl (by decide) hg_r1 (i := 11) (by decide) hly_3_11 rfl hlk_567 rfl (ty := (.array .int)) (v := .ref units_71) (by decide +kernel) rfl rfl (Or.inr ⟨_, _, rfl, hg_units_71, by omega⟩) rfl (L1 := [(found_23, 11, 0, na_68), (found_23, 11, 1, .ref units_71), (r1, 3, 12, .ref found_23), (r1, 3, 5, .ref sa_), (r1, 3, 6, .ref ea_), (r1, 3, 7, .ref ysc_1), (r1, 3, 9, .ref ybh_1), (r1, 3, 4, .int (kq.sn r1)), (r1, 3, 10, .int (kq.ck r1)), (r1, 3, 13, .int (kq.lf r1)), (r1, 3, 2, .ref tx_), (r0, 13, 9, .ref ch_), (ch_, 1, 2, .int cz), (r0, 13, 5, .ref kk_), (kk_, 7, 2, .ref st_)]) [0, 1, 2, 3, 4, 5, 6, 7, 8, 9, 11, 12, 13, 14, 15] rfl rfl rfl dX11_begin_126 (fun H_75 locs_75 hr_75 hh_75 => ?_)
              clear hh_77
              have hd_76n := jDcc.fld hd_76 hg_r1 hr_75 hd_765 hd_766 (hh_75.at 4 rfl) (hh_75.at 5 rfl)
              have hh_78 := hh_75.addI (jDcc.ie hd_76n)
              clear hh_75
              clear hd_76 hd_76n hd_765 hd_766
              have hdg_73n := jKD.fld (ca := ca) hdg_73 hg_r1 hr_75 hdg_73_5 hdg_73_6 hdg_73_7 hdg_73_9 (hh_78.at 4 rfl) (hh_78.at 5 rfl) (hh_78.at 6 rfl) (hh_78.at 7 rfl)
              have hh_79 := hh_78.addI (jKD.ie hdg_73n)
              clear hh_78
              clear hdg_73 hdg_73n hr_75 hdg_73_5 hdg_73_6 hdg_73_7 hdg_73_9
              refine lv_aload_n hx hb dX11_begin_129 rfl (lv_at hl 1 rfl) ?_
              refine lv_iconst (v := 1) hx hb dX11_begin_130 (by decide) ?_
              have hdg_80 := hh_79.iv 0 rfl
              have hdg_80_5 := hh_79.at 4 rfl
              have hdg_80_6 := hh_79.at 5 rfl
              have hdg_80_7 := hh_79.at 6 rfl
              have hdg_80_9 := hh_79.at 7 rfl
              have hh_81 := hh_79.sub (L1 := [(r1, 3, 11, .ref units_71), (found_23, 11, 0, na_68), (found_23, 11, 1, .ref units_71), (r1, 3, 12, .ref found_23), (r1, 3, 5, .ref sa_), (r1, 3, 6, .ref ea_), (r1, 3, 7, .ref ysc_1), (r1, 3, 9, .ref ybh_1), (r1, 3, 4, .int (kq.sn r1)), (r1, 3, 10, .int (kq.ck r1)), (r1, 3, 13, .int (kq.lf r1)), (r1, 3, 2, .ref tx_), (r0, 13, 9, .ref ch_), (ch_, 1, 2, .int cz), (r0, 13, 5, .ref kk_), (kk_, 7, 2, .ref st_)]) [0, 1, 2, 3, 4, 5, 6, 7, 8, 9, 10, 11, 12, 13, 14, 15] rfl (M1 := [(units_71, 175, nunits_71, ca 1, nf_68), (sa_, 171, 40, ca 1, (kq.sb r1)), (ea_, 172, 40, ca 1, (kq.se r1)), (ysc_1, 176, 40, ca 1, (kq.sc r1)), (tx_, 173, 1500, ca 1, ft)]) [0, 1, 2, 3, 4] rfl (I1 := [(jFdo, jDcc dC dI ca G0 (some r1) ph), ([(210, 0)], jQc dC dI (ca 6) ybh_1 40 (kq.bh r1)), (jFl, jLs dC dI ca G0 3 none wl), (jFun, jUN dC dI ca G0 0 us rw)]) [1, 2, 3, 4] rfl
              clear hh_79
              refine j7_putX hx hb hown hK hh_81 hB hAp hB3 (C := RX1) (T := TX1) (N := 17) rfl (by decide) hg_r1 (i := 13) (by decide) hly_3_13 rfl hlk_577 rfl (ty := .int) (v := .int 1) (by decide +kernel) rfl rfl (⟨_, rfl⟩) rfl (L1 := [(r1, 3, 11, .ref units_71), (found_23, 11, 0, na_68), (found_23, 11, 1, .ref units_71), (r1, 3, 12, .ref found_23), (r1, 3, 5, .ref sa_), (r1, 3, 6, .ref ea_), (r1, 3, 7, .ref ysc_1), (r1, 3, 9, .ref ybh_1), (r1, 3, 4, .int (kq.sn r1)), (r1, 3, 10, .int (kq.ck r1)), (r1, 3, 2, .ref tx_), (r0, 13, 9, .ref ch_), (ch_, 1, 2, .int cz), (r0, 13, 5, .ref kk_), (kk_, 7, 2, .ref st_)]) [0, 1, 2, 3, 4, 5, 6, 7, 8, 9, 11, 12, 13, 14, 15] rfl rfl rfl dX11_begin_131 (fun H_82 locs_82 hr_82 hh_82 => ?_)
              clear hh_81
              have hdg_80n := jKD.fld (ca := ca) hdg_80 hg_r1 hr_82 hdg_80_5 hdg_80_6 hdg_80_7 hdg_80_9 (hh_82.at 5 rfl) (hh_82.at 6 rfl) (hh_82.at 7 rfl) (hh_82.at 8 rfl)
              have hh_83 := hh_82.addI (jKD.ie hdg_80n)
              clear hh_82
              clear hdg_80 hdg_80n hr_82 hdg_80_5 hdg_80_6 hdg_80_7 hdg_80_9
              refine lv_goto (tgt := 170) hx hb dX11_begin_134 (by decide) ?_
              have hF_84 := jKD.full (ca := ca) (hh_83.iv 0 rfl) hg_r1 (hh_83.at 5 rfl) (hh_83.at 6 rfl) (hh_83.at 7 rfl) (hh_83.at 8 rfl) (hh_83.at 9 rfl) (hh_83.at 10 rfl) (hh_83.at 0 rfl) (hh_83.at 1 rfl) (hh_83.at 4 rfl) (hh_83.2.2.2.2.2.2.2.1.sub (L1 := [(sa_, 171, 40, ca 1, (kq.sb r1)), (ea_, 172, 40, ca 1, (kq.se r1)), (ysc_1, 176, 40, ca 1, (kq.sc r1))]) [1, 2, 3] rfl) (hh_83.iv 2 rfl)
              obtain ⟨g_84, ht_85⟩ : ∃ q : jKg, q = kq.put r1 (kq.sn r1) (kq.ck r1) (1 : Int32) (.ref units_71) (.ref found_23) (kq.sb r1) (kq.se r1) (kq.sc r1) (kq.bh r1) := ⟨_, rfl⟩
              rw [← ht_85] at hF_84
              have hh_86 := hh_83.sub (L1 := [(r1, 3, 13, .int 1), (r1, 3, 11, .ref units_71), (found_23, 11, 0, na_68), (found_23, 11, 1, .ref units_71), (r1, 3, 12, .ref found_23), (r1, 3, 5, .ref sa_), (r1, 3, 6, .ref ea_), (r1, 3, 7, .ref ysc_1), (r1, 3, 9, .ref ybh_1), (r1, 3, 4, .int (kq.sn r1)), (r1, 3, 10, .int (kq.ck r1)), (r1, 3, 2, .ref tx_), (r0, 13, 9, .ref ch_), (ch_, 1, 2, .int cz), (r0, 13, 5, .ref kk_), (kk_, 7, 2, .ref st_)]) [0, 1, 2, 3, 4, 5, 6, 7, 8, 9, 10, 11, 12, 13, 14, 15] rfl (M1 := [(units_71, 175, nunits_71, ca 1, nf_68), (sa_, 171, 40, ca 1, (kq.sb r1)), (ea_, 172, 40, ca 1, (kq.se r1)), (ysc_1, 176, 40, ca 1, (kq.sc r1)), (tx_, 173, 1500, ca 1, ft)]) [0, 1, 2, 3, 4] rfl (I1 := [(jFdo, jDcc dC dI ca G0 (some r1) ph), (jFl, jLs dC dI ca G0 3 none wl), (jFun, jUN dC dI ca G0 0 us rw)]) [1, 3, 4] rfl
              clear hh_83
              have hh_87 := hh_86.addI (jKD.ie hF_84)
              clear hh_86
              have hsz_88 := hh_87.2.2.2.2.2.1
              have htt_88 := hh_87.2.2.2.2.2.2.1
              refine W.room (fun hrc_88 hrs_88 => ?_)
              refine W.widen (k := LC - s.heap.size) (n := LS - jTot s.heap) (by omega) (by omega) ?_
              rw [hQ]
              exact W.vret hx hb hr (fun t ht hW => ⟨⟨(units_71, nunits_71, g_84, us, G0), rfl, by skip; (try dsimp only); exact ⟨by omega, _, _, ht_85, (jzF.uu (hNR_68 (hpC _ hfm9).1) hpU hah8 hfr9 (by omega)), fun z m hz => rfl, Or.inr ⟨_, rfl, hfm9, hfr9, rfl⟩⟩, ⟨hh_87.ra (by first | (simp only; omega) | omega) (by first | (simp only; omega) | omega) (M1 := [(r1, 3, 11, .ref units_71)]) [1] rfl ht, hg_units_71, jNk.rf, by rw [ht]; exact hh_87.2.2.2.2.2.2.2.2.sub (L1 := [(jFl, jLs dC dI ca G0 3 none wl), (jFdo, jDcc dC dI ca G0 (some r1) ph), (jFkd, jKD dC dI ca G0 none g_84), (jFun, jUN dC dI ca G0 0 us rw)]) [2, 1, 0, 3] rfl⟩⟩, by rw [ht]; try exact hh_87.1.1, fun q h9 hq => by rw [ht]; try exact hh_87.1.2.1 q h9 hq⟩) hh_87.1.2.2 dX11_begin_170
          · skip
            have c_18' : v4_15.toInt < r_17.toInt := jb_ge_n (rfl) (rfl) c_18
            refine lv_aload_n hx hb dX11_begin_51 rfl (lv_at hl 1 rfl) ?_
            have hwf_89 := hh_16.at 0 rfl
            have hh_90 := hh_16.sub (L1 := [(r1, 3, 5, .ref sa_), (r1, 3, 6, .ref ea_), (r1, 3, 7, .ref ysc_1), (r1, 3, 9, .ref ybh_1), (r1, 3, 4, .int (kq.sn r1)), (r1, 3, 10, .int (kq.ck r1)), (r1, 3, 13, .int (kq.lf r1)), (r1, 3, 11, (kq.cv r1)), (r1, 3, 2, .ref tx_), (r0, 13, 9, .ref ch_), (ch_, 1, 2, .int cz), (r0, 13, 5, .ref kk_), (kk_, 7, 2, .ref st_)]) [1, 2, 3, 4, 5, 6, 7, 8, 9, 10, 11, 12, 13] rfl (M1 := [(sa_, 171, 40, ca 1, (kq.sb r1)), (ea_, 172, 40, ca 1, (kq.se r1)), (ysc_1, 176, 40, ca 1, (kq.sc r1)), (tx_, 173, 1500, ca 1, ft)]) [0, 1, 2, 3] rfl (I1 := [(jFkd, jKD dC dI ca G0 (some r1) kq), ([(210, 0)], jQc dC dI (ca 6) ybh_1 40 (kq.bh r1)), (jFl, jLs dC dI ca G0 3 none wl), (jFdo, jDcc dC dI ca G0 (some r1) ph), (jFun, jUN dC dI ca G0 0 us rw)]) [0, 1, 2, 3, 4] rfl
            clear hh_16
            obtain ⟨v_91, hv_91, hh_92⟩ := hh_90.pin (C := RX1) (T := TX1) (N := 17) hB3 rfl (by decide) hg_r1 (i := 12) (by decide) rfl
            clear hh_90
            have hwe52 : wf_15 = v_91 := jf.uniq hwf_89 (hh_92.at 0 rfl)
            clear hwf_89
            rcases hv_91 with rfl | ⟨found_93, rfl, hg_found_93⟩
            · refine j7_read hx hb hown hK (C := RX1) (T := TX1) (N := 17) rfl hly_3_12 hlk_580 (hh_92.at 0 rfl) dX11_begin_52 ?_
              refine lv_ifnonnullN hx hb dX11_begin_55 ?_
              refine lv_aload_n hx hb dX11_begin_58 rfl (lv_at hl 0 rfl) ?_
              refine j7_read hx hb hown hK (C := RX11) (T := TX11) (N := 19) rfl hly_13_9 hlk_68 (hh_92.at 10 rfl) dX11_begin_59 ?_
              refine lv_iload hx hb dX11_begin_62 (lv_at hl 4 rfl) ?_
              have hsz_94 := hh_92.2.2.2.2.2.1
              have htt_94 := hh_92.2.2.2.2.2.2.1
              refine W.room (fun hrc_94 hrs_94 => ?_)
              refine j_callFx (A0 := jA base) (H0 := s.heap) (va_runF (hK.1 1 _ rfl).2 (As := [.int v4_15]) (rest := []) ⟨hx, hb, hml, hown, hts⟩ (uJx4a65c_get_915e3L3 l dC dI ca base B hB hAp hB1 hB11 hB223 G0 H_16 ch_ v4_15 cz wl) (va_cwF 1 hts (jgF (jWr_28 _ (List.mem_of_getElem? (i := 3) rfl)) (jWr_28 _ (List.mem_of_getElem? (i := 4) rfl)) (jWr_28 _ (List.mem_of_getElem? (i := 5) rfl)) (jWr_2 _ (List.mem_of_getElem? (i := 13) rfl)) (jWr_28 _ (List.mem_of_getElem? (i := 6) rfl))) rfl rfl rfl hK7.2.2.2.2.2.1.2.1 ⟨by decide, by decide, by decide +kernel⟩ ⟨by rw [← hR]; exact Nat.le_of_ble_eq_true rfl, by rw [← hR]; exact Nat.le_of_ble_eq_true rfl⟩) ⟨fun a U g mk q => by obtain ⟨q0, q1, q2, qK, q10, q11, q12, q13, q14⟩ := q; exact ⟨q0, q1, q2, jG.calling g mk a qK, (jK7.calling g mk a q10), q11, q12, q13, q14⟩, hh_92.recv (C := RJx4a65c) (T := TJx4a65c) (N := 3) hB1 rfl (by decide) hg_ch_ hK, fun U hU hW => ⟨rfl, hU, hh_92.2.1, hG.step hW hU hh_92.1, (hK7.step hW hU hh_92.1), hg_ch_, (hh_92.2.2.1.sub (L1 := [(ch_, 1, 2, .int cz)]) [11] rfl), (hh_92.2.2.2.2.2.2.2.2.sub (L1 := [(jFl, jLs dC dI ca G0 3 none wl)]) [2] rfl), by first | omega | (refine ⟨?_, ?_⟩ <;> (first | omega | rfl | assumption | decide | exact Or.inl rfl | exact Or.inr rfl | (simp only; omega)))⟩⟩ rfl rfl hl.1 rfl (lv_room (Nat.le_of_ble_eq_true rfl)) dX11_begin_64 ⟨by rw [hRc]; show _ + 0 ≤ _; omega, by rw [hRs]; show _ + 0 ≤ _; omega⟩) hh_92.1 (fun q _ h => h) (fun q h => h) (fun r_95 u_94 t_94 H_94 locs_94 ht_94 hvm_94 hr_95 hb_94 hz_94 hk_94 hS_94 => ?_)
              rw [ht_94] at hb_94
              obtain ⟨hb_94, hbE_94⟩ := hb_94
              obtain ⟨hb_941, hb_942, hb_943, hb_944, hb_945⟩ := hb_94
              have hh_94 : jSt (dC, dI) B base G0 G0 EX11_beginN s.heap 0 0 [(r1, 3, 12, .null), (r1, 3, 5, .ref sa_), (r1, 3, 6, .ref ea_), (r1, 3, 7, .ref ysc_1), (r1, 3, 9, .ref ybh_1), (r1, 3, 4, .int (kq.sn r1)), (r1, 3, 10, .int (kq.ck r1)), (r1, 3, 13, .int (kq.lf r1)), (r1, 3, 11, (kq.cv r1)), (r1, 3, 2, .ref tx_), (r0, 13, 9, .ref ch_), (ch_, 1, 2, .int cz), (r0, 13, 5, .ref kk_), (kk_, 7, 2, .ref st_)] [(sa_, 171, 40, ca 1, (kq.sb r1)), (ea_, 172, 40, ca 1, (kq.se r1)), (ysc_1, 176, 40, ca 1, (kq.sc r1)), (tx_, 173, 1500, ca 1, ft)] [(jFl, jLs dC dI ca G0 3 none wl), (jFkd, jKD dC dI ca G0 (some r1) kq), ([(210, 0)], jQc dC dI (ca 6) ybh_1 40 (kq.bh r1)), (jFdo, jDcc dC dI ca G0 (some r1) ph), (jFun, jUN dC dI ca G0 0 us rw)] H_94 locs_94 := (((hh_92.call hb_941 hb_942 hb_943 hb_944 hS_94 rfl (L1 := [(r1, 3, 12, .null), (r1, 3, 5, .ref sa_), (r1, 3, 6, .ref ea_), (r1, 3, 7, .ref ysc_1), (r1, 3, 9, .ref ybh_1), (r1, 3, 4, .int (kq.sn r1)), (r1, 3, 10, .int (kq.ck r1)), (r1, 3, 13, .int (kq.lf r1)), (r1, 3, 11, (kq.cv r1)), (r1, 3, 2, .ref tx_), (r0, 13, 9, .ref ch_), (ch_, 1, 2, .int cz), (r0, 13, 5, .ref kk_), (kk_, 7, 2, .ref st_)]) [0, 1, 2, 3, 4, 5, 6, 7, 8, 9, 10, 11, 12, 13] rfl rfl (M1 := [(sa_, 171, 40, ca 1, (kq.sb r1)), (ea_, 172, 40, ca 1, (kq.se r1)), (ysc_1, 176, 40, ca 1, (kq.sc r1)), (tx_, 173, 1500, ca 1, ft)]) [0, 1, 2, 3] rfl rfl (I1 := [(jFkd, jKD dC dI ca G0 (some r1) kq), ([(210, 0)], jQc dC dI (ca 6) ybh_1 40 (kq.bh r1)), (jFdo, jDcc dC dI ca G0 (some r1) ph), (jFun, jUN dC dI ca G0 0 us rw)]) [0, 1, 3, 4] rfl rfl).more hb_945)).addIs hbE_94
              clear hh_92 ht_94 hvm_94 hz_94 hk_94 hS_94 hb_941 hb_942 hb_943 hb_944 hb_945
              clear  hbE_94
              obtain ⟨hr_95, hr_95p⟩ := hr_95
              obtain ⟨ret_96, rfl, hg_ret_96⟩ := hr_95
              refine va_castY hx hb hown (htw (.classLink RX11 189 "ProofServer$State") (jWr_77 _ (List.mem_of_getElem? (i := 12) rfl))) hK7.2.2.1.2.2.2 (hh_94.recv (C := RX9) (T := TX9) (N := 9) hB11 rfl (by decide) hg_ret_96 hK) dX11_begin_69 ?_
              refine lv_astore (lv' := [(5, .ref ret_96), (0, .ref r0), (1, .ref r1), (2, .int (kq.ck r1)), (3, .ref ret_10), (4, .int v4_15)]) hx hb dX11_begin_72 hl (by decide) rfl (fun ls hl => ?_)
              have hmem9 := List.mem_of_getElem? (jdAt hr_95p)
              obtain ⟨v_98, hv_98, hh_99⟩ := hh_94.pin (C := RX9) (T := TX9) (N := 9) hB11 rfl (by decide) hg_ret_96 (i := 1) (by decide) rfl
              obtain ⟨units_100, nunits_100, rfl, hg_units_100, hn_units_100⟩ := hv_98
              obtain ⟨ny_97, nk_97, na_97, nf_97, hn0_97, hn1_97, hgy_97, hnv_97, hNR_97, hNU_97⟩ := jUN.at (r := 0) (hh_99.iv 4 rfl) hg_ret_96
              obtain rfl : units_100 = ny_97 := by have h9 := jf.uniq (hh_99.at 0 rfl) hn1_97; cases h9; rfl
              obtain rfl : nunits_100 = nk_97 := by have h9 := Option.some.inj (hg_units_100.symm.trans hgy_97); exact congrArg Prod.snd h9
              have hh_101 := (hh_99.more (P1 := [(ret_96, 11, 0, na_97)]) (jP.cons hg_ret_96 hn0_97 jP.nil)).moreM (M1 := [(units_100, 175, nunits_100, ca 1, nf_97)]) (fun q hq => by cases List.mem_singleton.mp hq; exact ⟨hg_units_100, (by show 18 ≤ 175; decide), (by show 175 < 1000; decide), hnv_97⟩)
              clear hh_99
              refine lv_aload_n hx hb dX11_begin_74 rfl (lv_at hl 2 rfl) ?_
              refine lv_iload_n hx hb dX11_begin_75 rfl (lv_at hl 3 rfl) ?_
              refine lv_aload hx hb dX11_begin_76 (lv_at hl 0 rfl) ?_
              refine j7_read hx hb hown hK (C := RX9) (T := TX9) (N := 9) rfl hly_11_1 hlk_596 (hh_101.at 1 rfl) dX11_begin_78 ?_
              have hsz_102 := hh_101.2.2.2.2.2.1
              have htt_102 := hh_101.2.2.2.2.2.2.1
              refine W.room (fun hrc_102 hrs_102 => ?_)
              refine va_calli (A0 := jA base) (H0 := s.heap) (va_runV (As := [.int (kq.ck r1), .ref units_100]) (rest := []) ⟨hx, hb, hml, hown, hts⟩ (uX1_isSentenceT l dC dI ca base B hB hAp hB3 hB171 hB172 hB173 hB175 G0 H_94 r1 (kq.ck r1) units_100 0 nunits_100 (kq.sn r1) sa_ ea_ tx_ nn nf_97 (kq.sb r1) (kq.se r1) ft) (cwV 2 hts (jgV (jWr_77 _ (List.mem_of_getElem? (i := 17) rfl)) (jWr_43 _ (List.mem_of_getElem? (i := 0) rfl)) (jWr_43 _ (List.mem_of_getElem? (i := 1) rfl)) (jWr_2 _ (List.mem_of_getElem? (i := 21) rfl)) (jWr_43 _ (List.mem_of_getElem? (i := 2) rfl))) rfl rfl rfl (by decide +kernel) ⟨by rw [← hR]; exact Nat.le_of_ble_eq_true rfl, by rw [← hR]; exact Nat.le_of_ble_eq_true rfl⟩) ⟨fun a U g mk q => by obtain ⟨q0, q1, q2, qK, q10, q11, q12, q13, q14, q15, q16, q17⟩ := q; exact ⟨q0, q1, q2, jG.calling g mk a qK, q10, q11, q12, q13, q14, q15, q16, q17⟩, hh_101.recv (C := RX1) (T := TX1) (N := 17) hB3 rfl (by decide) hg_r1 hK, fun U hU hW => ⟨rfl, hU, hh_101.2.1, hG.step hW hU hh_101.1, hg_r1, hg_units_100, hgsb_1, hgse_1, hg_tx_, (hh_101.2.2.1.sub (L1 := [(r1, 3, 4, .int (kq.sn r1)), (r1, 3, 5, .ref sa_), (r1, 3, 6, .ref ea_), (r1, 3, 2, .ref tx_)]) [7, 3, 4, 11] rfl), (hh_101.2.2.2.2.2.2.2.1.sub (L1 := [(units_100, 175, nunits_100, ca 1, nf_97), (sa_, 171, 40, ca 1, (kq.sb r1)), (ea_, 172, 40, ca 1, (kq.se r1)), (tx_, 173, 1500, ca 1, ft)]) [0, 1, 2, 4] rfl), ⟨(by first | omega | rfl | assumption | exact hp5), (by first | omega | rfl | assumption | exact hp5), (by first | omega | rfl | assumption | exact hp5), (by first | omega | rfl | assumption | exact hp5), (by first | omega | rfl | assumption | exact hp5), (by first | assumption | exact hp5 | omega)⟩⟩⟩ rfl rfl hl.1 rfl (lv_room (Nat.le_of_ble_eq_true rfl)) dX11_begin_81 ⟨by rw [hRc]; show _ + 0 ≤ _; omega, by rw [hRs]; show _ + 0 ≤ _; omega⟩) hh_101.1 (fun q _ h => h) (fun q h => h) (fun r_103 u_102 t_102 H_102 locs_102 ht_102 hvm_102 hr_103 hb_102 hz_102 hk_102 hS_102 => ?_)
              rw [ht_102] at hb_102
              obtain ⟨hb_1021, hb_1022, hb_1023, hb_1024, hb_1025⟩ := hb_102
              have hh_102 : jSt (dC, dI) B base G0 G0 EX11_beginN s.heap 0 0 [(ret_96, 11, 0, na_97), (ret_96, 11, 1, .ref units_100), (r1, 3, 12, .null), (r1, 3, 5, .ref sa_), (r1, 3, 6, .ref ea_), (r1, 3, 7, .ref ysc_1), (r1, 3, 9, .ref ybh_1), (r1, 3, 4, .int (kq.sn r1)), (r1, 3, 10, .int (kq.ck r1)), (r1, 3, 13, .int (kq.lf r1)), (r1, 3, 11, (kq.cv r1)), (r1, 3, 2, .ref tx_), (r0, 13, 9, .ref ch_), (ch_, 1, 2, .int cz), (r0, 13, 5, .ref kk_), (kk_, 7, 2, .ref st_)] [(units_100, 175, nunits_100, ca 1, nf_97), (sa_, 171, 40, ca 1, (kq.sb r1)), (ea_, 172, 40, ca 1, (kq.se r1)), (ysc_1, 176, 40, ca 1, (kq.sc r1)), (tx_, 173, 1500, ca 1, ft)] [(jFl, jLs dC dI ca G0 3 none wl), (jFkd, jKD dC dI ca G0 (some r1) kq), ([(210, 0)], jQc dC dI (ca 6) ybh_1 40 (kq.bh r1)), (jFdo, jDcc dC dI ca G0 (some r1) ph), (jFun, jUN dC dI ca G0 0 us rw)] H_102 locs_102 := ((hh_101.call hb_1021 hb_1022 hb_1023 hb_1024 hS_102 rfl (L1 := [(ret_96, 11, 0, na_97), (ret_96, 11, 1, .ref units_100), (r1, 3, 12, .null), (r1, 3, 5, .ref sa_), (r1, 3, 6, .ref ea_), (r1, 3, 7, .ref ysc_1), (r1, 3, 9, .ref ybh_1), (r1, 3, 4, .int (kq.sn r1)), (r1, 3, 10, .int (kq.ck r1)), (r1, 3, 13, .int (kq.lf r1)), (r1, 3, 11, (kq.cv r1)), (r1, 3, 2, .ref tx_), (r0, 13, 9, .ref ch_), (ch_, 1, 2, .int cz), (r0, 13, 5, .ref kk_), (kk_, 7, 2, .ref st_)]) [0, 1, 2, 3, 4, 5, 6, 7, 8, 9, 10, 11, 12, 13, 14, 15] rfl rfl (M1 := [(units_100, 175, nunits_100, ca 1, nf_97), (sa_, 171, 40, ca 1, (kq.sb r1)), (ea_, 172, 40, ca 1, (kq.se r1)), (ysc_1, 176, 40, ca 1, (kq.sc r1)), (tx_, 173, 1500, ca 1, ft)]) [0, 1, 2, 3, 4] rfl rfl (I1 := [(jFl, jLs dC dI ca G0 3 none wl), (jFkd, jKD dC dI ca G0 (some r1) kq), ([(210, 0)], jQc dC dI (ca 6) ybh_1 40 (kq.bh r1)), (jFdo, jDcc dC dI ca G0 (some r1) ph), (jFun, jUN dC dI ca G0 0 us rw)]) [0, 1, 2, 3, 4] rfl rfl).more hb_1025)
              clear hh_101 ht_102 hvm_102 hz_102 hk_102 hS_102 hb_1021 hb_1022 hb_1023 hb_1024 hb_1025
              obtain ⟨hr_103b, hr_103p⟩ := hr_103
              have has9 := hr_103p
              have hr_103' := jb_01 hr_103b
              refine lv_if_eq (tgt := 105) hx hb dX11_begin_84 (by decide) (fun c_104 => ?_) (fun c_104 => ?_)
              · skip
                have c_104' : r_103.toInt = 0 := jb_eq (rfl) ((by decide)) c_104
                first | (have hr_103pq := hr_103p.resolve_left (by omega); clear hr_103p) | (have hr_103pq := hr_103p.resolve_right (by omega); clear hr_103p) | try clear hr_103p
                obtain ⟨z_105, ez_105⟩ : ∃ y : Int32, y = v4_15 + 1 := ⟨_, rfl⟩
                refine lv_iinc (v := z_105) (lv' := [(4, .int z_105), (5, .ref ret_96), (0, .ref r0), (1, .ref r1), (2, .int (kq.ck r1)), (3, .ref ret_10)]) hx hb dX11_begin_105 hl (k := 5) rfl (by rw [ez_105]; rfl) (by decide) rfl (fun ls hl => ?_)
                have hz_105 : z_105.toInt = v4_15.toInt + 1 := by rw [ez_105]; exact jb_iadd2 (rfl) (by decide) (by omega)
                refine lv_goto (tgt := 37) hx hb dX11_begin_108 (by decide) ?_
                refine W.tight (c2 := 0) (n2 := 0) hh_102.2.2.2.2.2.1 hh_102.2.2.2.2.2.2.1 ?_
                exact L37 z_105 .null _ _ (hh_102.sub (L1 := [(r1, 3, 12, .null), (r1, 3, 5, .ref sa_), (r1, 3, 6, .ref ea_), (r1, 3, 7, .ref ysc_1), (r1, 3, 9, .ref ybh_1), (r1, 3, 4, .int (kq.sn r1)), (r1, 3, 10, .int (kq.ck r1)), (r1, 3, 13, .int (kq.lf r1)), (r1, 3, 11, (kq.cv r1)), (r1, 3, 2, .ref tx_), (r0, 13, 9, .ref ch_), (ch_, 1, 2, .int cz), (r0, 13, 5, .ref kk_), (kk_, 7, 2, .ref st_)]) [2, 3, 4, 5, 6, 7, 8, 9, 10, 11, 12, 13, 14, 15] rfl (M1 := [(sa_, 171, 40, ca 1, (kq.sb r1)), (ea_, 172, 40, ca 1, (kq.se r1)), (ysc_1, 176, 40, ca 1, (kq.sc r1)), (tx_, 173, 1500, ca 1, ft)]) [1, 2, 3, 4] rfl (I1 := [(jFkd, jKD dC dI ca G0 (some r1) kq), ([(210, 0)], jQc dC dI (ca 6) ybh_1 40 (kq.bh r1)), (jFl, jLs dC dI ca G0 3 none wl), (jFdo, jDcc dC dI ca G0 (some r1) ph), (jFun, jUN dC dI ca G0 0 us rw)]) [1, 2, 0, 3, 4] rfl) (⟨by omega, by omega, jzF.nx hi_15_2 hwe52 (jdAt hr_95p) (fun e9 => (has9.resolve_left (fun q => by have q1 := q.1; omega)).2 ⟨by omega, by omega, hNU_97.symm.trans (jzF.uu (hNR_97 (hpC _ hmem9).1) hpU hah8 e9 (by omega))⟩) (by omega)⟩) (by omega) _ (lv_sub hl [2, 3, 4, 5, 0] rfl)
              · skip
                have c_104' : r_103.toInt ≠ 0 := jb_eq_n (rfl) ((by decide)) c_104
                first | (have hr_103pq := hr_103p.resolve_left (by omega); clear hr_103p) | (have hr_103pq := hr_103p.resolve_right (by omega); clear hr_103p) | try clear hr_103p
                refine lv_aload hx hb dX11_begin_87 (lv_at hl 0 rfl) ?_
                have hwf_106 := hh_102.at 0 rfl
                have hh_107 := hh_102.sub (L1 := [(ret_96, 11, 1, .ref units_100), (r1, 3, 12, .null), (r1, 3, 5, .ref sa_), (r1, 3, 6, .ref ea_), (r1, 3, 7, .ref ysc_1), (r1, 3, 9, .ref ybh_1), (r1, 3, 4, .int (kq.sn r1)), (r1, 3, 10, .int (kq.ck r1)), (r1, 3, 13, .int (kq.lf r1)), (r1, 3, 11, (kq.cv r1)), (r1, 3, 2, .ref tx_), (r0, 13, 9, .ref ch_), (ch_, 1, 2, .int cz), (r0, 13, 5, .ref kk_), (kk_, 7, 2, .ref st_)]) [1, 2, 3, 4, 5, 6, 7, 8, 9, 10, 11, 12, 13, 14, 15] rfl (M1 := [(units_100, 175, nunits_100, ca 1, nf_97), (sa_, 171, 40, ca 1, (kq.sb r1)), (ea_, 172, 40, ca 1, (kq.se r1)), (ysc_1, 176, 40, ca 1, (kq.sc r1)), (tx_, 173, 1500, ca 1, ft)]) [0, 1, 2, 3, 4] rfl (I1 := [(jFl, jLs dC dI ca G0 3 none wl), (jFkd, jKD dC dI ca G0 (some r1) kq), ([(210, 0)], jQc dC dI (ca 6) ybh_1 40 (kq.bh r1)), (jFdo, jDcc dC dI ca G0 (some r1) ph), (jFun, jUN dC dI ca G0 0 us rw)]) [0, 1, 2, 3, 4] rfl
                clear hh_102
                obtain ⟨v_108, hv_108, hh_109⟩ := hh_107.pin (C := RX9) (T := TX9) (N := 9) hB11 rfl (by decide) hg_ret_96 (i := 0) (by decide) rfl
                clear hh_107
                have hwe89 : na_97 = v_108 := jf.uniq hwf_106 (hh_109.at 0 rfl)
                clear hwf_106
                rcases hv_108 with rfl | ⟨ahead_110, rfl, hg_ahead_110⟩
                · exact (jzF.nn (hNR_97 (hpC _ hmem9).1) hwe89 (hpC _ hmem9).2).elim
                · refine j7_read hx hb hown hK (C := RX9) (T := TX9) (N := 9) rfl hly_11_0 hlk_602 (hh_109.at 0 rfl) dX11_begin_89 ?_
                  refine lv_aload_n hx hb dX11_begin_92 rfl (lv_at hl 4 rfl) ?_
                  have hsz_111 := hh_109.2.2.2.2.2.1
                  have htt_111 := hh_109.2.2.2.2.2.2.1
                  refine W.room (fun hrc_111 hrs_111 => ?_)
                  refine va_calli (A0 := jA base) (H0 := s.heap) (va_runS (As := [.ref ahead_110, .ref ret_10]) (rest := []) ⟨hx, hb, hml, hown, hts⟩ (uX9_isSameRowN l dC dI ca base B hB hAp hB11 hB175 G0 H_102 ahead_110 ret_10 us rw) (va_cwS 2 hts (jgS (jWr_77 _ (List.mem_of_getElem? (i := 18) rfl)) (jWr_77 _ (List.mem_of_getElem? (i := 19) rfl)) (jWr_4 _ (List.mem_of_getElem? (i := 18) rfl)) (jWr_77 _ (List.mem_of_getElem? (i := 20) rfl))) rfl rfl rfl (by decide +kernel) ⟨by rw [← hR]; exact Nat.le_of_ble_eq_true rfl, by rw [← hR]; exact Nat.le_of_ble_eq_true rfl⟩) ⟨fun a U g mk q => by obtain ⟨q0, q1, q2, qK, q10, q11, q12, q13, q14⟩ := q; exact ⟨q0, q1, q2, jG.calling g mk a qK, q10, q11, q12, q13, q14⟩, fun U hU hW => ⟨rfl, hU, hh_109.2.1, hG.step hW hU hh_109.1, hg_ahead_110, hg_ret_10, jP.nil, (hh_109.2.2.2.2.2.2.2.2.sub (L1 := [(jFun, jUN dC dI ca G0 0 us rw)]) [4] rfl), ⟨(by first | assumption | exact hahE | exact jzF.e (hNR_97 (hpC _ hmem9).1) hwe89 | omega), (by first | assumption | exact hahE | exact jzF.e (hNR_97 (hpC _ hmem9).1) hwe89 | omega)⟩⟩⟩ rfl rfl hl.1 rfl (lv_room (Nat.le_of_ble_eq_true rfl)) dX11_begin_93 ⟨by rw [hRc]; show _ + 0 ≤ _; omega, by rw [hRs]; show _ + 0 ≤ _; omega⟩) hh_109.1 (fun q _ h => h) (fun q h => h) (fun r_112 u_111 t_111 H_111 locs_111 ht_111 hvm_111 hr_112 hb_111 hz_111 hk_111 hS_111 => ?_)
                  rw [ht_111] at hb_111
                  obtain ⟨hb_111, hbE_111⟩ := hb_111
                  obtain ⟨hb_1111, hb_1112, hb_1113, hb_1114, hb_1115⟩ := hb_111
                  have hh_111 : jSt (dC, dI) B base G0 G0 EX11_beginN s.heap 0 0 [(ret_96, 11, 0, .ref ahead_110), (ret_96, 11, 1, .ref units_100), (r1, 3, 12, .null), (r1, 3, 5, .ref sa_), (r1, 3, 6, .ref ea_), (r1, 3, 7, .ref ysc_1), (r1, 3, 9, .ref ybh_1), (r1, 3, 4, .int (kq.sn r1)), (r1, 3, 10, .int (kq.ck r1)), (r1, 3, 13, .int (kq.lf r1)), (r1, 3, 11, (kq.cv r1)), (r1, 3, 2, .ref tx_), (r0, 13, 9, .ref ch_), (ch_, 1, 2, .int cz), (r0, 13, 5, .ref kk_), (kk_, 7, 2, .ref st_)] [(units_100, 175, nunits_100, ca 1, nf_97), (sa_, 171, 40, ca 1, (kq.sb r1)), (ea_, 172, 40, ca 1, (kq.se r1)), (ysc_1, 176, 40, ca 1, (kq.sc r1)), (tx_, 173, 1500, ca 1, ft)] [(jFun, jUN dC dI ca G0 0 us rw), (jFl, jLs dC dI ca G0 3 none wl), (jFkd, jKD dC dI ca G0 (some r1) kq), ([(210, 0)], jQc dC dI (ca 6) ybh_1 40 (kq.bh r1)), (jFdo, jDcc dC dI ca G0 (some r1) ph)] H_111 locs_111 := (((hh_109.call hb_1111 hb_1112 hb_1113 hb_1114 hS_111 rfl (L1 := [(ret_96, 11, 0, .ref ahead_110), (ret_96, 11, 1, .ref units_100), (r1, 3, 12, .null), (r1, 3, 5, .ref sa_), (r1, 3, 6, .ref ea_), (r1, 3, 7, .ref ysc_1), (r1, 3, 9, .ref ybh_1), (r1, 3, 4, .int (kq.sn r1)), (r1, 3, 10, .int (kq.ck r1)), (r1, 3, 13, .int (kq.lf r1)), (r1, 3, 11, (kq.cv r1)), (r1, 3, 2, .ref tx_), (r0, 13, 9, .ref ch_), (ch_, 1, 2, .int cz), (r0, 13, 5, .ref kk_), (kk_, 7, 2, .ref st_)]) [0, 1, 2, 3, 4, 5, 6, 7, 8, 9, 10, 11, 12, 13, 14, 15] rfl rfl (M1 := [(units_100, 175, nunits_100, ca 1, nf_97), (sa_, 171, 40, ca 1, (kq.sb r1)), (ea_, 172, 40, ca 1, (kq.se r1)), (ysc_1, 176, 40, ca 1, (kq.sc r1)), (tx_, 173, 1500, ca 1, ft)]) [0, 1, 2, 3, 4] rfl rfl (I1 := [(jFl, jLs dC dI ca G0 3 none wl), (jFkd, jKD dC dI ca G0 (some r1) kq), ([(210, 0)], jQc dC dI (ca 6) ybh_1 40 (kq.bh r1)), (jFdo, jDcc dC dI ca G0 (some r1) ph)]) [0, 1, 2, 3] rfl rfl).more hb_1115)).addIs hbE_111
                  clear hh_109 ht_111 hvm_111 hz_111 hk_111 hS_111 hb_1111 hb_1112 hb_1113 hb_1114 hb_1115
                  clear  hbE_111
                  obtain ⟨hr_112b, hr_112p⟩ := hr_112
                  have hsm9 := hr_112p
                  have hr_112' := jb_01 hr_112b
                  refine lv_if_eq (tgt := 105) hx hb dX11_begin_96 (by decide) (fun c_113 => ?_) (fun c_113 => ?_)
                  · skip
                    have c_113' : r_112.toInt = 0 := jb_eq (rfl) ((by decide)) c_113
                    first | (have hr_112pq := hr_112p.resolve_left (by omega); clear hr_112p) | (have hr_112pq := hr_112p.resolve_right (by omega); clear hr_112p) | try clear hr_112p
                    obtain ⟨z_114, ez_114⟩ : ∃ y : Int32, y = v4_15 + 1 := ⟨_, rfl⟩
                    refine lv_iinc (v := z_114) (lv' := [(4, .int z_114), (5, .ref ret_96), (0, .ref r0), (1, .ref r1), (2, .int (kq.ck r1)), (3, .ref ret_10)]) hx hb dX11_begin_105 hl (k := 5) rfl (by rw [ez_114]; rfl) (by decide) rfl (fun ls hl => ?_)
                    have hz_114 : z_114.toInt = v4_15.toInt + 1 := by rw [ez_114]; exact jb_iadd2 (rfl) (by decide) (by omega)
                    refine lv_goto (tgt := 37) hx hb dX11_begin_108 (by decide) ?_
                    refine W.tight (c2 := 0) (n2 := 0) hh_111.2.2.2.2.2.1 hh_111.2.2.2.2.2.2.1 ?_
                    exact L37 z_114 .null _ _ (hh_111.sub (L1 := [(r1, 3, 12, .null), (r1, 3, 5, .ref sa_), (r1, 3, 6, .ref ea_), (r1, 3, 7, .ref ysc_1), (r1, 3, 9, .ref ybh_1), (r1, 3, 4, .int (kq.sn r1)), (r1, 3, 10, .int (kq.ck r1)), (r1, 3, 13, .int (kq.lf r1)), (r1, 3, 11, (kq.cv r1)), (r1, 3, 2, .ref tx_), (r0, 13, 9, .ref ch_), (ch_, 1, 2, .int cz), (r0, 13, 5, .ref kk_), (kk_, 7, 2, .ref st_)]) [2, 3, 4, 5, 6, 7, 8, 9, 10, 11, 12, 13, 14, 15] rfl (M1 := [(sa_, 171, 40, ca 1, (kq.sb r1)), (ea_, 172, 40, ca 1, (kq.se r1)), (ysc_1, 176, 40, ca 1, (kq.sc r1)), (tx_, 173, 1500, ca 1, ft)]) [1, 2, 3, 4] rfl (I1 := [(jFkd, jKD dC dI ca G0 (some r1) kq), ([(210, 0)], jQc dC dI (ca 6) ybh_1 40 (kq.bh r1)), (jFl, jLs dC dI ca G0 3 none wl), (jFdo, jDcc dC dI ca G0 (some r1) ph), (jFun, jUN dC dI ca G0 0 us rw)]) [2, 3, 1, 4, 0] rfl) (⟨by omega, by omega, jzF.nx hi_15_2 hwe52 (jdAt hr_95p) (fun e9 => (hsm9.resolve_left (fun q => by have q1 := q.1; omega)).2 ((jzF.c (hNR_97 (hpC _ hmem9).1) (by rw [hwe89]) hpU hah8 e9 (by omega)).1.trans hah9.symm)) (by omega)⟩) (by omega) _ (lv_sub hl [2, 3, 4, 5, 0] rfl)
                  · skip
                    have c_113' : r_112.toInt ≠ 0 := jb_eq_n (rfl) ((by decide)) c_113
                    first | (have hr_112pq := hr_112p.resolve_left (by omega); clear hr_112p) | (have hr_112pq := hr_112p.resolve_right (by omega); clear hr_112p) | try clear hr_112p
                    refine lv_aload_n hx hb dX11_begin_99 rfl (lv_at hl 2 rfl) ?_
                    refine lv_aload hx hb dX11_begin_100 (lv_at hl 0 rfl) ?_
                    have hdg_115 := hh_111.iv 2 rfl
                    have hdg_115_5 := hh_111.at 3 rfl
                    have hdg_115_6 := hh_111.at 4 rfl
                    have hdg_115_7 := hh_111.at 5 rfl
                    have hdg_115_9 := hh_111.at 6 rfl
                    have hh_116 := hh_111.sub (L1 := [(ret_96, 11, 0, .ref ahead_110), (ret_96, 11, 1, .ref units_100), (r1, 3, 12, .null), (r1, 3, 5, .ref sa_), (r1, 3, 6, .ref ea_), (r1, 3, 7, .ref ysc_1), (r1, 3, 9, .ref ybh_1), (r1, 3, 4, .int (kq.sn r1)), (r1, 3, 10, .int (kq.ck r1)), (r1, 3, 13, .int (kq.lf r1)), (r1, 3, 11, (kq.cv r1)), (r1, 3, 2, .ref tx_), (r0, 13, 9, .ref ch_), (ch_, 1, 2, .int cz), (r0, 13, 5, .ref kk_), (kk_, 7, 2, .ref st_)]) [0, 1, 2, 3, 4, 5, 6, 7, 8, 9, 10, 11, 12, 13, 14, 15] rfl (M1 := [(units_100, 175, nunits_100, ca 1, nf_97), (sa_, 171, 40, ca 1, (kq.sb r1)), (ea_, 172, 40, ca 1, (kq.se r1)), (ysc_1, 176, 40, ca 1, (kq.sc r1)), (tx_, 173, 1500, ca 1, ft)]) [0, 1, 2, 3, 4] rfl (I1 := [(jFun, jUN dC dI ca G0 0 us rw), (jFl, jLs dC dI ca G0 3 none wl), ([(210, 0)], jQc dC dI (ca 6) ybh_1 40 (kq.bh r1)), (jFdo, jDcc dC dI ca G0 (some r1) ph)]) [0, 1, 3, 4] rfl
                    clear hh_111
                    refine j7_putX hx hb hown hK hh_116 hB hAp hB3 (C := RX1) (T := TX1) (N := 17) rfl (by decide) hg_r1 (i := 12) (by decide) hly_3_12 rfl hlk_580 rfl (ty := (.object "ProofServer$State")) (v := .ref ret_96) (by decide +kernel) rfl rfl (Or.inr ⟨_, rfl, hg_ret_96⟩) rfl (L1 := [(ret_96, 11, 0, .ref ahead_110), (ret_96, 11, 1, .ref units_100), (r1, 3, 5, .ref sa_), (r1, 3, 6, .ref ea_), (r1, 3, 7, .ref ysc_1), (r1, 3, 9, .ref ybh_1), (r1, 3, 4, .int (kq.sn r1)), (r1, 3, 10, .int (kq.ck r1)), (r1, 3, 13, .int (kq.lf r1)), (r1, 3, 11, (kq.cv r1)), (r1, 3, 2, .ref tx_), (r0, 13, 9, .ref ch_), (ch_, 1, 2, .int cz), (r0, 13, 5, .ref kk_), (kk_, 7, 2, .ref st_)]) [0, 1, 3, 4, 5, 6, 7, 8, 9, 10, 11, 12, 13, 14, 15] rfl rfl rfl dX11_begin_102 (fun H_117 locs_117 hr_117 hh_117 => ?_)
                    clear hh_116
                    have hdg_115n := jKD.fld (ca := ca) hdg_115 hg_r1 hr_117 hdg_115_5 hdg_115_6 hdg_115_7 hdg_115_9 (hh_117.at 3 rfl) (hh_117.at 4 rfl) (hh_117.at 5 rfl) (hh_117.at 6 rfl)
                    have hh_118 := hh_117.addI (jKD.ie hdg_115n)
                    clear hh_117
                    clear hdg_115 hdg_115n hr_117 hdg_115_5 hdg_115_6 hdg_115_7 hdg_115_9
                    obtain ⟨z_119, ez_119⟩ : ∃ y : Int32, y = v4_15 + 1 := ⟨_, rfl⟩
                    refine lv_iinc (v := z_119) (lv' := [(4, .int z_119), (5, .ref ret_96), (0, .ref r0), (1, .ref r1), (2, .int (kq.ck r1)), (3, .ref ret_10)]) hx hb dX11_begin_105 hl (k := 5) rfl (by rw [ez_119]; rfl) (by decide) rfl (fun ls hl => ?_)
                    have hz_119 : z_119.toInt = v4_15.toInt + 1 := by rw [ez_119]; exact jb_iadd2 (rfl) (by decide) (by omega)
                    refine lv_goto (tgt := 37) hx hb dX11_begin_108 (by decide) ?_
                    refine W.tight (c2 := 0) (n2 := 0) hh_118.2.2.2.2.2.1 hh_118.2.2.2.2.2.2.1 ?_
                    exact L37 z_119 (.ref ret_96) _ _ (hh_118.sub (L1 := [(r1, 3, 12, .ref ret_96), (r1, 3, 5, .ref sa_), (r1, 3, 6, .ref ea_), (r1, 3, 7, .ref ysc_1), (r1, 3, 9, .ref ybh_1), (r1, 3, 4, .int (kq.sn r1)), (r1, 3, 10, .int (kq.ck r1)), (r1, 3, 13, .int (kq.lf r1)), (r1, 3, 11, (kq.cv r1)), (r1, 3, 2, .ref tx_), (r0, 13, 9, .ref ch_), (ch_, 1, 2, .int cz), (r0, 13, 5, .ref kk_), (kk_, 7, 2, .ref st_)]) [0, 3, 4, 5, 6, 7, 8, 9, 10, 11, 12, 13, 14, 15] rfl (M1 := [(sa_, 171, 40, ca 1, (kq.sb r1)), (ea_, 172, 40, ca 1, (kq.se r1)), (ysc_1, 176, 40, ca 1, (kq.sc r1)), (tx_, 173, 1500, ca 1, ft)]) [1, 2, 3, 4] rfl (I1 := [(jFkd, jKD dC dI ca G0 (some r1) kq), ([(210, 0)], jQc dC dI (ca 6) ybh_1 40 (kq.bh r1)), (jFl, jLs dC dI ca G0 3 none wl), (jFdo, jDcc dC dI ca G0 (some r1) ph), (jFun, jUN dC dI ca G0 0 us rw)]) [0, 3, 2, 4, 1] rfl) (⟨by omega, by omega, Or.inr ⟨_, rfl, hmem9, jzF.yy (hNR_97 (hpC _ hmem9).1) (hwe89) (hNU_97.trans (has9.resolve_right (fun q => by have q1 := q.1; omega)).2.2.2) ((hsm9.resolve_right (fun q => by have q1 := q.1; omega)).2.trans hah9) (by omega)⟩⟩) (by omega) _ (lv_sub hl [2, 3, 4, 5, 0] rfl)
            · refine j7_read hx hb hown hK (C := RX1) (T := TX1) (N := 17) rfl hly_3_12 hlk_580 (hh_92.at 0 rfl) dX11_begin_52 ?_
              refine lv_ifnonnull (tgt := 111) hx hb dX11_begin_55 (by decide) ?_
              refine lv_aload_n hx hb dX11_begin_111 rfl (lv_at hl 1 rfl) ?_
              refine j7_read hx hb hown hK (C := RX1) (T := TX1) (N := 17) rfl hly_3_12 hlk_580 (hh_92.at 0 rfl) dX11_begin_112 ?_
              refine lv_ifnull hx hb dX11_begin_115 ?_
              obtain ⟨hfm9, hfr9⟩ := jzF.ff hi_15_2 hwe52
              refine lv_aload_n hx hb dX11_begin_118 rfl (lv_at hl 1 rfl) ?_
              refine lv_aload_n hx hb dX11_begin_119 rfl (lv_at hl 1 rfl) ?_
              refine j7_read hx hb hown hK (C := RX1) (T := TX1) (N := 17) rfl hly_3_12 hlk_580 (hh_92.at 0 rfl) dX11_begin_120 ?_
              obtain ⟨v_121, hv_121, hh_122⟩ := hh_92.pin (C := RX9) (T := TX9) (N := 9) hB11 rfl (by decide) hg_found_93 (i := 1) (by decide) rfl
              obtain ⟨units_123, nunits_123, rfl, hg_units_123, hn_units_123⟩ := hv_121
              obtain ⟨ny_120, nk_120, na_120, nf_120, hn0_120, hn1_120, hgy_120, hnv_120, hNR_120, hNU_120⟩ := jUN.at (r := 0) (hh_122.iv 4 rfl) hg_found_93
              obtain rfl : units_123 = ny_120 := by have h9 := jf.uniq (hh_122.at 0 rfl) hn1_120; cases h9; rfl
              obtain rfl : nunits_123 = nk_120 := by have h9 := Option.some.inj (hg_units_123.symm.trans hgy_120); exact congrArg Prod.snd h9
              have hh_124 := (hh_122.more (P1 := [(found_93, 11, 0, na_120)]) (jP.cons hg_found_93 hn0_120 jP.nil)).moreM (M1 := [(units_123, 175, nunits_123, ca 1, nf_120)]) (fun q hq => by cases List.mem_singleton.mp hq; exact ⟨hg_units_123, (by show 18 ≤ 175; decide), (by show 175 < 1000; decide), hnv_120⟩)
              clear hh_122
              refine j7_read hx hb hown hK (C := RX9) (T := TX9) (N := 9) rfl hly_11_1 hlk_596 (hh_124.at 1 rfl) dX11_begin_123 ?_
              have hdg_125 := hh_124.iv 0 rfl
              have hdg_125_5 := hh_124.at 3 rfl
              have hdg_125_6 := hh_124.at 4 rfl
              have hdg_125_7 := hh_124.at 5 rfl
              have hdg_125_9 := hh_124.at 6 rfl
              have hh_126 := hh_124.sub (L1 := [(found_93, 11, 0, na_120), (found_93, 11, 1, .ref units_123), (r1, 3, 12, .ref found_93), (r1, 3, 5, .ref sa_), (r1, 3, 6, .ref ea_), (r1, 3, 7, .ref ysc_1), (r1, 3, 9, .ref ybh_1), (r1, 3, 4, .int (kq.sn r1)), (r1, 3, 10, .int (kq.ck r1)), (r1, 3, 13, .int (kq.lf r1)), (r1, 3, 11, (kq.cv r1)), (r1, 3, 2, .ref tx_), (r0, 13, 9, .ref ch_), (ch_, 1, 2, .int cz), (r0, 13, 5, .ref kk_), (kk_, 7, 2, .ref st_)]) [0, 1, 2, 3, 4, 5, 6, 7, 8, 9, 10, 11, 12, 13, 14, 15] rfl (M1 := [(units_123, 175, nunits_123, ca 1, nf_120), (sa_, 171, 40, ca 1, (kq.sb r1)), (ea_, 172, 40, ca 1, (kq.se r1)), (ysc_1, 176, 40, ca 1, (kq.sc r1)), (tx_, 173, 1500, ca 1, ft)]) [0, 1, 2, 3, 4] rfl (I1 := [([(210, 0)], jQc dC dI (ca 6) ybh_1 40 (kq.bh r1)), (jFl, jLs dC dI ca G0 3 none wl), (jFdo, jDcc dC dI ca G0 (some r1) ph), (jFun, jUN dC dI ca G0 0 us rw)]) [1, 2, 3, 4] rfl
              clear hh_124
              have hd_128 := hh_126.iv 2 rfl
              have hd_1285 := hh_126.at 3 rfl
              have hd_1286 := hh_126.at 4 rfl
              have hh_129 := hh_126.sub (L1 := [(found_93, 11, 0, na_120), (found_93, 11, 1, .ref units_123), (r1, 3, 12, .ref found_93), (r1, 3, 5, .ref sa_), (r1, 3, 6, .ref ea_), (r1, 3, 7, .ref ysc_1), (r1, 3, 9, .ref ybh_1), (r1, 3, 4, .int (kq.sn r1)), (r1, 3, 10, .int (kq.ck r1)), (r1, 3, 13, .int (kq.lf r1)), (r1, 3, 11, (kq.cv r1)), (r1, 3, 2, .ref tx_), (r0, 13, 9, .ref ch_), (ch_, 1, 2, .int cz), (r0, 13, 5, .ref kk_), (kk_, 7, 2, .ref st_)]) [0, 1, 2, 3, 4, 5, 6, 7, 8, 9, 10, 11, 12, 13, 14, 15] rfl (M1 := [(units_123, 175, nunits_123, ca 1, nf_120), (sa_, 171, 40, ca 1, (kq.sb r1)), (ea_, 172, 40, ca 1, (kq.se r1)), (ysc_1, 176, 40, ca 1, (kq.sc r1)), (tx_, 173, 1500, ca 1, ft)]) [0, 1, 2, 3, 4] rfl (I1 := [([(210, 0)], jQc dC dI (ca 6) ybh_1 40 (kq.bh r1)), (jFl, jLs dC dI ca G0 3 none wl), (jFun, jUN dC dI ca G0 0 us rw)]) [0, 1, 3] rfl
              clear hh_126
              refine j7_putX hx hb hown hK hh_129 hB hAp hB3 (C := RX1) (T := TX1) (N := 17) rfl (by decide) hg_r1 (i := 11) (by decide) hly_3_11 rfl hlk_567 rfl (ty := (.array .int)) (v := .ref units_123) (by decide +kernel) rfl rfl (Or.inr ⟨_, _, rfl, hg_units_123, by omega⟩) rfl (L1 := [(found_93, 11, 0, na_120), (found_93, 11, 1, .ref units_123), (r1, 3, 12, .ref found_93), (r1, 3, 5, .ref sa_), (r1, 3, 6, .ref ea_), (r1, 3, 7, .ref ysc_1), (r1, 3, 9, .ref ybh_1), (r1, 3, 4, .int (kq.sn r1)), (r1, 3, 10, .int (kq.ck r1)), (r1, 3, 13, .int (kq.lf r1)), (r1, 3, 2, .ref tx_), (r0, 13, 9, .ref ch_), (ch_, 1, 2, .int cz), (r0, 13, 5, .ref kk_), (kk_, 7, 2, .ref st_)]) [0, 1, 2, 3, 4, 5, 6, 7, 8, 9, 11, 12, 13, 14, 15] rfl rfl rfl dX11_begin_126 (fun H_127 locs_127 hr_127 hh_127 => ?_)
              clear hh_129
              have hd_128n := jDcc.fld hd_128 hg_r1 hr_127 hd_1285 hd_1286 (hh_127.at 4 rfl) (hh_127.at 5 rfl)
              have hh_130 := hh_127.addI (jDcc.ie hd_128n)
              clear hh_127
              clear hd_128 hd_128n hd_1285 hd_1286
              have hdg_125n := jKD.fld (ca := ca) hdg_125 hg_r1 hr_127 hdg_125_5 hdg_125_6 hdg_125_7 hdg_125_9 (hh_130.at 4 rfl) (hh_130.at 5 rfl) (hh_130.at 6 rfl) (hh_130.at 7 rfl)
              have hh_131 := hh_130.addI (jKD.ie hdg_125n)
              clear hh_130
              clear hdg_125 hdg_125n hr_127 hdg_125_5 hdg_125_6 hdg_125_7 hdg_125_9
              refine lv_aload_n hx hb dX11_begin_129 rfl (lv_at hl 1 rfl) ?_
              refine lv_iconst (v := 1) hx hb dX11_begin_130 (by decide) ?_
              have hdg_132 := hh_131.iv 0 rfl
              have hdg_132_5 := hh_131.at 4 rfl
              have hdg_132_6 := hh_131.at 5 rfl
              have hdg_132_7 := hh_131.at 6 rfl
              have hdg_132_9 := hh_131.at 7 rfl
              have hh_133 := hh_131.sub (L1 := [(r1, 3, 11, .ref units_123), (found_93, 11, 0, na_120), (found_93, 11, 1, .ref units_123), (r1, 3, 12, .ref found_93), (r1, 3, 5, .ref sa_), (r1, 3, 6, .ref ea_), (r1, 3, 7, .ref ysc_1), (r1, 3, 9, .ref ybh_1), (r1, 3, 4, .int (kq.sn r1)), (r1, 3, 10, .int (kq.ck r1)), (r1, 3, 13, .int (kq.lf r1)), (r1, 3, 2, .ref tx_), (r0, 13, 9, .ref ch_), (ch_, 1, 2, .int cz), (r0, 13, 5, .ref kk_), (kk_, 7, 2, .ref st_)]) [0, 1, 2, 3, 4, 5, 6, 7, 8, 9, 10, 11, 12, 13, 14, 15] rfl (M1 := [(units_123, 175, nunits_123, ca 1, nf_120), (sa_, 171, 40, ca 1, (kq.sb r1)), (ea_, 172, 40, ca 1, (kq.se r1)), (ysc_1, 176, 40, ca 1, (kq.sc r1)), (tx_, 173, 1500, ca 1, ft)]) [0, 1, 2, 3, 4] rfl (I1 := [(jFdo, jDcc dC dI ca G0 (some r1) ph), ([(210, 0)], jQc dC dI (ca 6) ybh_1 40 (kq.bh r1)), (jFl, jLs dC dI ca G0 3 none wl), (jFun, jUN dC dI ca G0 0 us rw)]) [1, 2, 3, 4] rfl
              clear hh_131
              refine j7_putX hx hb hown hK hh_133 hB hAp hB3 (C := RX1) (T := TX1) (N := 17) rfl (by decide) hg_r1 (i := 13) (by decide) hly_3_13 rfl hlk_577 rfl (ty := .int) (v := .int 1) (by decide +kernel) rfl rfl (⟨_, rfl⟩) rfl (L1 := [(r1, 3, 11, .ref units_123), (found_93, 11, 0, na_120), (found_93, 11, 1, .ref units_123), (r1, 3, 12, .ref found_93), (r1, 3, 5, .ref sa_), (r1, 3, 6, .ref ea_), (r1, 3, 7, .ref ysc_1), (r1, 3, 9, .ref ybh_1), (r1, 3, 4, .int (kq.sn r1)), (r1, 3, 10, .int (kq.ck r1)), (r1, 3, 2, .ref tx_), (r0, 13, 9, .ref ch_), (ch_, 1, 2, .int cz), (r0, 13, 5, .ref kk_), (kk_, 7, 2, .ref st_)]) [0, 1, 2, 3, 4, 5, 6, 7, 8, 9, 11, 12, 13, 14, 15] rfl rfl rfl dX11_begin_131 (fun H_134 locs_134 hr_134 hh_134 => ?_)
              clear hh_133
              have hdg_132n := jKD.fld (ca := ca) hdg_132 hg_r1 hr_134 hdg_132_5 hdg_132_6 hdg_132_7 hdg_132_9 (hh_134.at 5 rfl) (hh_134.at 6 rfl) (hh_134.at 7 rfl) (hh_134.at 8 rfl)
              have hh_135 := hh_134.addI (jKD.ie hdg_132n)
              clear hh_134
              clear hdg_132 hdg_132n hr_134 hdg_132_5 hdg_132_6 hdg_132_7 hdg_132_9
              refine lv_goto (tgt := 170) hx hb dX11_begin_134 (by decide) ?_
              have hF_136 := jKD.full (ca := ca) (hh_135.iv 0 rfl) hg_r1 (hh_135.at 5 rfl) (hh_135.at 6 rfl) (hh_135.at 7 rfl) (hh_135.at 8 rfl) (hh_135.at 9 rfl) (hh_135.at 10 rfl) (hh_135.at 0 rfl) (hh_135.at 1 rfl) (hh_135.at 4 rfl) (hh_135.2.2.2.2.2.2.2.1.sub (L1 := [(sa_, 171, 40, ca 1, (kq.sb r1)), (ea_, 172, 40, ca 1, (kq.se r1)), (ysc_1, 176, 40, ca 1, (kq.sc r1))]) [1, 2, 3] rfl) (hh_135.iv 2 rfl)
              obtain ⟨g_136, ht_137⟩ : ∃ q : jKg, q = kq.put r1 (kq.sn r1) (kq.ck r1) (1 : Int32) (.ref units_123) (.ref found_93) (kq.sb r1) (kq.se r1) (kq.sc r1) (kq.bh r1) := ⟨_, rfl⟩
              rw [← ht_137] at hF_136
              have hh_138 := hh_135.sub (L1 := [(r1, 3, 13, .int 1), (r1, 3, 11, .ref units_123), (found_93, 11, 0, na_120), (found_93, 11, 1, .ref units_123), (r1, 3, 12, .ref found_93), (r1, 3, 5, .ref sa_), (r1, 3, 6, .ref ea_), (r1, 3, 7, .ref ysc_1), (r1, 3, 9, .ref ybh_1), (r1, 3, 4, .int (kq.sn r1)), (r1, 3, 10, .int (kq.ck r1)), (r1, 3, 2, .ref tx_), (r0, 13, 9, .ref ch_), (ch_, 1, 2, .int cz), (r0, 13, 5, .ref kk_), (kk_, 7, 2, .ref st_)]) [0, 1, 2, 3, 4, 5, 6, 7, 8, 9, 10, 11, 12, 13, 14, 15] rfl (M1 := [(units_123, 175, nunits_123, ca 1, nf_120), (sa_, 171, 40, ca 1, (kq.sb r1)), (ea_, 172, 40, ca 1, (kq.se r1)), (ysc_1, 176, 40, ca 1, (kq.sc r1)), (tx_, 173, 1500, ca 1, ft)]) [0, 1, 2, 3, 4] rfl (I1 := [(jFdo, jDcc dC dI ca G0 (some r1) ph), (jFl, jLs dC dI ca G0 3 none wl), (jFun, jUN dC dI ca G0 0 us rw)]) [1, 3, 4] rfl
              clear hh_135
              have hh_139 := hh_138.addI (jKD.ie hF_136)
              clear hh_138
              have hsz_140 := hh_139.2.2.2.2.2.1
              have htt_140 := hh_139.2.2.2.2.2.2.1
              refine W.room (fun hrc_140 hrs_140 => ?_)
              refine W.widen (k := LC - s.heap.size) (n := LS - jTot s.heap) (by omega) (by omega) ?_
              rw [hQ]
              exact W.vret hx hb hr (fun t ht hW => ⟨⟨(units_123, nunits_123, g_136, us, G0), rfl, by skip; (try dsimp only); exact ⟨by omega, _, _, ht_137, (jzF.uu (hNR_120 (hpC _ hfm9).1) hpU hah8 hfr9 (by omega)), fun z m hz => rfl, Or.inr ⟨_, rfl, hfm9, hfr9, rfl⟩⟩, ⟨hh_139.ra (by first | (simp only; omega) | omega) (by first | (simp only; omega) | omega) (M1 := [(r1, 3, 11, .ref units_123)]) [1] rfl ht, hg_units_123, jNk.rf, by rw [ht]; exact hh_139.2.2.2.2.2.2.2.2.sub (L1 := [(jFl, jLs dC dI ca G0 3 none wl), (jFdo, jDcc dC dI ca G0 (some r1) ph), (jFkd, jKD dC dI ca G0 none g_136), (jFun, jUN dC dI ca G0 0 us rw)]) [2, 1, 0, 3] rfl⟩⟩, by rw [ht]; try exact hh_139.1.1, fun q h9 hq => by rw [ht]; try exact hh_139.1.2.1 q h9 hq⟩) hh_139.1.2.2 dX11_begin_170
      refine W.tight (c2 := 0) (n2 := 0) hh_14.2.2.2.2.2.1 hh_14.2.2.2.2.2.2.1 ?_
      exact L37 (cz.toInt - (0 : Int32).toInt : Int).toNat.succ 0 .null _ _ hh_14 (⟨by omega, by omega, Or.inl ⟨rfl, fun i x hi => by have h9 := hk0; omega⟩⟩) (by omega) _ (lv_sub hl [3, 4, 2, 1, 0] rfl)
    · skip
      have c_7' : (kq.ck r1).toInt ≥ 40 := jb_lt_n (rfl) ((by decide)) c_7
      exact absurd c_7' (by omega)
end
