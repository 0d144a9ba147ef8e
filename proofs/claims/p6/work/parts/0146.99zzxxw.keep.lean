section
def EX1_keepCheckedK : List (Nat × Nat) := [(3, 10)]
set_option maxHeartbeats 4000000 in
set_option maxRecDepth 20000 in
theorem uX1_keepCheckedK (l : Launch) (dC : Nat → ClassId) (dI : Nat → Nat → Nat) (ca : Nat → ClassId) (base : Nat) (B : jF) (hB : jBok B) (hAp : jAp (dC, dI)) (hB3 : ∀ n G a H, B 3 n G a H ↔ jOb (dC, dI) 3 17 (F3 n G) a H) (hB11 : ∀ n G a H, B 11 n G a H ↔ jOb (dC, dI) 11 9 (F11 n G) a H) (hB101 : ∀ n G a H, B 101 n G a H ↔ jAr (dC, dI) (ca 1) (fun j z => True) n a H) (hB171 : ∀ n G a H, B 171 n G a H ↔ jAr (dC, dI) (ca 1) (fun j z => 0 ≤ z.toInt ∧ z.toInt ≤ 1500) n a H) (hB172 : ∀ n G a H, B 172 n G a H ↔ jAr (dC, dI) (ca 1) (fun j z => 0 ≤ z.toInt ∧ z.toInt ≤ 1500) n a H) (hB173 : ∀ n G a H, B 173 n G a H ↔ jAr (dC, dI) (ca 1) (fun j z => True) n a H) (hB175 : ∀ n G a H, B 175 n G a H ↔ jAr (dC, dI) (ca 1) (fun j z => True) n a H) (hB176 : ∀ n G a H, B 176 n G a H ↔ jAr (dC, dI) (ca 1) (fun j z => True) n a H) (hB210 : ∀ n G a H, B 210 n G a H ↔ jAq (dC, dI) (ca 6) (jQn 11 0) n G a H) (G0 : jT) (H0 : Heap) (r0 : Nat) (sa_ : Nat) (ea_ : Nat) (ps : Int32) (pk : Int32) (tx_ : Nat) (f9 : Nat → Int32) (on nn : Int) (ph : Nat) (kq : jKg) (us : Nat → List Int) (rw : Nat → List Int) (ft : Nat → Int32) : Met l yX1_keepChecked (jw yX1_keepChecked cX1_keepChecked 3 (some .boolean)) ({ frames := 1, cells := 0, slots := 0, locals := 23 }) (va_Pc [.ref r0] (fun U => U.heap = H0 ∧ jX B base G0 [] H0 ∧ jG dC dI ca base U ∧ jK2 dC dI ca U ∧ G0 r0 = some (3, 0) ∧ G0 sa_ = some (171, 40) ∧ G0 ea_ = some (172, 40) ∧ G0 tx_ = some (173, 1500) ∧ jP (dC, dI) G0 H0 [(r0, 3, 5, .ref sa_), (r0, 3, 6, .ref ea_), (r0, 3, 4, .int ps), (r0, 3, 10, .int pk), (r0, 3, 2, .ref tx_)] ∧ jMc (dC, dI) G0 H0 [(tx_, 173, 1500, ca 1, ft)] ∧ jIs (dC, dI) G0 H0 [(jFkd, jKD dC dI ca G0 none kq), (jFun, jUN dC dI ca G0 0 us rw), (jFdo, jDcc dC dI ca G0 (some r0) ph)] ∧ 0 ≤ pk.toInt ∧ pk.toInt ≤ 40 ∧ 0 ≤ ps.toInt ∧ ps.toInt ≤ 40 ∧ 0 ≤ on ∧ 0 ≤ nn ∧ nn ≤ 1500 ∧ ps.toInt = jPar ft nn ∧ jcP ft nn (kq.sb r0) (kq.se r0) ps.toInt ∧ jzKq G0 kq us rw r0 f9 on pk.toInt)) (va_Qi (S := Int32 × (jKg)) (fun r u => (r = 0 ∨ r = 1) ∧ (u.1.toInt = (if pk.toInt ≤ (jwSy f9 on ft nn) then pk.toInt else (jwSy f9 on ft nn)) ∧ jzCk kq u.2 r0 u.1.toInt ∧ ((r.toInt = 1 ∧ pk.toInt < (jwSy f9 on ft nn) ∧ kq.cv r0 ≠ .null) ∨ (r.toInt = 0 ∧ (kq.cv r0 = .null ∨ (jwSy f9 on ft nn) ≤ pk.toInt))))) (fun u t => ((jRt (dC, dI) B base G0 EX1_keepCheckedK H0 [(r0, 3, 10, .int u.1)] t.heap) ∧ jOw (dC, dI) G0 3 r0 H0 t.heap) ∧ jIs (dC, dI) G0 t.heap [(jFkd, jKD dC dI ca G0 none (u.2)), (jFun, jUN dC dI ca G0 0 us rw), (jFdo, jDcc dC dI ca G0 (some r0) ph)]) (jA base)) 0 0 (jA base) := by
  refine Met.ofW (cc := cX1_keepChecked) (maxL := 3) (ret := (some .boolean)) (by decide) rfl ?_
  intro p e s m args below meth c s₁ Bd hml hv
  obtain ⟨rfl, hH0, hX, hG, hK2, hg_r0, hg_sa_, hg_ea_, hg_tx_, hP0, hM0, hI0, hp0, hp1, hp2, hp3, hp4, hp5, hp6, hp7, hp8, hp9⟩ := hv
  have hK := hG.1
  have hx := Bd.exec
  have hb := Bd.bytes
  have hr := Bd.returns
  have hts := atoms_spec (ws := (jw yX1_keepChecked cX1_keepChecked 3 (some .boolean))) Bd.pre
  have htw : ∀ w ∈ jWl, w.before _ s = true := fun w h => hts w (List.mem_cons_of_mem _ h)
  have hown : s.vm.findClass RX1 = some m.cls := findClass_of_methodNamed Bd.named
  have hlocks := Bd.notSynchronized
  obtain ⟨Q, hQ⟩ : ∃ Q, Q = MQ below (va_Qi (S := Int32 × (jKg)) (fun r u => (r = 0 ∨ r = 1) ∧ (u.1.toInt = (if pk.toInt ≤ (jwSy f9 on ft nn) then pk.toInt else (jwSy f9 on ft nn)) ∧ jzCk kq u.2 r0 u.1.toInt ∧ ((r.toInt = 1 ∧ pk.toInt < (jwSy f9 on ft nn) ∧ kq.cv r0 ≠ .null) ∨ (r.toInt = 0 ∧ (kq.cv r0 = .null ∨ (jwSy f9 on ft nn) ≤ pk.toInt))))) (fun u t => ((jRt (dC, dI) B base G0 EX1_keepCheckedK H0 [(r0, 3, 10, .int u.1)] t.heap) ∧ jOw (dC, dI) G0 3 r0 H0 t.heap) ∧ jIs (dC, dI) G0 t.heap [(jFkd, jKD dC dI ca G0 none (u.2)), (jFun, jUN dC dI ca G0 0 us rw), (jFdo, jDcc dC dI ca G0 (some r0) ph)]) (jA base)) ([.ref r0] : List Value).toArray s 0 0 (jA base) := ⟨_, rfl⟩
  rw [← hQ]
  have hl := lv_entry ([.ref r0]) (n := 3) (Nat.le_of_ble_eq_true rfl)
  rw [lg_entry_eq]
  generalize (lg_sl ([.ref r0]) ++ List.replicate (3 - (lg_sl ([.ref r0])).length) Slot.unset).toArray = ls at hl ⊢
  have hl : lv_has ls 3 [(0, .ref r0)] := hl
  generalize hR : (headSpec (jw yX1_keepChecked cX1_keepChecked 3 (some .boolean)) ({ frames := 1, cells := 0, slots := 0, locals := 23 })).room = R
  subst hH0
  have hh : jSt (dC, dI) B base G0 G0 EX1_keepCheckedK s.heap 0 0 [(r0, 3, 5, .ref sa_), (r0, 3, 6, .ref ea_), (r0, 3, 4, .int ps), (r0, 3, 10, .int pk), (r0, 3, 2, .ref tx_)] [(tx_, 173, 1500, ca 1, ft)] [(jFkd, jKD dC dI ca G0 none kq), (jFun, jUN dC dI ca G0 0 us rw), (jFdo, jDcc dC dI ca G0 (some r0) ph)] s.heap [] := jSt.start hX hP0 hM0 hI0
  clear hX hP0
  have hk0 : (0 : Int32).toInt = 0 := by decide
  have hk1 : (1 : Int32).toInt = 1 := by decide
  have hly_3_9 := htw (u_lay RX1 TX1 9) (jWc_wsX10 _ (u_in_lay (by decide)))
  have hly_3_10 := htw (u_lay RX1 TX1 10) (jWc_wsX10 _ (u_in_lay (by decide)))
  have hly_3_11 := htw (u_lay RX1 TX1 11) (jWc_wsX10 _ (u_in_lay (by decide)))
  have hly_11_1 := htw (u_lay RX9 TX9 1) (jWc_wsX90 _ (u_in_lay (by decide)))
  have hlk_72 := (htw (.fieldLink RX1 72 "ProofServer$Document" "checked" "I") (jWr_42 _ (List.mem_of_getElem? (i := 20) rfl)))
  have hlk_32 := (htw (.fieldLink RX1 32 "ProofServer$Document" "behind" "[LProofServer$State;") (jWr_10 _ (List.mem_of_getElem? (i := 12) rfl)))
  have hlk_98 := (htw (.fieldLink RX1 98 "ProofServer$State" "units" "[I") (jWr_42 _ (List.mem_of_getElem? (i := 21) rfl)))
  have hlk_105 := (htw (.fieldLink RX1 105 "ProofServer$Document" "checking" "[I") (jWr_42 _ (List.mem_of_getElem? (i := 22) rfl)))
  have hh_1 := hh.addI (jOw.ie (dC := dC) (dI := dI) (G0 := G0) (k := 3) (r := r0) (H0 := s.heap) (F := [(3, 0), (3, 1), (3, 2), (3, 3), (3, 4), (3, 5), (3, 6), (3, 7), (3, 8), (3, 9), (3, 10), (3, 11), (3, 12), (3, 13), (3, 14), (3, 15), (3, 16)]) (C := RX1) (T := TX1) (N := 17) rfl (by decide) hh.2.2.2.2.1 (jOw.rf))
  clear hh
  have hon := hp4
  have hnn := hp5
  have hpQ := hp9
  obtain ⟨⟨ysb_2, yse_2, ysc_2, ybh_2, hgsb_2, hgse_2, hgsc_2, hgbh_2, hgP_2, hgM_2, hqbh_2⟩, hGe_2⟩ := jKD.opn (ca := ca) (hh_1.iv 1 rfl) hg_r0
  obtain rfl : sa_ = ysb_2 := by have h9 := jf.uniq (hh_1.at 0 rfl) (hgP_2 _ (List.mem_of_getElem? (i := 0) rfl)).2; cases h9; rfl
  obtain rfl : ea_ = yse_2 := by have h9 := jf.uniq (hh_1.at 1 rfl) (hgP_2 _ (List.mem_of_getElem? (i := 1) rfl)).2; cases h9; rfl
  have hge_2_4 := congrArg Int32.toInt (Value.int.inj (jf.uniq (hh_1.at 2 rfl) (hgP_2 _ (List.mem_of_getElem? (i := 4) rfl)).2))
  have hge_2_5 := congrArg Int32.toInt (Value.int.inj (jf.uniq (hh_1.at 3 rfl) (hgP_2 _ (List.mem_of_getElem? (i := 5) rfl)).2))
  have hh_3 := ((hh_1.sub (L1 := [(r0, 3, 2, .ref tx_)]) [4] rfl (M1 := [(tx_, 173, 1500, ca 1, ft)]) [0] rfl (I1 := [([(3, 0), (3, 1), (3, 2), (3, 3), (3, 4), (3, 5), (3, 6), (3, 7), (3, 8), (3, 9), (3, 10), (3, 11), (3, 12), (3, 13), (3, 14), (3, 15), (3, 16)], jOw (dC, dI) G0 3 r0 s.heap), (jFkd, jKD dC dI ca G0 none kq), (jFun, jUN dC dI ca G0 0 us rw), (jFdo, jDcc dC dI ca G0 (some r0) ph)]) [0, 1, 2, 3] rfl).more (hgP_2.sub (L1 := [(r0, 3, 5, .ref sa_), (r0, 3, 6, .ref ea_), (r0, 3, 7, .ref ysc_2), (r0, 3, 9, .ref ybh_2), (r0, 3, 4, .int (kq.sn r0)), (r0, 3, 10, .int (kq.ck r0)), (r0, 3, 13, .int (kq.lf r0)), (r0, 3, 11, (kq.cv r0)), (r0, 3, 12, (kq.fv r0))]) [0, 1, 2, 3, 4, 5, 6, 7, 8] rfl)).moreM hgM_2
  clear hh_1
  have hh_4 := hh_3.addI (jQc.ie hqbh_2 hgbh_2 (by decide) (by decide))
  clear hh_3
  have hh_5 := hh_4.sub (L1 := [(r0, 3, 5, .ref sa_), (r0, 3, 6, .ref ea_), (r0, 3, 7, .ref ysc_2), (r0, 3, 9, .ref ybh_2), (r0, 3, 4, .int (kq.sn r0)), (r0, 3, 10, .int (kq.ck r0)), (r0, 3, 13, .int (kq.lf r0)), (r0, 3, 11, (kq.cv r0)), (r0, 3, 12, (kq.fv r0)), (r0, 3, 2, .ref tx_)]) [0, 1, 2, 3, 4, 5, 6, 7, 8, 9] rfl (M1 := [(sa_, 171, 40, ca 1, (kq.sb r0)), (ea_, 172, 40, ca 1, (kq.se r0)), (ysc_2, 176, 40, ca 1, (kq.sc r0)), (tx_, 173, 1500, ca 1, ft)]) [0, 1, 2, 3] rfl (I1 := [([(210, 0)], jQc dC dI (ca 6) ybh_2 40 (kq.bh r0)), ([(3, 0), (3, 1), (3, 2), (3, 3), (3, 4), (3, 5), (3, 6), (3, 7), (3, 8), (3, 9), (3, 10), (3, 11), (3, 12), (3, 13), (3, 14), (3, 15), (3, 16)], jOw (dC, dI) G0 3 r0 s.heap), (jFun, jUN dC dI ca G0 0 us rw), (jFdo, jDcc dC dI ca G0 (some r0) ph)]) [0, 1, 3, 4] rfl
  clear hh_4
  have hh_6 := hh_5.addI (jKD.ie hGe_2)
  clear hh_5
  have hp8b : jcP ft nn (kq.sb r0) (kq.se r0) (kq.sn r0).toInt := by rw [show (kq.sn r0).toInt = ps.toInt by omega]; exact hp8
  refine lv_iconst (v := 0) hx hb dX1_keepChecked_0 (by decide) ?_
  refine lv_istore_n (lv' := [(1, .int 0), (0, .ref r0)]) hx hb dX1_keepChecked_1 rfl hl (by decide) rfl (fun ls hl => ?_)
  have L2 : ∀ (N : Nat) (v1_7 : Int32) (H_7 : Heap) (locs_7 : List Loc), jSt (dC, dI) B base G0 G0 EX1_keepCheckedK s.heap 0 0 [(r0, 3, 5, .ref sa_), (r0, 3, 6, .ref ea_), (r0, 3, 7, .ref ysc_2), (r0, 3, 9, .ref ybh_2), (r0, 3, 4, .int (kq.sn r0)), (r0, 3, 10, .int (kq.ck r0)), (r0, 3, 13, .int (kq.lf r0)), (r0, 3, 11, (kq.cv r0)), (r0, 3, 12, (kq.fv r0)), (r0, 3, 2, .ref tx_)] [(sa_, 171, 40, ca 1, (kq.sb r0)), (ea_, 172, 40, ca 1, (kq.se r0)), (ysc_2, 176, 40, ca 1, (kq.sc r0)), (tx_, 173, 1500, ca 1, ft)] [(jFkd, jKD dC dI ca G0 (some r0) kq), ([(210, 0)], jQc dC dI (ca 6) ybh_2 40 (kq.bh r0)), ([(3, 0), (3, 1), (3, 2), (3, 3), (3, 4), (3, 5), (3, 6), (3, 7), (3, 8), (3, 9), (3, 10), (3, 11), (3, 12), (3, 13), (3, 14), (3, 15), (3, 16)], jOw (dC, dI) G0 3 r0 s.heap), (jFun, jUN dC dI ca G0 0 us rw), (jFdo, jDcc dC dI ca G0 (some r0) ph)] H_7 locs_7 → (0 ≤ v1_7.toInt ∧ v1_7.toInt ≤ pk.toInt ∧ v1_7.toInt ≤ ps.toInt ∧ jzSm f9 on ft nn v1_7.toInt) → (pk.toInt - v1_7.toInt : Int) < N → ∀ ls : Array Slot, lv_has ls 3 [(0, .ref r0), (1, .int v1_7)] → W p l e R s m ([.ref r0] : List Value).toArray below meth c H_7 locs_7 0 0 Q (F0 m 2 ls []) := by
    intro N
    induction N with
    | zero => intro v1_7 H_7 locs_7 hh_7  hi_7 hm; exact absurd hm (by omega)
    | succ N L2 =>
      intro v1_7 H_7 locs_7 hh_7  hi_7 hm_7 ls hl
      obtain ⟨hi_7_0, hi_7_1, hi_7_2, hi_7_3⟩ := hi_7
      refine lv_iload_n hx hb dX1_keepChecked_2 rfl (lv_at hl 1 rfl) ?_
      refine lv_aload_n hx hb dX1_keepChecked_3 rfl (lv_at hl 0 rfl) ?_
      refine j7_read hx hb hown hK (C := RX1) (T := TX1) (N := 17) rfl hly_3_10 hlk_72 (hh_7.at 5 rfl) dX1_keepChecked_4 ?_
      refine lv_icmp_ge (tgt := 42) hx hb dX1_keepChecked_7 (by decide) (fun c_8 => ?_) (fun c_8 => ?_)
      · skip
        have c_8' : v1_7.toInt ≥ (kq.ck r0).toInt := jb_ge (rfl) (rfl) c_8
        refine lv_iload_n hx hb dX1_keepChecked_42 rfl (lv_at hl 1 rfl) ?_
        refine lv_aload_n hx hb dX1_keepChecked_43 rfl (lv_at hl 0 rfl) ?_
        refine j7_read hx hb hown hK (C := RX1) (T := TX1) (N := 17) rfl hly_3_10 hlk_72 (hh_7.at 5 rfl) dX1_keepChecked_44 ?_
        refine lv_icmp_ne (tgt := 73) hx hb dX1_keepChecked_47 (by decide) (fun c_9 => ?_) (fun c_9 => ?_)
        · skip
          have c_9' : v1_7.toInt ≠ (kq.ck r0).toInt := jb_ne (rfl) (rfl) c_9
          refine lv_iconst (v := 0) hx hb dX1_keepChecked_73 (by decide) ?_
          refine lv_istore_n (lv' := [(2, .int 0), (0, .ref r0), (1, .int v1_7)]) hx hb dX1_keepChecked_74 rfl hl (by decide) rfl (fun ls hl => ?_)
          refine lv_aload_n hx hb dX1_keepChecked_75 rfl (lv_at hl 1 rfl) ?_
          refine lv_iload_n hx hb dX1_keepChecked_76 rfl (lv_at hl 2 rfl) ?_
          have hdg_10 := hh_7.iv 0 rfl
          have hdg_10_5 := hh_7.at 0 rfl
          have hdg_10_6 := hh_7.at 1 rfl
          have hdg_10_7 := hh_7.at 2 rfl
          have hdg_10_9 := hh_7.at 3 rfl
          have hh_11 := hh_7.sub (L1 := [(r0, 3, 5, .ref sa_), (r0, 3, 6, .ref ea_), (r0, 3, 7, .ref ysc_2), (r0, 3, 9, .ref ybh_2), (r0, 3, 4, .int (kq.sn r0)), (r0, 3, 10, .int (kq.ck r0)), (r0, 3, 13, .int (kq.lf r0)), (r0, 3, 11, (kq.cv r0)), (r0, 3, 12, (kq.fv r0)), (r0, 3, 2, .ref tx_)]) [0, 1, 2, 3, 4, 5, 6, 7, 8, 9] rfl (M1 := [(sa_, 171, 40, ca 1, (kq.sb r0)), (ea_, 172, 40, ca 1, (kq.se r0)), (ysc_2, 176, 40, ca 1, (kq.sc r0)), (tx_, 173, 1500, ca 1, ft)]) [0, 1, 2, 3] rfl (I1 := [([(210, 0)], jQc dC dI (ca 6) ybh_2 40 (kq.bh r0)), ([(3, 0), (3, 1), (3, 2), (3, 3), (3, 4), (3, 5), (3, 6), (3, 7), (3, 8), (3, 9), (3, 10), (3, 11), (3, 12), (3, 13), (3, 14), (3, 15), (3, 16)], jOw (dC, dI) G0 3 r0 s.heap), (jFun, jUN dC dI ca G0 0 us rw), (jFdo, jDcc dC dI ca G0 (some r0) ph)]) [1, 2, 3, 4] rfl
          clear hh_7
          have hd_13 := hh_11.iv 3 rfl
          have hd_135 := hh_11.at 0 rfl
          have hd_136 := hh_11.at 1 rfl
          have hd_13o := hh_11.iv 1 rfl
          have hh_14 := hh_11.sub (L1 := [(r0, 3, 5, .ref sa_), (r0, 3, 6, .ref ea_), (r0, 3, 7, .ref ysc_2), (r0, 3, 9, .ref ybh_2), (r0, 3, 4, .int (kq.sn r0)), (r0, 3, 10, .int (kq.ck r0)), (r0, 3, 13, .int (kq.lf r0)), (r0, 3, 11, (kq.cv r0)), (r0, 3, 12, (kq.fv r0)), (r0, 3, 2, .ref tx_)]) [0, 1, 2, 3, 4, 5, 6, 7, 8, 9] rfl (M1 := [(sa_, 171, 40, ca 1, (kq.sb r0)), (ea_, 172, 40, ca 1, (kq.se r0)), (ysc_2, 176, 40, ca 1, (kq.sc r0)), (tx_, 173, 1500, ca 1, ft)]) [0, 1, 2, 3] rfl (I1 := [([(210, 0)], jQc dC dI (ca 6) ybh_2 40 (kq.bh r0)), (jFun, jUN dC dI ca G0 0 us rw)]) [0, 2] rfl
          clear hh_11
          refine j7_putX hx hb hown hK hh_14 hB hAp hB3 (C := RX1) (T := TX1) (N := 17) rfl (by decide) hg_r0 (i := 10) (by decide) hly_3_10 rfl hlk_72 rfl (ty := .int) (v := .int v1_7) (by decide +kernel) rfl rfl (⟨_, rfl, by omega, by omega⟩) rfl (L1 := [(r0, 3, 5, .ref sa_), (r0, 3, 6, .ref ea_), (r0, 3, 7, .ref ysc_2), (r0, 3, 9, .ref ybh_2), (r0, 3, 4, .int (kq.sn r0)), (r0, 3, 13, .int (kq.lf r0)), (r0, 3, 11, (kq.cv r0)), (r0, 3, 12, (kq.fv r0)), (r0, 3, 2, .ref tx_)]) [0, 1, 2, 3, 4, 6, 7, 8, 9] rfl rfl rfl dX1_keepChecked_77 (fun H_12 locs_12 hr_12 hh_12 => ?_)
          clear hh_14
          have hd_13n := jDcc.fld hd_13 hg_r0 hr_12 hd_135 hd_136 (hh_12.at 1 rfl) (hh_12.at 2 rfl)
          have hd_13on := jOw.put hd_13o hr_12
          have hh_15 := hh_12.addI (jDcc.ie hd_13n)
          clear hh_12
          have hh_16 := hh_15.addI (jOw.ie (dC := dC) (dI := dI) (G0 := G0) (k := 3) (r := r0) (H0 := s.heap) (F := [(3, 0), (3, 1), (3, 2), (3, 3), (3, 4), (3, 5), (3, 6), (3, 7), (3, 8), (3, 9), (3, 10), (3, 11), (3, 12), (3, 13), (3, 14), (3, 15), (3, 16)]) (C := RX1) (T := TX1) (N := 17) rfl (by decide) hh_15.2.2.2.2.1 (hd_13on))
          clear hh_15
          clear hd_13 hd_13n hd_135 hd_136 hd_13o hd_13on
          have hdg_10n := jKD.fld (ca := ca) hdg_10 hg_r0 hr_12 hdg_10_5 hdg_10_6 hdg_10_7 hdg_10_9 (hh_16.at 1 rfl) (hh_16.at 2 rfl) (hh_16.at 3 rfl) (hh_16.at 4 rfl)
          have hh_17 := hh_16.addI (jKD.ie hdg_10n)
          clear hh_16
          clear hdg_10 hdg_10n hr_12 hdg_10_5 hdg_10_6 hdg_10_7 hdg_10_9
          have hF_18 := jKD.full (ca := ca) (hh_17.iv 0 rfl) hg_r0 (hh_17.at 1 rfl) (hh_17.at 2 rfl) (hh_17.at 3 rfl) (hh_17.at 4 rfl) (hh_17.at 5 rfl) (hh_17.at 0 rfl) (hh_17.at 6 rfl) (hh_17.at 7 rfl) (hh_17.at 8 rfl) (hh_17.2.2.2.2.2.2.2.1.sub (L1 := [(sa_, 171, 40, ca 1, (kq.sb r0)), (ea_, 172, 40, ca 1, (kq.se r0)), (ysc_2, 176, 40, ca 1, (kq.sc r0))]) [0, 1, 2] rfl) (hh_17.iv 3 rfl)
          obtain ⟨g_18, ht_19⟩ : ∃ q : jKg, q = kq.put r0 (kq.sn r0) v1_7 (kq.lf r0) ((kq.cv r0)) ((kq.fv r0)) (kq.sb r0) (kq.se r0) (kq.sc r0) (kq.bh r0) := ⟨_, rfl⟩
          rw [← ht_19] at hF_18
          have hh_20 := hh_17.sub (L1 := [(r0, 3, 10, .int v1_7), (r0, 3, 5, .ref sa_), (r0, 3, 6, .ref ea_), (r0, 3, 7, .ref ysc_2), (r0, 3, 9, .ref ybh_2), (r0, 3, 4, .int (kq.sn r0)), (r0, 3, 13, .int (kq.lf r0)), (r0, 3, 11, (kq.cv r0)), (r0, 3, 12, (kq.fv r0)), (r0, 3, 2, .ref tx_)]) [0, 1, 2, 3, 4, 5, 6, 7, 8, 9] rfl (M1 := [(sa_, 171, 40, ca 1, (kq.sb r0)), (ea_, 172, 40, ca 1, (kq.se r0)), (ysc_2, 176, 40, ca 1, (kq.sc r0)), (tx_, 173, 1500, ca 1, ft)]) [0, 1, 2, 3] rfl (I1 := [([(3, 0), (3, 1), (3, 2), (3, 3), (3, 4), (3, 5), (3, 6), (3, 7), (3, 8), (3, 9), (3, 10), (3, 11), (3, 12), (3, 13), (3, 14), (3, 15), (3, 16)], jOw (dC, dI) G0 3 r0 s.heap), (jFdo, jDcc dC dI ca G0 (some r0) ph), (jFun, jUN dC dI ca G0 0 us rw)]) [1, 2, 4] rfl
          clear hh_17
          have hh_21 := hh_20.addI (jKD.ie hF_18)
          clear hh_20
          refine lv_iload_n hx hb dX1_keepChecked_80 rfl (lv_at hl 0 rfl) ?_
          rw [hQ]
          exact W.zret (v := 0) hx hb hr (jb_nz (Or.inl rfl)) (fun t ht hW => ⟨⟨0, (v1_7, g_18), rfl, ⟨(Or.inl rfl), (by omega : False).elim⟩, ⟨⟨hh_21.rt (M1 := [(r0, 3, 10, .int v1_7)]) [0] rfl ht, by rw [ht]; exact hh_21.iv 1 rfl⟩, by rw [ht]; exact hh_21.2.2.2.2.2.2.2.2.sub (L1 := [(jFkd, jKD dC dI ca G0 none g_18), (jFun, jUN dC dI ca G0 0 us rw), (jFdo, jDcc dC dI ca G0 (some r0) ph)]) [0, 3, 2] rfl⟩⟩, by rw [ht]; try exact hh_21.1.1, fun q h9 hq => by rw [ht]; try exact hh_21.1.2.1 q h9 hq⟩) hh_21.1.2.2 dX1_keepChecked_81
        · skip
          have c_9' : v1_7.toInt = (kq.ck r0).toInt := jb_ne_n (rfl) (rfl) c_9
          refine lv_aload_n hx hb dX1_keepChecked_50 rfl (lv_at hl 0 rfl) ?_
          have hwf_22 := hh_7.at 7 rfl
          have hh_23 := hh_7.sub (L1 := [(r0, 3, 5, .ref sa_), (r0, 3, 6, .ref ea_), (r0, 3, 7, .ref ysc_2), (r0, 3, 9, .ref ybh_2), (r0, 3, 4, .int (kq.sn r0)), (r0, 3, 10, .int (kq.ck r0)), (r0, 3, 13, .int (kq.lf r0)), (r0, 3, 12, (kq.fv r0)), (r0, 3, 2, .ref tx_)]) [0, 1, 2, 3, 4, 5, 6, 8, 9] rfl (M1 := [(sa_, 171, 40, ca 1, (kq.sb r0)), (ea_, 172, 40, ca 1, (kq.se r0)), (ysc_2, 176, 40, ca 1, (kq.sc r0)), (tx_, 173, 1500, ca 1, ft)]) [0, 1, 2, 3] rfl (I1 := [(jFkd, jKD dC dI ca G0 (some r0) kq), ([(210, 0)], jQc dC dI (ca 6) ybh_2 40 (kq.bh r0)), ([(3, 0), (3, 1), (3, 2), (3, 3), (3, 4), (3, 5), (3, 6), (3, 7), (3, 8), (3, 9), (3, 10), (3, 11), (3, 12), (3, 13), (3, 14), (3, 15), (3, 16)], jOw (dC, dI) G0 3 r0 s.heap), (jFun, jUN dC dI ca G0 0 us rw), (jFdo, jDcc dC dI ca G0 (some r0) ph)]) [0, 1, 2, 3, 4] rfl
          clear hh_7
          obtain ⟨v_24, hv_24, hh_25⟩ := hh_23.pin (C := RX1) (T := TX1) (N := 17) hB3 rfl (by decide) hg_r0 (i := 11) (by decide) rfl
          clear hh_23
          have hwe51 : (kq.cv r0) = v_24 := jf.uniq hwf_22 (hh_25.at 0 rfl)
          clear hwf_22
          rcases hv_24 with rfl | ⟨checking_26, nchecking_26, rfl, hg_checking_26, hn_checking_26⟩
          · refine j7_read hx hb hown hK (C := RX1) (T := TX1) (N := 17) rfl hly_3_11 hlk_105 (hh_25.at 0 rfl) dX1_keepChecked_51 ?_
            refine lv_ifnullN (tgt := 73) hx hb dX1_keepChecked_54 (by decide) ?_
            refine lv_iconst (v := 0) hx hb dX1_keepChecked_73 (by decide) ?_
            refine lv_istore_n (lv' := [(2, .int 0), (0, .ref r0), (1, .int v1_7)]) hx hb dX1_keepChecked_74 rfl hl (by decide) rfl (fun ls hl => ?_)
            refine lv_aload_n hx hb dX1_keepChecked_75 rfl (lv_at hl 1 rfl) ?_
            refine lv_iload_n hx hb dX1_keepChecked_76 rfl (lv_at hl 2 rfl) ?_
            have hdg_27 := hh_25.iv 0 rfl
            have hdg_27_5 := hh_25.at 1 rfl
            have hdg_27_6 := hh_25.at 2 rfl
            have hdg_27_7 := hh_25.at 3 rfl
            have hdg_27_9 := hh_25.at 4 rfl
            have hh_28 := hh_25.sub (L1 := [(r0, 3, 11, .null), (r0, 3, 5, .ref sa_), (r0, 3, 6, .ref ea_), (r0, 3, 7, .ref ysc_2), (r0, 3, 9, .ref ybh_2), (r0, 3, 4, .int (kq.sn r0)), (r0, 3, 10, .int (kq.ck r0)), (r0, 3, 13, .int (kq.lf r0)), (r0, 3, 12, (kq.fv r0)), (r0, 3, 2, .ref tx_)]) [0, 1, 2, 3, 4, 5, 6, 7, 8, 9] rfl (M1 := [(sa_, 171, 40, ca 1, (kq.sb r0)), (ea_, 172, 40, ca 1, (kq.se r0)), (ysc_2, 176, 40, ca 1, (kq.sc r0)), (tx_, 173, 1500, ca 1, ft)]) [0, 1, 2, 3] rfl (I1 := [([(210, 0)], jQc dC dI (ca 6) ybh_2 40 (kq.bh r0)), ([(3, 0), (3, 1), (3, 2), (3, 3), (3, 4), (3, 5), (3, 6), (3, 7), (3, 8), (3, 9), (3, 10), (3, 11), (3, 12), (3, 13), (3, 14), (3, 15), (3, 16)], jOw (dC, dI) G0 3 r0 s.heap), (jFun, jUN dC dI ca G0 0 us rw), (jFdo, jDcc dC dI ca G0 (some r0) ph)]) [1, 2, 3, 4] rfl
            clear hh_25
            have hd_30 := hh_28.iv 3 rfl
            have hd_305 := hh_28.at 1 rfl
            have hd_306 := hh_28.at 2 rfl
            have hd_30o := hh_28.iv 1 rfl
            have hh_31 := hh_28.sub (L1 := [(r0, 3, 11, .null), (r0, 3, 5, .ref sa_), (r0, 3, 6, .ref ea_), (r0, 3, 7, .ref ysc_2), (r0, 3, 9, .ref ybh_2), (r0, 3, 4, .int (kq.sn r0)), (r0, 3, 10, .int (kq.ck r0)), (r0, 3, 13, .int (kq.lf r0)), (r0, 3, 12, (kq.fv r0)), (r0, 3, 2, .ref tx_)]) [0, 1, 2, 3, 4, 5, 6, 7, 8, 9] rfl (M1 := [(sa_, 171, 40, ca 1, (kq.sb r0)), (ea_, 172, 40, ca 1, (kq.se r0)), (ysc_2, 176, 40, ca 1, (kq.sc r0)), (tx_, 173, 1500, ca 1, ft)]) [0, 1, 2, 3] rfl (I1 := [([(210, 0)], jQc dC dI (ca 6) ybh_2 40 (kq.bh r0)), (jFun, jUN dC dI ca G0 0 us rw)]) [0, 2] rfl
            clear hh_28
            refine j7_putX hx hb hown hK hh_31 hB hAp hB3 (C := RX1) (T := TX1) (N := 17) rfl (by decide) hg_r0 (i := 10) (by decide) hly_3_10 rfl hlk_72 rfl (ty := .int) (v := .int v1_7) (by decide +kernel) rfl rfl (⟨_, rfl, by omega, by omega⟩) rfl (L1 := [(r0, 3, 11, .null), (r0, 3, 5, .ref sa_), (r0, 3, 6, .ref ea_), (r0, 3, 7, .ref ysc_2), (r0, 3, 9, .ref ybh_2), (r0, 3, 4, .int (kq.sn r0)), (r0, 3, 13, .int (kq.lf r0)), (r0, 3, 12, (kq.fv r0)), (r0, 3, 2, .ref tx_)]) [0, 1, 2, 3, 4, 5, 7, 8, 9] rfl rfl rfl dX1_keepChecked_77 (fun H_29 locs_29 hr_29 hh_29 => ?_)
            clear hh_31
            have hd_30n := jDcc.fld hd_30 hg_r0 hr_29 hd_305 hd_306 (hh_29.at 2 rfl) (hh_29.at 3 rfl)
            have hd_30on := jOw.put hd_30o hr_29
            have hh_32 := hh_29.addI (jDcc.ie hd_30n)
            clear hh_29
            have hh_33 := hh_32.addI (jOw.ie (dC := dC) (dI := dI) (G0 := G0) (k := 3) (r := r0) (H0 := s.heap) (F := [(3, 0), (3, 1), (3, 2), (3, 3), (3, 4), (3, 5), (3, 6), (3, 7), (3, 8), (3, 9), (3, 10), (3, 11), (3, 12), (3, 13), (3, 14), (3, 15), (3, 16)]) (C := RX1) (T := TX1) (N := 17) rfl (by decide) hh_32.2.2.2.2.1 (hd_30on))
            clear hh_32
            clear hd_30 hd_30n hd_305 hd_306 hd_30o hd_30on
            have hdg_27n := jKD.fld (ca := ca) hdg_27 hg_r0 hr_29 hdg_27_5 hdg_27_6 hdg_27_7 hdg_27_9 (hh_33.at 2 rfl) (hh_33.at 3 rfl) (hh_33.at 4 rfl) (hh_33.at 5 rfl)
            have hh_34 := hh_33.addI (jKD.ie hdg_27n)
            clear hh_33
            clear hdg_27 hdg_27n hr_29 hdg_27_5 hdg_27_6 hdg_27_7 hdg_27_9
            have hF_35 := jKD.full (ca := ca) (hh_34.iv 0 rfl) hg_r0 (hh_34.at 2 rfl) (hh_34.at 3 rfl) (hh_34.at 4 rfl) (hh_34.at 5 rfl) (hh_34.at 6 rfl) (hh_34.at 0 rfl) (hh_34.at 7 rfl) (hh_34.at 1 rfl) (hh_34.at 8 rfl) (hh_34.2.2.2.2.2.2.2.1.sub (L1 := [(sa_, 171, 40, ca 1, (kq.sb r0)), (ea_, 172, 40, ca 1, (kq.se r0)), (ysc_2, 176, 40, ca 1, (kq.sc r0))]) [0, 1, 2] rfl) (hh_34.iv 3 rfl)
            obtain ⟨g_35, ht_36⟩ : ∃ q : jKg, q = kq.put r0 (kq.sn r0) v1_7 (kq.lf r0) .null ((kq.fv r0)) (kq.sb r0) (kq.se r0) (kq.sc r0) (kq.bh r0) := ⟨_, rfl⟩
            rw [← ht_36] at hF_35
            have hh_37 := hh_34.sub (L1 := [(r0, 3, 10, .int v1_7), (r0, 3, 11, .null), (r0, 3, 5, .ref sa_), (r0, 3, 6, .ref ea_), (r0, 3, 7, .ref ysc_2), (r0, 3, 9, .ref ybh_2), (r0, 3, 4, .int (kq.sn r0)), (r0, 3, 13, .int (kq.lf r0)), (r0, 3, 12, (kq.fv r0)), (r0, 3, 2, .ref tx_)]) [0, 1, 2, 3, 4, 5, 6, 7, 8, 9] rfl (M1 := [(sa_, 171, 40, ca 1, (kq.sb r0)), (ea_, 172, 40, ca 1, (kq.se r0)), (ysc_2, 176, 40, ca 1, (kq.sc r0)), (tx_, 173, 1500, ca 1, ft)]) [0, 1, 2, 3] rfl (I1 := [([(3, 0), (3, 1), (3, 2), (3, 3), (3, 4), (3, 5), (3, 6), (3, 7), (3, 8), (3, 9), (3, 10), (3, 11), (3, 12), (3, 13), (3, 14), (3, 15), (3, 16)], jOw (dC, dI) G0 3 r0 s.heap), (jFdo, jDcc dC dI ca G0 (some r0) ph), (jFun, jUN dC dI ca G0 0 us rw)]) [1, 2, 4] rfl
            clear hh_34
            have hh_38 := hh_37.addI (jKD.ie hF_35)
            clear hh_37
            refine lv_iload_n hx hb dX1_keepChecked_80 rfl (lv_at hl 0 rfl) ?_
            rw [hQ]
            exact W.zret (v := 0) hx hb hr (jb_nz (Or.inl rfl)) (fun t ht hW => ⟨⟨0, (v1_7, g_35), rfl, ⟨(Or.inl rfl), by (try dsimp only); skip; (try dsimp only); have hal := hi_7_3; rw [show v1_7.toInt = pk.toInt by omega] at hal; have hal2 := hal.al hon hnn hpQ.1 (by omega) (by omega); exact ⟨by omega, jzCk.of ht_36 hwe51 rfl, Or.inr ⟨by omega, Or.inl hwe51⟩⟩⟩, ⟨⟨hh_38.rt (M1 := [(r0, 3, 10, .int v1_7)]) [0] rfl ht, by rw [ht]; exact hh_38.iv 1 rfl⟩, by rw [ht]; exact hh_38.2.2.2.2.2.2.2.2.sub (L1 := [(jFkd, jKD dC dI ca G0 none g_35), (jFun, jUN dC dI ca G0 0 us rw), (jFdo, jDcc dC dI ca G0 (some r0) ph)]) [0, 3, 2] rfl⟩⟩, by rw [ht]; try exact hh_38.1.1, fun q h9 hq => by rw [ht]; try exact hh_38.1.2.1 q h9 hq⟩) hh_38.1.2.2 dX1_keepChecked_81
          · refine j7_read hx hb hown hK (C := RX1) (T := TX1) (N := 17) rfl hly_3_11 hlk_105 (hh_25.at 0 rfl) dX1_keepChecked_51 ?_
            refine lv_ifnull hx hb dX1_keepChecked_54 ?_
            refine lv_aload_n hx hb dX1_keepChecked_57 rfl (lv_at hl 0 rfl) ?_
            refine lv_iload_n hx hb dX1_keepChecked_58 rfl (lv_at hl 1 rfl) ?_
            refine lv_aload_n hx hb dX1_keepChecked_59 rfl (lv_at hl 0 rfl) ?_
            refine j7_read hx hb hown hK (C := RX1) (T := TX1) (N := 17) rfl hly_3_11 hlk_105 (hh_25.at 0 rfl) dX1_keepChecked_60 ?_
            obtain ⟨nf_39, hnv_39, hNU_39⟩ := jUN.un (r := 0) (hh_25.iv 3 rfl) hg_checking_26
            have hh_40 := hh_25.moreM (M1 := [(checking_26, 175, nchecking_26, ca 1, nf_39)]) (fun q hq => by cases List.mem_singleton.mp hq; exact ⟨hg_checking_26, (by show 18 ≤ 175; decide), (by show 175 < 1000; decide), hnv_39⟩)
            clear hh_25
            refine va_calli (A0 := jA base) (H0 := s.heap) (va_runV (As := [.int v1_7, .ref checking_26]) (rest := []) ⟨hx, hb, hml, hown, hts⟩ (uX1_isSentenceT l dC dI ca base B hB hAp hB3 hB171 hB172 hB173 hB175 G0 H_7 r0 v1_7 checking_26 0 nchecking_26 (kq.sn r0) sa_ ea_ tx_ nn nf_39 (kq.sb r0) (kq.se r0) ft) (cwV 2 hts (jgV (jWr_42 _ (List.mem_of_getElem? (i := 23) rfl)) (jWr_43 _ (List.mem_of_getElem? (i := 0) rfl)) (jWr_43 _ (List.mem_of_getElem? (i := 1) rfl)) (jWr_2 _ (List.mem_of_getElem? (i := 21) rfl)) (jWr_43 _ (List.mem_of_getElem? (i := 2) rfl))) rfl rfl rfl (by decide +kernel) ⟨by rw [← hR]; exact Nat.le_of_ble_eq_true rfl, by rw [← hR]; exact Nat.le_of_ble_eq_true rfl⟩) ⟨fun a U g mk q => by obtain ⟨q0, q1, q2, qK, q10, q11, q12, q13, q14, q15, q16, q17⟩ := q; exact ⟨q0, q1, q2, jG.calling g mk a qK, q10, q11, q12, q13, q14, q15, q16, q17⟩, hh_40.recv (C := RX1) (T := TX1) (N := 17) hB3 rfl (by decide) hg_r0 hK, fun U hU hW => ⟨rfl, hU, hh_40.2.1, hG.step hW hU hh_40.1, hg_r0, hg_checking_26, hgsb_2, hgse_2, hg_tx_, (hh_40.2.2.1.sub (L1 := [(r0, 3, 4, .int (kq.sn r0)), (r0, 3, 5, .ref sa_), (r0, 3, 6, .ref ea_), (r0, 3, 2, .ref tx_)]) [5, 1, 2, 9] rfl), (hh_40.2.2.2.2.2.2.2.1.sub (L1 := [(checking_26, 175, nchecking_26, ca 1, nf_39), (sa_, 171, 40, ca 1, (kq.sb r0)), (ea_, 172, 40, ca 1, (kq.se r0)), (tx_, 173, 1500, ca 1, ft)]) [0, 1, 2, 4] rfl), ⟨(by first | omega | rfl | assumption | exact hp8b), (by first | omega | rfl | assumption | exact hp8b), (by first | omega | rfl | assumption | exact hp8b), (by first | omega | rfl | assumption | exact hp8b), (by first | omega | rfl | assumption | exact hp8b), (by first | assumption | exact hp8b | omega)⟩⟩⟩ rfl rfl hl.1 rfl (lv_room (Nat.le_of_ble_eq_true rfl)) dX1_keepChecked_63 ⟨Nat.zero_le _, Nat.zero_le _⟩) hh_40.1 (fun q _ h => h) (fun q h => h) (fun r_42 u_41 t_41 H_41 locs_41 ht_41 hvm_41 hr_42 hb_41 hz_41 hk_41 hS_41 => ?_)
            rw [ht_41] at hb_41
            obtain ⟨hb_411, hb_412, hb_413, hb_414, hb_415⟩ := hb_41
            have hh_41 : jSt (dC, dI) B base G0 G0 EX1_keepCheckedK s.heap 0 0 [(r0, 3, 11, .ref checking_26), (r0, 3, 5, .ref sa_), (r0, 3, 6, .ref ea_), (r0, 3, 7, .ref ysc_2), (r0, 3, 9, .ref ybh_2), (r0, 3, 4, .int (kq.sn r0)), (r0, 3, 10, .int (kq.ck r0)), (r0, 3, 13, .int (kq.lf r0)), (r0, 3, 12, (kq.fv r0)), (r0, 3, 2, .ref tx_)] [(checking_26, 175, nchecking_26, ca 1, nf_39), (sa_, 171, 40, ca 1, (kq.sb r0)), (ea_, 172, 40, ca 1, (kq.se r0)), (ysc_2, 176, 40, ca 1, (kq.sc r0)), (tx_, 173, 1500, ca 1, ft)] [(jFkd, jKD dC dI ca G0 (some r0) kq), ([(210, 0)], jQc dC dI (ca 6) ybh_2 40 (kq.bh r0)), ([(3, 0), (3, 1), (3, 2), (3, 3), (3, 4), (3, 5), (3, 6), (3, 7), (3, 8), (3, 9), (3, 10), (3, 11), (3, 12), (3, 13), (3, 14), (3, 15), (3, 16)], jOw (dC, dI) G0 3 r0 s.heap), (jFun, jUN dC dI ca G0 0 us rw), (jFdo, jDcc dC dI ca G0 (some r0) ph)] H_41 locs_41 := ((hh_40.call hb_411 hb_412 hb_413 hb_414 hS_41 rfl (L1 := [(r0, 3, 11, .ref checking_26), (r0, 3, 5, .ref sa_), (r0, 3, 6, .ref ea_), (r0, 3, 7, .ref ysc_2), (r0, 3, 9, .ref ybh_2), (r0, 3, 4, .int (kq.sn r0)), (r0, 3, 10, .int (kq.ck r0)), (r0, 3, 13, .int (kq.lf r0)), (r0, 3, 12, (kq.fv r0)), (r0, 3, 2, .ref tx_)]) [0, 1, 2, 3, 4, 5, 6, 7, 8, 9] rfl rfl (M1 := [(checking_26, 175, nchecking_26, ca 1, nf_39), (sa_, 171, 40, ca 1, (kq.sb r0)), (ea_, 172, 40, ca 1, (kq.se r0)), (ysc_2, 176, 40, ca 1, (kq.sc r0)), (tx_, 173, 1500, ca 1, ft)]) [0, 1, 2, 3, 4] rfl rfl (I1 := [(jFkd, jKD dC dI ca G0 (some r0) kq), ([(210, 0)], jQc dC dI (ca 6) ybh_2 40 (kq.bh r0)), ([(3, 0), (3, 1), (3, 2), (3, 3), (3, 4), (3, 5), (3, 6), (3, 7), (3, 8), (3, 9), (3, 10), (3, 11), (3, 12), (3, 13), (3, 14), (3, 15), (3, 16)], jOw (dC, dI) G0 3 r0 s.heap), (jFun, jUN dC dI ca G0 0 us rw), (jFdo, jDcc dC dI ca G0 (some r0) ph)]) [0, 1, 2, 3, 4] rfl rfl).more hb_415)
            clear hh_40 ht_41 hvm_41 hz_41 hk_41 hS_41 hb_411 hb_412 hb_413 hb_414 hb_415
            obtain ⟨hr_42b, hr_42p⟩ := hr_42
            have hss9 := hr_42p
            have hr_42' := jb_01 hr_42b
            refine lv_if_eq (tgt := 73) hx hb dX1_keepChecked_66 (by decide) (fun c_43 => ?_) (fun c_43 => ?_)
            · skip
              have c_43' : r_42.toInt = 0 := jb_eq (rfl) ((by decide)) c_43
              first | (have hr_42pq := hr_42p.resolve_left (by omega); clear hr_42p) | (have hr_42pq := hr_42p.resolve_right (by omega); clear hr_42p) | try clear hr_42p
              refine lv_iconst (v := 0) hx hb dX1_keepChecked_73 (by decide) ?_
              refine lv_istore_n (lv' := [(2, .int 0), (0, .ref r0), (1, .int v1_7)]) hx hb dX1_keepChecked_74 rfl hl (by decide) rfl (fun ls hl => ?_)
              refine lv_aload_n hx hb dX1_keepChecked_75 rfl (lv_at hl 1 rfl) ?_
              refine lv_iload_n hx hb dX1_keepChecked_76 rfl (lv_at hl 2 rfl) ?_
              have hdg_44 := hh_41.iv 0 rfl
              have hdg_44_5 := hh_41.at 1 rfl
              have hdg_44_6 := hh_41.at 2 rfl
              have hdg_44_7 := hh_41.at 3 rfl
              have hdg_44_9 := hh_41.at 4 rfl
              have hh_45 := hh_41.sub (L1 := [(r0, 3, 11, .ref checking_26), (r0, 3, 5, .ref sa_), (r0, 3, 6, .ref ea_), (r0, 3, 7, .ref ysc_2), (r0, 3, 9, .ref ybh_2), (r0, 3, 4, .int (kq.sn r0)), (r0, 3, 10, .int (kq.ck r0)), (r0, 3, 13, .int (kq.lf r0)), (r0, 3, 12, (kq.fv r0)), (r0, 3, 2, .ref tx_)]) [0, 1, 2, 3, 4, 5, 6, 7, 8, 9] rfl (M1 := [(checking_26, 175, nchecking_26, ca 1, nf_39), (sa_, 171, 40, ca 1, (kq.sb r0)), (ea_, 172, 40, ca 1, (kq.se r0)), (ysc_2, 176, 40, ca 1, (kq.sc r0)), (tx_, 173, 1500, ca 1, ft)]) [0, 1, 2, 3, 4] rfl (I1 := [([(210, 0)], jQc dC dI (ca 6) ybh_2 40 (kq.bh r0)), ([(3, 0), (3, 1), (3, 2), (3, 3), (3, 4), (3, 5), (3, 6), (3, 7), (3, 8), (3, 9), (3, 10), (3, 11), (3, 12), (3, 13), (3, 14), (3, 15), (3, 16)], jOw (dC, dI) G0 3 r0 s.heap), (jFun, jUN dC dI ca G0 0 us rw), (jFdo, jDcc dC dI ca G0 (some r0) ph)]) [1, 2, 3, 4] rfl
              clear hh_41
              have hd_47 := hh_45.iv 3 rfl
              have hd_475 := hh_45.at 1 rfl
              have hd_476 := hh_45.at 2 rfl
              have hd_47o := hh_45.iv 1 rfl
              have hh_48 := hh_45.sub (L1 := [(r0, 3, 11, .ref checking_26), (r0, 3, 5, .ref sa_), (r0, 3, 6, .ref ea_), (r0, 3, 7, .ref ysc_2), (r0, 3, 9, .ref ybh_2), (r0, 3, 4, .int (kq.sn r0)), (r0, 3, 10, .int (kq.ck r0)), (r0, 3, 13, .int (kq.lf r0)), (r0, 3, 12, (kq.fv r0)), (r0, 3, 2, .ref tx_)]) [0, 1, 2, 3, 4, 5, 6, 7, 8, 9] rfl (M1 := [(checking_26, 175, nchecking_26, ca 1, nf_39), (sa_, 171, 40, ca 1, (kq.sb r0)), (ea_, 172, 40, ca 1, (kq.se r0)), (ysc_2, 176, 40, ca 1, (kq.sc r0)), (tx_, 173, 1500, ca 1, ft)]) [0, 1, 2, 3, 4] rfl (I1 := [([(210, 0)], jQc dC dI (ca 6) ybh_2 40 (kq.bh r0)), (jFun, jUN dC dI ca G0 0 us rw)]) [0, 2] rfl
              clear hh_45
              refine j7_putX hx hb hown hK hh_48 hB hAp hB3 (C := RX1) (T := TX1) (N := 17) rfl (by decide) hg_r0 (i := 10) (by decide) hly_3_10 rfl hlk_72 rfl (ty := .int) (v := .int v1_7) (by decide +kernel) rfl rfl (⟨_, rfl, by omega, by omega⟩) rfl (L1 := [(r0, 3, 11, .ref checking_26), (r0, 3, 5, .ref sa_), (r0, 3, 6, .ref ea_), (r0, 3, 7, .ref ysc_2), (r0, 3, 9, .ref ybh_2), (r0, 3, 4, .int (kq.sn r0)), (r0, 3, 13, .int (kq.lf r0)), (r0, 3, 12, (kq.fv r0)), (r0, 3, 2, .ref tx_)]) [0, 1, 2, 3, 4, 5, 7, 8, 9] rfl rfl rfl dX1_keepChecked_77 (fun H_46 locs_46 hr_46 hh_46 => ?_)
              clear hh_48
              have hd_47n := jDcc.fld hd_47 hg_r0 hr_46 hd_475 hd_476 (hh_46.at 2 rfl) (hh_46.at 3 rfl)
              have hd_47on := jOw.put hd_47o hr_46
              have hh_49 := hh_46.addI (jDcc.ie hd_47n)
              clear hh_46
              have hh_50 := hh_49.addI (jOw.ie (dC := dC) (dI := dI) (G0 := G0) (k := 3) (r := r0) (H0 := s.heap) (F := [(3, 0), (3, 1), (3, 2), (3, 3), (3, 4), (3, 5), (3, 6), (3, 7), (3, 8), (3, 9), (3, 10), (3, 11), (3, 12), (3, 13), (3, 14), (3, 15), (3, 16)]) (C := RX1) (T := TX1) (N := 17) rfl (by decide) hh_49.2.2.2.2.1 (hd_47on))
              clear hh_49
              clear hd_47 hd_47n hd_475 hd_476 hd_47o hd_47on
              have hdg_44n := jKD.fld (ca := ca) hdg_44 hg_r0 hr_46 hdg_44_5 hdg_44_6 hdg_44_7 hdg_44_9 (hh_50.at 2 rfl) (hh_50.at 3 rfl) (hh_50.at 4 rfl) (hh_50.at 5 rfl)
              have hh_51 := hh_50.addI (jKD.ie hdg_44n)
              clear hh_50
              clear hdg_44 hdg_44n hr_46 hdg_44_5 hdg_44_6 hdg_44_7 hdg_44_9
              have hF_52 := jKD.full (ca := ca) (hh_51.iv 0 rfl) hg_r0 (hh_51.at 2 rfl) (hh_51.at 3 rfl) (hh_51.at 4 rfl) (hh_51.at 5 rfl) (hh_51.at 6 rfl) (hh_51.at 0 rfl) (hh_51.at 7 rfl) (hh_51.at 1 rfl) (hh_51.at 8 rfl) (hh_51.2.2.2.2.2.2.2.1.sub (L1 := [(sa_, 171, 40, ca 1, (kq.sb r0)), (ea_, 172, 40, ca 1, (kq.se r0)), (ysc_2, 176, 40, ca 1, (kq.sc r0))]) [1, 2, 3] rfl) (hh_51.iv 3 rfl)
              obtain ⟨g_52, ht_53⟩ : ∃ q : jKg, q = kq.put r0 (kq.sn r0) v1_7 (kq.lf r0) (.ref checking_26) ((kq.fv r0)) (kq.sb r0) (kq.se r0) (kq.sc r0) (kq.bh r0) := ⟨_, rfl⟩
              rw [← ht_53] at hF_52
              have hh_54 := hh_51.sub (L1 := [(r0, 3, 10, .int v1_7), (r0, 3, 11, .ref checking_26), (r0, 3, 5, .ref sa_), (r0, 3, 6, .ref ea_), (r0, 3, 7, .ref ysc_2), (r0, 3, 9, .ref ybh_2), (r0, 3, 4, .int (kq.sn r0)), (r0, 3, 13, .int (kq.lf r0)), (r0, 3, 12, (kq.fv r0)), (r0, 3, 2, .ref tx_)]) [0, 1, 2, 3, 4, 5, 6, 7, 8, 9] rfl (M1 := [(checking_26, 175, nchecking_26, ca 1, nf_39), (sa_, 171, 40, ca 1, (kq.sb r0)), (ea_, 172, 40, ca 1, (kq.se r0)), (ysc_2, 176, 40, ca 1, (kq.sc r0)), (tx_, 173, 1500, ca 1, ft)]) [0, 1, 2, 3, 4] rfl (I1 := [([(3, 0), (3, 1), (3, 2), (3, 3), (3, 4), (3, 5), (3, 6), (3, 7), (3, 8), (3, 9), (3, 10), (3, 11), (3, 12), (3, 13), (3, 14), (3, 15), (3, 16)], jOw (dC, dI) G0 3 r0 s.heap), (jFdo, jDcc dC dI ca G0 (some r0) ph), (jFun, jUN dC dI ca G0 0 us rw)]) [1, 2, 4] rfl
              clear hh_51
              have hh_55 := hh_54.addI (jKD.ie hF_52)
              clear hh_54
              refine lv_iload_n hx hb dX1_keepChecked_80 rfl (lv_at hl 0 rfl) ?_
              rw [hQ]
              exact W.zret (v := 0) hx hb hr (jb_nz (Or.inl rfl)) (fun t ht hW => ⟨⟨0, (v1_7, g_52), rfl, ⟨(Or.inl rfl), by (try dsimp only); skip; (try dsimp only); have hal := hi_7_3; rw [show v1_7.toInt = pk.toInt by omega] at hal; have hal2 := hal.al hon hnn hpQ.1 (by omega) (by omega); obtain ⟨hc1, hc2⟩ := hpQ.ch hwe51; have hn9 := (hss9.resolve_left (fun q => by have q1 := q.1; omega)).2; exact ⟨by omega, jzCk.of ht_53 hwe51 rfl, Or.inr ⟨by omega, Or.inr (hal.no hon hnn hc2 (by omega) (by omega) (by by_cases q9 : pk.toInt < ps.toInt; exact Or.inr (fun e9 => hn9 ⟨by omega, by omega, hNU_39.symm.trans (hc1.trans (e9.trans (by congr 1; omega)))⟩); exact Or.inl (by omega)))⟩⟩⟩, ⟨⟨hh_55.rt (M1 := [(r0, 3, 10, .int v1_7)]) [0] rfl ht, by rw [ht]; exact hh_55.iv 1 rfl⟩, by rw [ht]; exact hh_55.2.2.2.2.2.2.2.2.sub (L1 := [(jFkd, jKD dC dI ca G0 none g_52), (jFun, jUN dC dI ca G0 0 us rw), (jFdo, jDcc dC dI ca G0 (some r0) ph)]) [0, 3, 2] rfl⟩⟩, by rw [ht]; try exact hh_55.1.1, fun q h9 hq => by rw [ht]; try exact hh_55.1.2.1 q h9 hq⟩) hh_55.1.2.2 dX1_keepChecked_81
            · skip
              have c_43' : r_42.toInt ≠ 0 := jb_eq_n (rfl) ((by decide)) c_43
              first | (have hr_42pq := hr_42p.resolve_left (by omega); clear hr_42p) | (have hr_42pq := hr_42p.resolve_right (by omega); clear hr_42p) | try clear hr_42p
              refine lv_iconst (v := 1) hx hb dX1_keepChecked_69 (by decide) ?_
              refine lv_goto (tgt := 74) hx hb dX1_keepChecked_70 (by decide) ?_
              refine lv_istore_n (lv' := [(2, .int 1), (0, .ref r0), (1, .int v1_7)]) hx hb dX1_keepChecked_74 rfl hl (by decide) rfl (fun ls hl => ?_)
              refine lv_aload_n hx hb dX1_keepChecked_75 rfl (lv_at hl 1 rfl) ?_
              refine lv_iload_n hx hb dX1_keepChecked_76 rfl (lv_at hl 2 rfl) ?_
              have hdg_56 := hh_41.iv 0 rfl
              have hdg_56_5 := hh_41.at 1 rfl
              have hdg_56_6 := hh_41.at 2 rfl
              have hdg_56_7 := hh_41.at 3 rfl
              have hdg_56_9 := hh_41.at 4 rfl
              have hh_57 := hh_41.sub (L1 := [(r0, 3, 11, .ref checking_26), (r0, 3, 5, .ref sa_), (r0, 3, 6, .ref ea_), (r0, 3, 7, .ref ysc_2), (r0, 3, 9, .ref ybh_2), (r0, 3, 4, .int (kq.sn r0)), (r0, 3, 10, .int (kq.ck r0)), (r0, 3, 13, .int (kq.lf r0)), (r0, 3, 12, (kq.fv r0)), (r0, 3, 2, .ref tx_)]) [0, 1, 2, 3, 4, 5, 6, 7, 8, 9] rfl (M1 := [(checking_26, 175, nchecking_26, ca 1, nf_39), (sa_, 171, 40, ca 1, (kq.sb r0)), (ea_, 172, 40, ca 1, (kq.se r0)), (ysc_2, 176, 40, ca 1, (kq.sc r0)), (tx_, 173, 1500, ca 1, ft)]) [0, 1, 2, 3, 4] rfl (I1 := [([(210, 0)], jQc dC dI (ca 6) ybh_2 40 (kq.bh r0)), ([(3, 0), (3, 1), (3, 2), (3, 3), (3, 4), (3, 5), (3, 6), (3, 7), (3, 8), (3, 9), (3, 10), (3, 11), (3, 12), (3, 13), (3, 14), (3, 15), (3, 16)], jOw (dC, dI) G0 3 r0 s.heap), (jFun, jUN dC dI ca G0 0 us rw), (jFdo, jDcc dC dI ca G0 (some r0) ph)]) [1, 2, 3, 4] rfl
              clear hh_41
              have hd_59 := hh_57.iv 3 rfl
              have hd_595 := hh_57.at 1 rfl
              have hd_596 := hh_57.at 2 rfl
              have hd_59o := hh_57.iv 1 rfl
              have hh_60 := hh_57.sub (L1 := [(r0, 3, 11, .ref checking_26), (r0, 3, 5, .ref sa_), (r0, 3, 6, .ref ea_), (r0, 3, 7, .ref ysc_2), (r0, 3, 9, .ref ybh_2), (r0, 3, 4, .int (kq.sn r0)), (r0, 3, 10, .int (kq.ck r0)), (r0, 3, 13, .int (kq.lf r0)), (r0, 3, 12, (kq.fv r0)), (r0, 3, 2, .ref tx_)]) [0, 1, 2, 3, 4, 5, 6, 7, 8, 9] rfl (M1 := [(checking_26, 175, nchecking_26, ca 1, nf_39), (sa_, 171, 40, ca 1, (kq.sb r0)), (ea_, 172, 40, ca 1, (kq.se r0)), (ysc_2, 176, 40, ca 1, (kq.sc r0)), (tx_, 173, 1500, ca 1, ft)]) [0, 1, 2, 3, 4] rfl (I1 := [([(210, 0)], jQc dC dI (ca 6) ybh_2 40 (kq.bh r0)), (jFun, jUN dC dI ca G0 0 us rw)]) [0, 2] rfl
              clear hh_57
              refine j7_putX hx hb hown hK hh_60 hB hAp hB3 (C := RX1) (T := TX1) (N := 17) rfl (by decide) hg_r0 (i := 10) (by decide) hly_3_10 rfl hlk_72 rfl (ty := .int) (v := .int v1_7) (by decide +kernel) rfl rfl (⟨_, rfl, by omega, by omega⟩) rfl (L1 := [(r0, 3, 11, .ref checking_26), (r0, 3, 5, .ref sa_), (r0, 3, 6, .ref ea_), (r0, 3, 7, .ref ysc_2), (r0, 3, 9, .ref ybh_2), (r0, 3, 4, .int (kq.sn r0)), (r0, 3, 13, .int (kq.lf r0)), (r0, 3, 12, (kq.fv r0)), (r0, 3, 2, .ref tx_)]) [0, 1, 2, 3, 4, 5, 7, 8, 9] rfl rfl rfl dX1_keepChecked_77 (fun H_58 locs_58 hr_58 hh_58 => ?_)
              clear hh_60
              have hd_59n := jDcc.fld hd_59 hg_r0 hr_58 hd_595 hd_596 (hh_58.at 2 rfl) (hh_58.at 3 rfl)
              have hd_59on := jOw.put hd_59o hr_58
              have hh_61 := hh_58.addI (jDcc.ie hd_59n)
              clear hh_58
              have hh_62 := hh_61.addI (jOw.ie (dC := dC) (dI := dI) (G0 := G0) (k := 3) (r := r0) (H0 := s.heap) (F := [(3, 0), (3, 1), (3, 2), (3, 3), (3, 4), (3, 5), (3, 6), (3, 7), (3, 8), (3, 9), (3, 10), (3, 11), (3, 12), (3, 13), (3, 14), (3, 15), (3, 16)]) (C := RX1) (T := TX1) (N := 17) rfl (by decide) hh_61.2.2.2.2.1 (hd_59on))
              clear hh_61
              clear hd_59 hd_59n hd_595 hd_596 hd_59o hd_59on
              have hdg_56n := jKD.fld (ca := ca) hdg_56 hg_r0 hr_58 hdg_56_5 hdg_56_6 hdg_56_7 hdg_56_9 (hh_62.at 2 rfl) (hh_62.at 3 rfl) (hh_62.at 4 rfl) (hh_62.at 5 rfl)
              have hh_63 := hh_62.addI (jKD.ie hdg_56n)
              clear hh_62
              clear hdg_56 hdg_56n hr_58 hdg_56_5 hdg_56_6 hdg_56_7 hdg_56_9
              have hF_64 := jKD.full (ca := ca) (hh_63.iv 0 rfl) hg_r0 (hh_63.at 2 rfl) (hh_63.at 3 rfl) (hh_63.at 4 rfl) (hh_63.at 5 rfl) (hh_63.at 6 rfl) (hh_63.at 0 rfl) (hh_63.at 7 rfl) (hh_63.at 1 rfl) (hh_63.at 8 rfl) (hh_63.2.2.2.2.2.2.2.1.sub (L1 := [(sa_, 171, 40, ca 1, (kq.sb r0)), (ea_, 172, 40, ca 1, (kq.se r0)), (ysc_2, 176, 40, ca 1, (kq.sc r0))]) [1, 2, 3] rfl) (hh_63.iv 3 rfl)
              obtain ⟨g_64, ht_65⟩ : ∃ q : jKg, q = kq.put r0 (kq.sn r0) v1_7 (kq.lf r0) (.ref checking_26) ((kq.fv r0)) (kq.sb r0) (kq.se r0) (kq.sc r0) (kq.bh r0) := ⟨_, rfl⟩
              rw [← ht_65] at hF_64
              have hh_66 := hh_63.sub (L1 := [(r0, 3, 10, .int v1_7), (r0, 3, 11, .ref checking_26), (r0, 3, 5, .ref sa_), (r0, 3, 6, .ref ea_), (r0, 3, 7, .ref ysc_2), (r0, 3, 9, .ref ybh_2), (r0, 3, 4, .int (kq.sn r0)), (r0, 3, 13, .int (kq.lf r0)), (r0, 3, 12, (kq.fv r0)), (r0, 3, 2, .ref tx_)]) [0, 1, 2, 3, 4, 5, 6, 7, 8, 9] rfl (M1 := [(checking_26, 175, nchecking_26, ca 1, nf_39), (sa_, 171, 40, ca 1, (kq.sb r0)), (ea_, 172, 40, ca 1, (kq.se r0)), (ysc_2, 176, 40, ca 1, (kq.sc r0)), (tx_, 173, 1500, ca 1, ft)]) [0, 1, 2, 3, 4] rfl (I1 := [([(3, 0), (3, 1), (3, 2), (3, 3), (3, 4), (3, 5), (3, 6), (3, 7), (3, 8), (3, 9), (3, 10), (3, 11), (3, 12), (3, 13), (3, 14), (3, 15), (3, 16)], jOw (dC, dI) G0 3 r0 s.heap), (jFdo, jDcc dC dI ca G0 (some r0) ph), (jFun, jUN dC dI ca G0 0 us rw)]) [1, 2, 4] rfl
              clear hh_63
              have hh_67 := hh_66.addI (jKD.ie hF_64)
              clear hh_66
              refine lv_iload_n hx hb dX1_keepChecked_80 rfl (lv_at hl 0 rfl) ?_
              rw [hQ]
              exact W.zret (v := 1) hx hb hr (jb_nz (Or.inr rfl)) (fun t ht hW => ⟨⟨1, (v1_7, g_64), rfl, ⟨(Or.inr rfl), by (try dsimp only); skip; (try dsimp only); have hal := hi_7_3; rw [show v1_7.toInt = pk.toInt by omega] at hal; have hal2 := hal.al hon hnn hpQ.1 (by omega) (by omega); obtain ⟨hc1, hc2⟩ := hpQ.ch hwe51; have hy9 := (hss9.resolve_right (fun q => by have q1 := q.1; omega)).2; exact ⟨by omega, jzCk.of ht_65 hwe51 rfl, Or.inl ⟨by omega, hal.yes hon hnn hc2 (by omega) (by omega) (by rw [← hc1, hNU_39, hy9.2.2]; congr 1; omega), by rw [hwe51]; exact fun q => nomatch q⟩⟩⟩, ⟨⟨hh_67.rt (M1 := [(r0, 3, 10, .int v1_7)]) [0] rfl ht, by rw [ht]; exact hh_67.iv 1 rfl⟩, by rw [ht]; exact hh_67.2.2.2.2.2.2.2.2.sub (L1 := [(jFkd, jKD dC dI ca G0 none g_64), (jFun, jUN dC dI ca G0 0 us rw), (jFdo, jDcc dC dI ca G0 (some r0) ph)]) [0, 3, 2] rfl⟩⟩, by rw [ht]; try exact hh_67.1.1, fun q h9 hq => by rw [ht]; try exact hh_67.1.2.1 q h9 hq⟩) hh_67.1.2.2 dX1_keepChecked_81
      · skip
        have c_8' : v1_7.toInt < (kq.ck r0).toInt := jb_ge_n (rfl) (rfl) c_8
        refine lv_aload_n hx hb dX1_keepChecked_10 rfl (lv_at hl 0 rfl) ?_
        refine j7_read hx hb hown hK (C := RX1) (T := TX1) (N := 17) rfl hly_3_9 hlk_32 (hh_7.at 3 rfl) dX1_keepChecked_11 ?_
        refine lv_iload_n hx hb dX1_keepChecked_14 rfl (lv_at hl 1 rfl) ?_
        refine j7_qaldI hx hb hK2 hh_7 hB210 2 rfl (by decide) hgbh_2 (x := v1_7.toInt) (rfl) (by omega) (hh_7.iv 1 rfl) dX1_keepChecked_15 (fun o_68 ho_68 heo_68 => ?_)
        rcases ho_68 with rfl | ⟨el_69, rfl, hg_el_69⟩
        · simp only [va_rf]
          obtain ⟨x9, e9, -⟩ := hpQ.at (by omega) (by omega) heo_68; cases e9
        · simp only [va_rf]
          refine lv_ifnull hx hb dX1_keepChecked_16 ?_
          refine lv_aload_n hx hb dX1_keepChecked_19 rfl (lv_at hl 0 rfl) ?_
          refine lv_iload_n hx hb dX1_keepChecked_20 rfl (lv_at hl 1 rfl) ?_
          refine lv_aload_n hx hb dX1_keepChecked_21 rfl (lv_at hl 0 rfl) ?_
          refine j7_read hx hb hown hK (C := RX1) (T := TX1) (N := 17) rfl hly_3_9 hlk_32 (hh_7.at 3 rfl) dX1_keepChecked_22 ?_
          refine lv_iload_n hx hb dX1_keepChecked_25 rfl (lv_at hl 1 rfl) ?_
          refine j7_qaldI hx hb hK2 hh_7 hB210 2 rfl (by decide) hgbh_2 (x := v1_7.toInt) (rfl) (by omega) (hh_7.iv 1 rfl) dX1_keepChecked_26 (fun o_70 ho_70 heo_70 => ?_)
          rcases ho_70 with rfl | ⟨el_71, rfl, hg_el_71⟩
          · simp only [va_rf]
            obtain ⟨x9, e9, -⟩ := hpQ.at (by omega) (by omega) heo_70; cases e9
          · simp only [va_rf]
            obtain rfl : el_69 = el_71 := (Option.some.inj (heo_70.trans heo_68.symm)).symm
            obtain ⟨v_73, hv_73, hh_74⟩ := hh_7.pin (C := RX9) (T := TX9) (N := 9) hB11 rfl (by decide) hg_el_69 (i := 1) (by decide) rfl
            obtain ⟨units_75, nunits_75, rfl, hg_units_75, hn_units_75⟩ := hv_73
            obtain ⟨ny_72, nk_72, na_72, nf_72, hn0_72, hn1_72, hgy_72, hnv_72, hNR_72, hNU_72⟩ := jUN.at (r := 0) (hh_74.iv 3 rfl) hg_el_71
            obtain rfl : units_75 = ny_72 := by have h9 := jf.uniq (hh_74.at 0 rfl) hn1_72; cases h9; rfl
            obtain rfl : nunits_75 = nk_72 := by have h9 := Option.some.inj (hg_units_75.symm.trans hgy_72); exact congrArg Prod.snd h9
            have hh_76 := (hh_74.more (P1 := [(el_69, 11, 0, na_72)]) (jP.cons hg_el_71 hn0_72 jP.nil)).moreM (M1 := [(units_75, 175, nunits_75, ca 1, nf_72)]) (fun q hq => by cases List.mem_singleton.mp hq; exact ⟨hg_units_75, (by show 18 ≤ 175; decide), (by show 175 < 1000; decide), hnv_72⟩)
            clear hh_74
            refine j7_read hx hb hown hK (C := RX9) (T := TX9) (N := 9) rfl hly_11_1 hlk_98 (hh_76.at 1 rfl) dX1_keepChecked_27 ?_
            have hun9 := hpQ.un (by omega) (by omega) heo_70 hNR_72
            refine va_calli (A0 := jA base) (H0 := s.heap) (va_runV (As := [.int v1_7, .ref units_75]) (rest := []) ⟨hx, hb, hml, hown, hts⟩ (uX1_isSentenceT l dC dI ca base B hB hAp hB3 hB171 hB172 hB173 hB175 G0 H_7 r0 v1_7 units_75 0 nunits_75 (kq.sn r0) sa_ ea_ tx_ nn nf_72 (kq.sb r0) (kq.se r0) ft) (cwV 2 hts (jgV (jWr_42 _ (List.mem_of_getElem? (i := 23) rfl)) (jWr_43 _ (List.mem_of_getElem? (i := 0) rfl)) (jWr_43 _ (List.mem_of_getElem? (i := 1) rfl)) (jWr_2 _ (List.mem_of_getElem? (i := 21) rfl)) (jWr_43 _ (List.mem_of_getElem? (i := 2) rfl))) rfl rfl rfl (by decide +kernel) ⟨by rw [← hR]; exact Nat.le_of_ble_eq_true rfl, by rw [← hR]; exact Nat.le_of_ble_eq_true rfl⟩) ⟨fun a U g mk q => by obtain ⟨q0, q1, q2, qK, q10, q11, q12, q13, q14, q15, q16, q17⟩ := q; exact ⟨q0, q1, q2, jG.calling g mk a qK, q10, q11, q12, q13, q14, q15, q16, q17⟩, hh_76.recv (C := RX1) (T := TX1) (N := 17) hB3 rfl (by decide) hg_r0 hK, fun U hU hW => ⟨rfl, hU, hh_76.2.1, hG.step hW hU hh_76.1, hg_r0, hg_units_75, hgsb_2, hgse_2, hg_tx_, (hh_76.2.2.1.sub (L1 := [(r0, 3, 4, .int (kq.sn r0)), (r0, 3, 5, .ref sa_), (r0, 3, 6, .ref ea_), (r0, 3, 2, .ref tx_)]) [6, 2, 3, 11] rfl), (hh_76.2.2.2.2.2.2.2.1.sub (L1 := [(units_75, 175, nunits_75, ca 1, nf_72), (sa_, 171, 40, ca 1, (kq.sb r0)), (ea_, 172, 40, ca 1, (kq.se r0)), (tx_, 173, 1500, ca 1, ft)]) [0, 1, 2, 4] rfl), ⟨(by first | omega | rfl | assumption | exact hp8b), (by first | omega | rfl | assumption | exact hp8b), (by first | omega | rfl | assumption | exact hp8b), (by first | omega | rfl | assumption | exact hp8b), (by first | omega | rfl | assumption | exact hp8b), (by first | assumption | exact hp8b | omega)⟩⟩⟩ rfl rfl hl.1 rfl (lv_room (Nat.le_of_ble_eq_true rfl)) dX1_keepChecked_30 ⟨Nat.zero_le _, Nat.zero_le _⟩) hh_76.1 (fun q _ h => h) (fun q h => h) (fun r_78 u_77 t_77 H_77 locs_77 ht_77 hvm_77 hr_78 hb_77 hz_77 hk_77 hS_77 => ?_)
            rw [ht_77] at hb_77
            obtain ⟨hb_771, hb_772, hb_773, hb_774, hb_775⟩ := hb_77
            have hh_77 : jSt (dC, dI) B base G0 G0 EX1_keepCheckedK s.heap 0 0 [(el_69, 11, 0, na_72), (el_69, 11, 1, .ref units_75), (r0, 3, 5, .ref sa_), (r0, 3, 6, .ref ea_), (r0, 3, 7, .ref ysc_2), (r0, 3, 9, .ref ybh_2), (r0, 3, 4, .int (kq.sn r0)), (r0, 3, 10, .int (kq.ck r0)), (r0, 3, 13, .int (kq.lf r0)), (r0, 3, 11, (kq.cv r0)), (r0, 3, 12, (kq.fv r0)), (r0, 3, 2, .ref tx_)] [(units_75, 175, nunits_75, ca 1, nf_72), (sa_, 171, 40, ca 1, (kq.sb r0)), (ea_, 172, 40, ca 1, (kq.se r0)), (ysc_2, 176, 40, ca 1, (kq.sc r0)), (tx_, 173, 1500, ca 1, ft)] [(jFkd, jKD dC dI ca G0 (some r0) kq), ([(210, 0)], jQc dC dI (ca 6) ybh_2 40 (kq.bh r0)), ([(3, 0), (3, 1), (3, 2), (3, 3), (3, 4), (3, 5), (3, 6), (3, 7), (3, 8), (3, 9), (3, 10), (3, 11), (3, 12), (3, 13), (3, 14), (3, 15), (3, 16)], jOw (dC, dI) G0 3 r0 s.heap), (jFun, jUN dC dI ca G0 0 us rw), (jFdo, jDcc dC dI ca G0 (some r0) ph)] H_77 locs_77 := ((hh_76.call hb_771 hb_772 hb_773 hb_774 hS_77 rfl (L1 := [(el_69, 11, 0, na_72), (el_69, 11, 1, .ref units_75), (r0, 3, 5, .ref sa_), (r0, 3, 6, .ref ea_), (r0, 3, 7, .ref ysc_2), (r0, 3, 9, .ref ybh_2), (r0, 3, 4, .int (kq.sn r0)), (r0, 3, 10, .int (kq.ck r0)), (r0, 3, 13, .int (kq.lf r0)), (r0, 3, 11, (kq.cv r0)), (r0, 3, 12, (kq.fv r0)), (r0, 3, 2, .ref tx_)]) [0, 1, 2, 3, 4, 5, 6, 7, 8, 9, 10, 11] rfl rfl (M1 := [(units_75, 175, nunits_75, ca 1, nf_72), (sa_, 171, 40, ca 1, (kq.sb r0)), (ea_, 172, 40, ca 1, (kq.se r0)), (ysc_2, 176, 40, ca 1, (kq.sc r0)), (tx_, 173, 1500, ca 1, ft)]) [0, 1, 2, 3, 4] rfl rfl (I1 := [(jFkd, jKD dC dI ca G0 (some r0) kq), ([(210, 0)], jQc dC dI (ca 6) ybh_2 40 (kq.bh r0)), ([(3, 0), (3, 1), (3, 2), (3, 3), (3, 4), (3, 5), (3, 6), (3, 7), (3, 8), (3, 9), (3, 10), (3, 11), (3, 12), (3, 13), (3, 14), (3, 15), (3, 16)], jOw (dC, dI) G0 3 r0 s.heap), (jFun, jUN dC dI ca G0 0 us rw), (jFdo, jDcc dC dI ca G0 (some r0) ph)]) [0, 1, 2, 3, 4] rfl rfl).more hb_775)
            clear hh_76 ht_77 hvm_77 hz_77 hk_77 hS_77 hb_771 hb_772 hb_773 hb_774 hb_775
            obtain ⟨hr_78b, hr_78p⟩ := hr_78
            have hsn9 := hr_78p
            have hr_78' := jb_01 hr_78b
            refine lv_if_eq (tgt := 42) hx hb dX1_keepChecked_33 (by decide) (fun c_79 => ?_) (fun c_79 => ?_)
            · skip
              have c_79' : r_78.toInt = 0 := jb_eq (rfl) ((by decide)) c_79
              first | (have hr_78pq := hr_78p.resolve_left (by omega); clear hr_78p) | (have hr_78pq := hr_78p.resolve_right (by omega); clear hr_78p) | try clear hr_78p
              refine lv_iload_n hx hb dX1_keepChecked_42 rfl (lv_at hl 1 rfl) ?_
              refine lv_aload_n hx hb dX1_keepChecked_43 rfl (lv_at hl 0 rfl) ?_
              refine j7_read hx hb hown hK (C := RX1) (T := TX1) (N := 17) rfl hly_3_10 hlk_72 (hh_77.at 7 rfl) dX1_keepChecked_44 ?_
              refine lv_icmp_ne (tgt := 73) hx hb dX1_keepChecked_47 (by decide) (fun c_80 => ?_) (fun c_80 => ?_)
              · skip
                have c_80' : v1_7.toInt ≠ (kq.ck r0).toInt := jb_ne (rfl) (rfl) c_80
                refine lv_iconst (v := 0) hx hb dX1_keepChecked_73 (by decide) ?_
                refine lv_istore_n (lv' := [(2, .int 0), (0, .ref r0), (1, .int v1_7)]) hx hb dX1_keepChecked_74 rfl hl (by decide) rfl (fun ls hl => ?_)
                refine lv_aload_n hx hb dX1_keepChecked_75 rfl (lv_at hl 1 rfl) ?_
                refine lv_iload_n hx hb dX1_keepChecked_76 rfl (lv_at hl 2 rfl) ?_
                have hdg_81 := hh_77.iv 0 rfl
                have hdg_81_5 := hh_77.at 2 rfl
                have hdg_81_6 := hh_77.at 3 rfl
                have hdg_81_7 := hh_77.at 4 rfl
                have hdg_81_9 := hh_77.at 5 rfl
                have hh_82 := hh_77.sub (L1 := [(el_69, 11, 0, na_72), (el_69, 11, 1, .ref units_75), (r0, 3, 5, .ref sa_), (r0, 3, 6, .ref ea_), (r0, 3, 7, .ref ysc_2), (r0, 3, 9, .ref ybh_2), (r0, 3, 4, .int (kq.sn r0)), (r0, 3, 10, .int (kq.ck r0)), (r0, 3, 13, .int (kq.lf r0)), (r0, 3, 11, (kq.cv r0)), (r0, 3, 12, (kq.fv r0)), (r0, 3, 2, .ref tx_)]) [0, 1, 2, 3, 4, 5, 6, 7, 8, 9, 10, 11] rfl (M1 := [(units_75, 175, nunits_75, ca 1, nf_72), (sa_, 171, 40, ca 1, (kq.sb r0)), (ea_, 172, 40, ca 1, (kq.se r0)), (ysc_2, 176, 40, ca 1, (kq.sc r0)), (tx_, 173, 1500, ca 1, ft)]) [0, 1, 2, 3, 4] rfl (I1 := [([(210, 0)], jQc dC dI (ca 6) ybh_2 40 (kq.bh r0)), ([(3, 0), (3, 1), (3, 2), (3, 3), (3, 4), (3, 5), (3, 6), (3, 7), (3, 8), (3, 9), (3, 10), (3, 11), (3, 12), (3, 13), (3, 14), (3, 15), (3, 16)], jOw (dC, dI) G0 3 r0 s.heap), (jFun, jUN dC dI ca G0 0 us rw), (jFdo, jDcc dC dI ca G0 (some r0) ph)]) [1, 2, 3, 4] rfl
                clear hh_77
                have hd_84 := hh_82.iv 3 rfl
                have hd_845 := hh_82.at 2 rfl
                have hd_846 := hh_82.at 3 rfl
                have hd_84o := hh_82.iv 1 rfl
                have hh_85 := hh_82.sub (L1 := [(el_69, 11, 0, na_72), (el_69, 11, 1, .ref units_75), (r0, 3, 5, .ref sa_), (r0, 3, 6, .ref ea_), (r0, 3, 7, .ref ysc_2), (r0, 3, 9, .ref ybh_2), (r0, 3, 4, .int (kq.sn r0)), (r0, 3, 10, .int (kq.ck r0)), (r0, 3, 13, .int (kq.lf r0)), (r0, 3, 11, (kq.cv r0)), (r0, 3, 12, (kq.fv r0)), (r0, 3, 2, .ref tx_)]) [0, 1, 2, 3, 4, 5, 6, 7, 8, 9, 10, 11] rfl (M1 := [(units_75, 175, nunits_75, ca 1, nf_72), (sa_, 171, 40, ca 1, (kq.sb r0)), (ea_, 172, 40, ca 1, (kq.se r0)), (ysc_2, 176, 40, ca 1, (kq.sc r0)), (tx_, 173, 1500, ca 1, ft)]) [0, 1, 2, 3, 4] rfl (I1 := [([(210, 0)], jQc dC dI (ca 6) ybh_2 40 (kq.bh r0)), (jFun, jUN dC dI ca G0 0 us rw)]) [0, 2] rfl
                clear hh_82
                refine j7_putX hx hb hown hK hh_85 hB hAp hB3 (C := RX1) (T := TX1) (N := 17) rfl (by decide) hg_r0 (i := 10) (by decide) hly_3_10 rfl hlk_72 rfl (ty := .int) (v := .int v1_7) (by decide +kernel) rfl rfl (⟨_, rfl, by omega, by omega⟩) rfl (L1 := [(el_69, 11, 0, na_72), (el_69, 11, 1, .ref units_75), (r0, 3, 5, .ref sa_), (r0, 3, 6, .ref ea_), (r0, 3, 7, .ref ysc_2), (r0, 3, 9, .ref ybh_2), (r0, 3, 4, .int (kq.sn r0)), (r0, 3, 13, .int (kq.lf r0)), (r0, 3, 11, (kq.cv r0)), (r0, 3, 12, (kq.fv r0)), (r0, 3, 2, .ref tx_)]) [0, 1, 2, 3, 4, 5, 6, 8, 9, 10, 11] rfl rfl rfl dX1_keepChecked_77 (fun H_83 locs_83 hr_83 hh_83 => ?_)
                clear hh_85
                have hd_84n := jDcc.fld hd_84 hg_r0 hr_83 hd_845 hd_846 (hh_83.at 3 rfl) (hh_83.at 4 rfl)
                have hd_84on := jOw.put hd_84o hr_83
                have hh_86 := hh_83.addI (jDcc.ie hd_84n)
                clear hh_83
                have hh_87 := hh_86.addI (jOw.ie (dC := dC) (dI := dI) (G0 := G0) (k := 3) (r := r0) (H0 := s.heap) (F := [(3, 0), (3, 1), (3, 2), (3, 3), (3, 4), (3, 5), (3, 6), (3, 7), (3, 8), (3, 9), (3, 10), (3, 11), (3, 12), (3, 13), (3, 14), (3, 15), (3, 16)]) (C := RX1) (T := TX1) (N := 17) rfl (by decide) hh_86.2.2.2.2.1 (hd_84on))
                clear hh_86
                clear hd_84 hd_84n hd_845 hd_846 hd_84o hd_84on
                have hdg_81n := jKD.fld (ca := ca) hdg_81 hg_r0 hr_83 hdg_81_5 hdg_81_6 hdg_81_7 hdg_81_9 (hh_87.at 3 rfl) (hh_87.at 4 rfl) (hh_87.at 5 rfl) (hh_87.at 6 rfl)
                have hh_88 := hh_87.addI (jKD.ie hdg_81n)
                clear hh_87
                clear hdg_81 hdg_81n hr_83 hdg_81_5 hdg_81_6 hdg_81_7 hdg_81_9
                have hF_89 := jKD.full (ca := ca) (hh_88.iv 0 rfl) hg_r0 (hh_88.at 3 rfl) (hh_88.at 4 rfl) (hh_88.at 5 rfl) (hh_88.at 6 rfl) (hh_88.at 7 rfl) (hh_88.at 0 rfl) (hh_88.at 8 rfl) (hh_88.at 9 rfl) (hh_88.at 10 rfl) (hh_88.2.2.2.2.2.2.2.1.sub (L1 := [(sa_, 171, 40, ca 1, (kq.sb r0)), (ea_, 172, 40, ca 1, (kq.se r0)), (ysc_2, 176, 40, ca 1, (kq.sc r0))]) [1, 2, 3] rfl) (hh_88.iv 3 rfl)
                obtain ⟨g_89, ht_90⟩ : ∃ q : jKg, q = kq.put r0 (kq.sn r0) v1_7 (kq.lf r0) ((kq.cv r0)) ((kq.fv r0)) (kq.sb r0) (kq.se r0) (kq.sc r0) (kq.bh r0) := ⟨_, rfl⟩
                rw [← ht_90] at hF_89
                have hh_91 := hh_88.sub (L1 := [(r0, 3, 10, .int v1_7), (el_69, 11, 0, na_72), (el_69, 11, 1, .ref units_75), (r0, 3, 5, .ref sa_), (r0, 3, 6, .ref ea_), (r0, 3, 7, .ref ysc_2), (r0, 3, 9, .ref ybh_2), (r0, 3, 4, .int (kq.sn r0)), (r0, 3, 13, .int (kq.lf r0)), (r0, 3, 11, (kq.cv r0)), (r0, 3, 12, (kq.fv r0)), (r0, 3, 2, .ref tx_)]) [0, 1, 2, 3, 4, 5, 6, 7, 8, 9, 10, 11] rfl (M1 := [(units_75, 175, nunits_75, ca 1, nf_72), (sa_, 171, 40, ca 1, (kq.sb r0)), (ea_, 172, 40, ca 1, (kq.se r0)), (ysc_2, 176, 40, ca 1, (kq.sc r0)), (tx_, 173, 1500, ca 1, ft)]) [0, 1, 2, 3, 4] rfl (I1 := [([(3, 0), (3, 1), (3, 2), (3, 3), (3, 4), (3, 5), (3, 6), (3, 7), (3, 8), (3, 9), (3, 10), (3, 11), (3, 12), (3, 13), (3, 14), (3, 15), (3, 16)], jOw (dC, dI) G0 3 r0 s.heap), (jFdo, jDcc dC dI ca G0 (some r0) ph), (jFun, jUN dC dI ca G0 0 us rw)]) [1, 2, 4] rfl
                clear hh_88
                have hh_92 := hh_91.addI (jKD.ie hF_89)
                clear hh_91
                refine lv_iload_n hx hb dX1_keepChecked_80 rfl (lv_at hl 0 rfl) ?_
                rw [hQ]
                exact W.zret (v := 0) hx hb hr (jb_nz (Or.inl rfl)) (fun t ht hW => ⟨⟨0, (v1_7, g_89), rfl, ⟨(Or.inl rfl), by (try dsimp only); skip; (try dsimp only); have hbr := hi_7_3.br (pk := pk.toInt) hon hnn hpQ.1 (by omega) (by omega) (by omega) (by by_cases q9 : v1_7.toInt < ps.toInt; exact Or.inr (fun e9 => (hsn9.resolve_left (fun q => by have q1 := q.1; omega)).2 ⟨by omega, by omega, hNU_72.symm.trans (hun9.trans e9)⟩); exact Or.inl (by omega)); exact ⟨by omega, jzCk.of ht_90 rfl rfl, Or.inr ⟨by omega, Or.inr hbr.2⟩⟩⟩, ⟨⟨hh_92.rt (M1 := [(r0, 3, 10, .int v1_7)]) [0] rfl ht, by rw [ht]; exact hh_92.iv 1 rfl⟩, by rw [ht]; exact hh_92.2.2.2.2.2.2.2.2.sub (L1 := [(jFkd, jKD dC dI ca G0 none g_89), (jFun, jUN dC dI ca G0 0 us rw), (jFdo, jDcc dC dI ca G0 (some r0) ph)]) [0, 3, 2] rfl⟩⟩, by rw [ht]; try exact hh_92.1.1, fun q h9 hq => by rw [ht]; try exact hh_92.1.2.1 q h9 hq⟩) hh_92.1.2.2 dX1_keepChecked_81
              · skip
                have c_80' : v1_7.toInt = (kq.ck r0).toInt := jb_ne_n (rfl) (rfl) c_80
                refine lv_aload_n hx hb dX1_keepChecked_50 rfl (lv_at hl 0 rfl) ?_
                have hwf_93 := hh_77.at 9 rfl
                have hh_94 := hh_77.sub (L1 := [(el_69, 11, 0, na_72), (el_69, 11, 1, .ref units_75), (r0, 3, 5, .ref sa_), (r0, 3, 6, .ref ea_), (r0, 3, 7, .ref ysc_2), (r0, 3, 9, .ref ybh_2), (r0, 3, 4, .int (kq.sn r0)), (r0, 3, 10, .int (kq.ck r0)), (r0, 3, 13, .int (kq.lf r0)), (r0, 3, 12, (kq.fv r0)), (r0, 3, 2, .ref tx_)]) [0, 1, 2, 3, 4, 5, 6, 7, 8, 10, 11] rfl (M1 := [(units_75, 175, nunits_75, ca 1, nf_72), (sa_, 171, 40, ca 1, (kq.sb r0)), (ea_, 172, 40, ca 1, (kq.se r0)), (ysc_2, 176, 40, ca 1, (kq.sc r0)), (tx_, 173, 1500, ca 1, ft)]) [0, 1, 2, 3, 4] rfl (I1 := [(jFkd, jKD dC dI ca G0 (some r0) kq), ([(210, 0)], jQc dC dI (ca 6) ybh_2 40 (kq.bh r0)), ([(3, 0), (3, 1), (3, 2), (3, 3), (3, 4), (3, 5), (3, 6), (3, 7), (3, 8), (3, 9), (3, 10), (3, 11), (3, 12), (3, 13), (3, 14), (3, 15), (3, 16)], jOw (dC, dI) G0 3 r0 s.heap), (jFun, jUN dC dI ca G0 0 us rw), (jFdo, jDcc dC dI ca G0 (some r0) ph)]) [0, 1, 2, 3, 4] rfl
                clear hh_77
                obtain ⟨v_95, hv_95, hh_96⟩ := hh_94.pin (C := RX1) (T := TX1) (N := 17) hB3 rfl (by decide) hg_r0 (i := 11) (by decide) rfl
                clear hh_94
                have hwe51 : (kq.cv r0) = v_95 := jf.uniq hwf_93 (hh_96.at 0 rfl)
                clear hwf_93
                rcases hv_95 with rfl | ⟨checking_97, nchecking_97, rfl, hg_checking_97, hn_checking_97⟩
                · refine j7_read hx hb hown hK (C := RX1) (T := TX1) (N := 17) rfl hly_3_11 hlk_105 (hh_96.at 0 rfl) dX1_keepChecked_51 ?_
                  refine lv_ifnullN (tgt := 73) hx hb dX1_keepChecked_54 (by decide) ?_
                  refine lv_iconst (v := 0) hx hb dX1_keepChecked_73 (by decide) ?_
                  refine lv_istore_n (lv' := [(2, .int 0), (0, .ref r0), (1, .int v1_7)]) hx hb dX1_keepChecked_74 rfl hl (by decide) rfl (fun ls hl => ?_)
                  refine lv_aload_n hx hb dX1_keepChecked_75 rfl (lv_at hl 1 rfl) ?_
                  refine lv_iload_n hx hb dX1_keepChecked_76 rfl (lv_at hl 2 rfl) ?_
                  have hdg_98 := hh_96.iv 0 rfl
                  have hdg_98_5 := hh_96.at 3 rfl
                  have hdg_98_6 := hh_96.at 4 rfl
                  have hdg_98_7 := hh_96.at 5 rfl
                  have hdg_98_9 := hh_96.at 6 rfl
                  have hh_99 := hh_96.sub (L1 := [(r0, 3, 11, .null), (el_69, 11, 0, na_72), (el_69, 11, 1, .ref units_75), (r0, 3, 5, .ref sa_), (r0, 3, 6, .ref ea_), (r0, 3, 7, .ref ysc_2), (r0, 3, 9, .ref ybh_2), (r0, 3, 4, .int (kq.sn r0)), (r0, 3, 10, .int (kq.ck r0)), (r0, 3, 13, .int (kq.lf r0)), (r0, 3, 12, (kq.fv r0)), (r0, 3, 2, .ref tx_)]) [0, 1, 2, 3, 4, 5, 6, 7, 8, 9, 10, 11] rfl (M1 := [(units_75, 175, nunits_75, ca 1, nf_72), (sa_, 171, 40, ca 1, (kq.sb r0)), (ea_, 172, 40, ca 1, (kq.se r0)), (ysc_2, 176, 40, ca 1, (kq.sc r0)), (tx_, 173, 1500, ca 1, ft)]) [0, 1, 2, 3, 4] rfl (I1 := [([(210, 0)], jQc dC dI (ca 6) ybh_2 40 (kq.bh r0)), ([(3, 0), (3, 1), (3, 2), (3, 3), (3, 4), (3, 5), (3, 6), (3, 7), (3, 8), (3, 9), (3, 10), (3, 11), (3, 12), (3, 13), (3, 14), (3, 15), (3, 16)], jOw (dC, dI) G0 3 r0 s.heap), (jFun, jUN dC dI ca G0 0 us rw), (jFdo, jDcc dC dI ca G0 (some r0) ph)]) [1, 2, 3, 4] rfl
                  clear hh_96
                  have hd_101 := hh_99.iv 3 rfl
                  have hd_1015 := hh_99.at 3 rfl
                  have hd_1016 := hh_99.at 4 rfl
                  have hd_101o := hh_99.iv 1 rfl
                  have hh_102 := hh_99.sub (L1 := [(r0, 3, 11, .null), (el_69, 11, 0, na_72), (el_69, 11, 1, .ref units_75), (r0, 3, 5, .ref sa_), (r0, 3, 6, .ref ea_), (r0, 3, 7, .ref ysc_2), (r0, 3, 9, .ref ybh_2), (r0, 3, 4, .int (kq.sn r0)), (r0, 3, 10, .int (kq.ck r0)), (r0, 3, 13, .int (kq.lf r0)), (r0, 3, 12, (kq.fv r0)), (r0, 3, 2, .ref tx_)]) [0, 1, 2, 3, 4, 5, 6, 7, 8, 9, 10, 11] rfl (M1 := [(units_75, 175, nunits_75, ca 1, nf_72), (sa_, 171, 40, ca 1, (kq.sb r0)), (ea_, 172, 40, ca 1, (kq.se r0)), (ysc_2, 176, 40, ca 1, (kq.sc r0)), (tx_, 173, 1500, ca 1, ft)]) [0, 1, 2, 3, 4] rfl (I1 := [([(210, 0)], jQc dC dI (ca 6) ybh_2 40 (kq.bh r0)), (jFun, jUN dC dI ca G0 0 us rw)]) [0, 2] rfl
                  clear hh_99
                  refine j7_putX hx hb hown hK hh_102 hB hAp hB3 (C := RX1) (T := TX1) (N := 17) rfl (by decide) hg_r0 (i := 10) (by decide) hly_3_10 rfl hlk_72 rfl (ty := .int) (v := .int v1_7) (by decide +kernel) rfl rfl (⟨_, rfl, by omega, by omega⟩) rfl (L1 := [(r0, 3, 11, .null), (el_69, 11, 0, na_72), (el_69, 11, 1, .ref units_75), (r0, 3, 5, .ref sa_), (r0, 3, 6, .ref ea_), (r0, 3, 7, .ref ysc_2), (r0, 3, 9, .ref ybh_2), (r0, 3, 4, .int (kq.sn r0)), (r0, 3, 13, .int (kq.lf r0)), (r0, 3, 12, (kq.fv r0)), (r0, 3, 2, .ref tx_)]) [0, 1, 2, 3, 4, 5, 6, 7, 9, 10, 11] rfl rfl rfl dX1_keepChecked_77 (fun H_100 locs_100 hr_100 hh_100 => ?_)
                  clear hh_102
                  have hd_101n := jDcc.fld hd_101 hg_r0 hr_100 hd_1015 hd_1016 (hh_100.at 4 rfl) (hh_100.at 5 rfl)
                  have hd_101on := jOw.put hd_101o hr_100
                  have hh_103 := hh_100.addI (jDcc.ie hd_101n)
                  clear hh_100
                  have hh_104 := hh_103.addI (jOw.ie (dC := dC) (dI := dI) (G0 := G0) (k := 3) (r := r0) (H0 := s.heap) (F := [(3, 0), (3, 1), (3, 2), (3, 3), (3, 4), (3, 5), (3, 6), (3, 7), (3, 8), (3, 9), (3, 10), (3, 11), (3, 12), (3, 13), (3, 14), (3, 15), (3, 16)]) (C := RX1) (T := TX1) (N := 17) rfl (by decide) hh_103.2.2.2.2.1 (hd_101on))
                  clear hh_103
                  clear hd_101 hd_101n hd_1015 hd_1016 hd_101o hd_101on
                  have hdg_98n := jKD.fld (ca := ca) hdg_98 hg_r0 hr_100 hdg_98_5 hdg_98_6 hdg_98_7 hdg_98_9 (hh_104.at 4 rfl) (hh_104.at 5 rfl) (hh_104.at 6 rfl) (hh_104.at 7 rfl)
                  have hh_105 := hh_104.addI (jKD.ie hdg_98n)
                  clear hh_104
                  clear hdg_98 hdg_98n hr_100 hdg_98_5 hdg_98_6 hdg_98_7 hdg_98_9
                  have hF_106 := jKD.full (ca := ca) (hh_105.iv 0 rfl) hg_r0 (hh_105.at 4 rfl) (hh_105.at 5 rfl) (hh_105.at 6 rfl) (hh_105.at 7 rfl) (hh_105.at 8 rfl) (hh_105.at 0 rfl) (hh_105.at 9 rfl) (hh_105.at 1 rfl) (hh_105.at 10 rfl) (hh_105.2.2.2.2.2.2.2.1.sub (L1 := [(sa_, 171, 40, ca 1, (kq.sb r0)), (ea_, 172, 40, ca 1, (kq.se r0)), (ysc_2, 176, 40, ca 1, (kq.sc r0))]) [1, 2, 3] rfl) (hh_105.iv 3 rfl)
                  obtain ⟨g_106, ht_107⟩ : ∃ q : jKg, q = kq.put r0 (kq.sn r0) v1_7 (kq.lf r0) .null ((kq.fv r0)) (kq.sb r0) (kq.se r0) (kq.sc r0) (kq.bh r0) := ⟨_, rfl⟩
                  rw [← ht_107] at hF_106
                  have hh_108 := hh_105.sub (L1 := [(r0, 3, 10, .int v1_7), (r0, 3, 11, .null), (el_69, 11, 0, na_72), (el_69, 11, 1, .ref units_75), (r0, 3, 5, .ref sa_), (r0, 3, 6, .ref ea_), (r0, 3, 7, .ref ysc_2), (r0, 3, 9, .ref ybh_2), (r0, 3, 4, .int (kq.sn r0)), (r0, 3, 13, .int (kq.lf r0)), (r0, 3, 12, (kq.fv r0)), (r0, 3, 2, .ref tx_)]) [0, 1, 2, 3, 4, 5, 6, 7, 8, 9, 10, 11] rfl (M1 := [(units_75, 175, nunits_75, ca 1, nf_72), (sa_, 171, 40, ca 1, (kq.sb r0)), (ea_, 172, 40, ca 1, (kq.se r0)), (ysc_2, 176, 40, ca 1, (kq.sc r0)), (tx_, 173, 1500, ca 1, ft)]) [0, 1, 2, 3, 4] rfl (I1 := [([(3, 0), (3, 1), (3, 2), (3, 3), (3, 4), (3, 5), (3, 6), (3, 7), (3, 8), (3, 9), (3, 10), (3, 11), (3, 12), (3, 13), (3, 14), (3, 15), (3, 16)], jOw (dC, dI) G0 3 r0 s.heap), (jFdo, jDcc dC dI ca G0 (some r0) ph), (jFun, jUN dC dI ca G0 0 us rw)]) [1, 2, 4] rfl
                  clear hh_105
                  have hh_109 := hh_108.addI (jKD.ie hF_106)
                  clear hh_108
                  refine lv_iload_n hx hb dX1_keepChecked_80 rfl (lv_at hl 0 rfl) ?_
                  rw [hQ]
                  exact W.zret (v := 0) hx hb hr (jb_nz (Or.inl rfl)) (fun t ht hW => ⟨⟨0, (v1_7, g_106), rfl, ⟨(Or.inl rfl), (by omega : False).elim⟩, ⟨⟨hh_109.rt (M1 := [(r0, 3, 10, .int v1_7)]) [0] rfl ht, by rw [ht]; exact hh_109.iv 1 rfl⟩, by rw [ht]; exact hh_109.2.2.2.2.2.2.2.2.sub (L1 := [(jFkd, jKD dC dI ca G0 none g_106), (jFun, jUN dC dI ca G0 0 us rw), (jFdo, jDcc dC dI ca G0 (some r0) ph)]) [0, 3, 2] rfl⟩⟩, by rw [ht]; try exact hh_109.1.1, fun q h9 hq => by rw [ht]; try exact hh_109.1.2.1 q h9 hq⟩) hh_109.1.2.2 dX1_keepChecked_81
                · refine j7_read hx hb hown hK (C := RX1) (T := TX1) (N := 17) rfl hly_3_11 hlk_105 (hh_96.at 0 rfl) dX1_keepChecked_51 ?_
                  refine lv_ifnull hx hb dX1_keepChecked_54 ?_
                  refine lv_aload_n hx hb dX1_keepChecked_57 rfl (lv_at hl 0 rfl) ?_
                  refine lv_iload_n hx hb dX1_keepChecked_58 rfl (lv_at hl 1 rfl) ?_
                  refine lv_aload_n hx hb dX1_keepChecked_59 rfl (lv_at hl 0 rfl) ?_
                  refine j7_read hx hb hown hK (C := RX1) (T := TX1) (N := 17) rfl hly_3_11 hlk_105 (hh_96.at 0 rfl) dX1_keepChecked_60 ?_
                  obtain ⟨nf_110, hnv_110, hNU_110⟩ := jUN.un (r := 0) (hh_96.iv 3 rfl) hg_checking_97
                  have hh_111 := hh_96.moreM (M1 := [(checking_97, 175, nchecking_97, ca 1, nf_110)]) (fun q hq => by cases List.mem_singleton.mp hq; exact ⟨hg_checking_97, (by show 18 ≤ 175; decide), (by show 175 < 1000; decide), hnv_110⟩)
                  clear hh_96
                  refine va_calli (A0 := jA base) (H0 := s.heap) (va_runV (As := [.int v1_7, .ref checking_97]) (rest := []) ⟨hx, hb, hml, hown, hts⟩ (uX1_isSentenceT l dC dI ca base B hB hAp hB3 hB171 hB172 hB173 hB175 G0 H_77 r0 v1_7 checking_97 0 nchecking_97 (kq.sn r0) sa_ ea_ tx_ nn nf_110 (kq.sb r0) (kq.se r0) ft) (cwV 2 hts (jgV (jWr_42 _ (List.mem_of_getElem? (i := 23) rfl)) (jWr_43 _ (List.mem_of_getElem? (i := 0) rfl)) (jWr_43 _ (List.mem_of_getElem? (i := 1) rfl)) (jWr_2 _ (List.mem_of_getElem? (i := 21) rfl)) (jWr_43 _ (List.mem_of_getElem? (i := 2) rfl))) rfl rfl rfl (by decide +kernel) ⟨by rw [← hR]; exact Nat.le_of_ble_eq_true rfl, by rw [← hR]; exact Nat.le_of_ble_eq_true rfl⟩) ⟨fun a U g mk q => by obtain ⟨q0, q1, q2, qK, q10, q11, q12, q13, q14, q15, q16, q17⟩ := q; exact ⟨q0, q1, q2, jG.calling g mk a qK, q10, q11, q12, q13, q14, q15, q16, q17⟩, hh_111.recv (C := RX1) (T := TX1) (N := 17) hB3 rfl (by decide) hg_r0 hK, fun U hU hW => ⟨rfl, hU, hh_111.2.1, hG.step hW hU hh_111.1, hg_r0, hg_checking_97, hgsb_2, hgse_2, hg_tx_, (hh_111.2.2.1.sub (L1 := [(r0, 3, 4, .int (kq.sn r0)), (r0, 3, 5, .ref sa_), (r0, 3, 6, .ref ea_), (r0, 3, 2, .ref tx_)]) [7, 3, 4, 11] rfl), (hh_111.2.2.2.2.2.2.2.1.sub (L1 := [(checking_97, 175, nchecking_97, ca 1, nf_110), (sa_, 171, 40, ca 1, (kq.sb r0)), (ea_, 172, 40, ca 1, (kq.se r0)), (tx_, 173, 1500, ca 1, ft)]) [0, 2, 3, 5] rfl), ⟨(by first | omega | rfl | assumption | exact hp8b), (by first | omega | rfl | assumption | exact hp8b), (by first | omega | rfl | assumption | exact hp8b), (by first | omega | rfl | assumption | exact hp8b), (by first | omega | rfl | assumption | exact hp8b), (by first | assumption | exact hp8b | omega)⟩⟩⟩ rfl rfl hl.1 rfl (lv_room (Nat.le_of_ble_eq_true rfl)) dX1_keepChecked_63 ⟨Nat.zero_le _, Nat.zero_le _⟩) hh_111.1 (fun q _ h => h) (fun q h => h) (fun r_113 u_112 t_112 H_112 locs_112 ht_112 hvm_112 hr_113 hb_112 hz_112 hk_112 hS_112 => ?_)
                  rw [ht_112] at hb_112
                  obtain ⟨hb_1121, hb_1122, hb_1123, hb_1124, hb_1125⟩ := hb_112
                  have hh_112 : jSt (dC, dI) B base G0 G0 EX1_keepCheckedK s.heap 0 0 [(r0, 3, 11, .ref checking_97), (el_69, 11, 0, na_72), (el_69, 11, 1, .ref units_75), (r0, 3, 5, .ref sa_), (r0, 3, 6, .ref ea_), (r0, 3, 7, .ref ysc_2), (r0, 3, 9, .ref ybh_2), (r0, 3, 4, .int (kq.sn r0)), (r0, 3, 10, .int (kq.ck r0)), (r0, 3, 13, .int (kq.lf r0)), (r0, 3, 12, (kq.fv r0)), (r0, 3, 2, .ref tx_)] [(checking_97, 175, nchecking_97, ca 1, nf_110), (units_75, 175, nunits_75, ca 1, nf_72), (sa_, 171, 40, ca 1, (kq.sb r0)), (ea_, 172, 40, ca 1, (kq.se r0)), (ysc_2, 176, 40, ca 1, (kq.sc r0)), (tx_, 173, 1500, ca 1, ft)] [(jFkd, jKD dC dI ca G0 (some r0) kq), ([(210, 0)], jQc dC dI (ca 6) ybh_2 40 (kq.bh r0)), ([(3, 0), (3, 1), (3, 2), (3, 3), (3, 4), (3, 5), (3, 6), (3, 7), (3, 8), (3, 9), (3, 10), (3, 11), (3, 12), (3, 13), (3, 14), (3, 15), (3, 16)], jOw (dC, dI) G0 3 r0 s.heap), (jFun, jUN dC dI ca G0 0 us rw), (jFdo, jDcc dC dI ca G0 (some r0) ph)] H_112 locs_112 := ((hh_111.call hb_1121 hb_1122 hb_1123 hb_1124 hS_112 rfl (L1 := [(r0, 3, 11, .ref checking_97), (el_69, 11, 0, na_72), (el_69, 11, 1, .ref units_75), (r0, 3, 5, .ref sa_), (r0, 3, 6, .ref ea_), (r0, 3, 7, .ref ysc_2), (r0, 3, 9, .ref ybh_2), (r0, 3, 4, .int (kq.sn r0)), (r0, 3, 10, .int (kq.ck r0)), (r0, 3, 13, .int (kq.lf r0)), (r0, 3, 12, (kq.fv r0)), (r0, 3, 2, .ref tx_)]) [0, 1, 2, 3, 4, 5, 6, 7, 8, 9, 10, 11] rfl rfl (M1 := [(checking_97, 175, nchecking_97, ca 1, nf_110), (units_75, 175, nunits_75, ca 1, nf_72), (sa_, 171, 40, ca 1, (kq.sb r0)), (ea_, 172, 40, ca 1, (kq.se r0)), (ysc_2, 176, 40, ca 1, (kq.sc r0)), (tx_, 173, 1500, ca 1, ft)]) [0, 1, 2, 3, 4, 5] rfl rfl (I1 := [(jFkd, jKD dC dI ca G0 (some r0) kq), ([(210, 0)], jQc dC dI (ca 6) ybh_2 40 (kq.bh r0)), ([(3, 0), (3, 1), (3, 2), (3, 3), (3, 4), (3, 5), (3, 6), (3, 7), (3, 8), (3, 9), (3, 10), (3, 11), (3, 12), (3, 13), (3, 14), (3, 15), (3, 16)], jOw (dC, dI) G0 3 r0 s.heap), (jFun, jUN dC dI ca G0 0 us rw), (jFdo, jDcc dC dI ca G0 (some r0) ph)]) [0, 1, 2, 3, 4] rfl rfl).more hb_1125)
                  clear hh_111 ht_112 hvm_112 hz_112 hk_112 hS_112 hb_1121 hb_1122 hb_1123 hb_1124 hb_1125
                  obtain ⟨hr_113b, hr_113p⟩ := hr_113
                  have hss9 := hr_113p
                  have hr_113' := jb_01 hr_113b
                  refine lv_if_eq (tgt := 73) hx hb dX1_keepChecked_66 (by decide) (fun c_114 => ?_) (fun c_114 => ?_)
                  · skip
                    have c_114' : r_113.toInt = 0 := jb_eq (rfl) ((by decide)) c_114
                    first | (have hr_113pq := hr_113p.resolve_left (by omega); clear hr_113p) | (have hr_113pq := hr_113p.resolve_right (by omega); clear hr_113p) | try clear hr_113p
                    refine lv_iconst (v := 0) hx hb dX1_keepChecked_73 (by decide) ?_
                    refine lv_istore_n (lv' := [(2, .int 0), (0, .ref r0), (1, .int v1_7)]) hx hb dX1_keepChecked_74 rfl hl (by decide) rfl (fun ls hl => ?_)
                    refine lv_aload_n hx hb dX1_keepChecked_75 rfl (lv_at hl 1 rfl) ?_
                    refine lv_iload_n hx hb dX1_keepChecked_76 rfl (lv_at hl 2 rfl) ?_
                    have hdg_115 := hh_112.iv 0 rfl
                    have hdg_115_5 := hh_112.at 3 rfl
                    have hdg_115_6 := hh_112.at 4 rfl
                    have hdg_115_7 := hh_112.at 5 rfl
                    have hdg_115_9 := hh_112.at 6 rfl
                    have hh_116 := hh_112.sub (L1 := [(r0, 3, 11, .ref checking_97), (el_69, 11, 0, na_72), (el_69, 11, 1, .ref units_75), (r0, 3, 5, .ref sa_), (r0, 3, 6, .ref ea_), (r0, 3, 7, .ref ysc_2), (r0, 3, 9, .ref ybh_2), (r0, 3, 4, .int (kq.sn r0)), (r0, 3, 10, .int (kq.ck r0)), (r0, 3, 13, .int (kq.lf r0)), (r0, 3, 12, (kq.fv r0)), (r0, 3, 2, .ref tx_)]) [0, 1, 2, 3, 4, 5, 6, 7, 8, 9, 10, 11] rfl (M1 := [(checking_97, 175, nchecking_97, ca 1, nf_110), (units_75, 175, nunits_75, ca 1, nf_72), (sa_, 171, 40, ca 1, (kq.sb r0)), (ea_, 172, 40, ca 1, (kq.se r0)), (ysc_2, 176, 40, ca 1, (kq.sc r0)), (tx_, 173, 1500, ca 1, ft)]) [0, 1, 2, 3, 4, 5] rfl (I1 := [([(210, 0)], jQc dC dI (ca 6) ybh_2 40 (kq.bh r0)), ([(3, 0), (3, 1), (3, 2), (3, 3), (3, 4), (3, 5), (3, 6), (3, 7), (3, 8), (3, 9), (3, 10), (3, 11), (3, 12), (3, 13), (3, 14), (3, 15), (3, 16)], jOw (dC, dI) G0 3 r0 s.heap), (jFun, jUN dC dI ca G0 0 us rw), (jFdo, jDcc dC dI ca G0 (some r0) ph)]) [1, 2, 3, 4] rfl
                    clear hh_112
                    have hd_118 := hh_116.iv 3 rfl
                    have hd_1185 := hh_116.at 3 rfl
                    have hd_1186 := hh_116.at 4 rfl
                    have hd_118o := hh_116.iv 1 rfl
                    have hh_119 := hh_116.sub (L1 := [(r0, 3, 11, .ref checking_97), (el_69, 11, 0, na_72), (el_69, 11, 1, .ref units_75), (r0, 3, 5, .ref sa_), (r0, 3, 6, .ref ea_), (r0, 3, 7, .ref ysc_2), (r0, 3, 9, .ref ybh_2), (r0, 3, 4, .int (kq.sn r0)), (r0, 3, 10, .int (kq.ck r0)), (r0, 3, 13, .int (kq.lf r0)), (r0, 3, 12, (kq.fv r0)), (r0, 3, 2, .ref tx_)]) [0, 1, 2, 3, 4, 5, 6, 7, 8, 9, 10, 11] rfl (M1 := [(checking_97, 175, nchecking_97, ca 1, nf_110), (units_75, 175, nunits_75, ca 1, nf_72), (sa_, 171, 40, ca 1, (kq.sb r0)), (ea_, 172, 40, ca 1, (kq.se r0)), (ysc_2, 176, 40, ca 1, (kq.sc r0)), (tx_, 173, 1500, ca 1, ft)]) [0, 1, 2, 3, 4, 5] rfl (I1 := [([(210, 0)], jQc dC dI (ca 6) ybh_2 40 (kq.bh r0)), (jFun, jUN dC dI ca G0 0 us rw)]) [0, 2] rfl
                    clear hh_116
                    refine j7_putX hx hb hown hK hh_119 hB hAp hB3 (C := RX1) (T := TX1) (N := 17) rfl (by decide) hg_r0 (i := 10) (by decide) hly_3_10 rfl hlk_72 rfl (ty := .int) (v := .int v1_7) (by decide +kernel) rfl rfl (⟨_, rfl, by omega, by omega⟩) rfl (L1 := [(r0, 3, 11, .ref checking_97), (el_69, 11, 0, na_72), (el_69, 11, 1, .ref units_75), (r0, 3, 5, .ref sa_), (r0, 3, 6, .ref ea_), (r0, 3, 7, .ref ysc_2), (r0, 3, 9, .ref ybh_2), (r0, 3, 4, .int (kq.sn r0)), (r0, 3, 13, .int (kq.lf r0)), (r0, 3, 12, (kq.fv r0)), (r0, 3, 2, .ref tx_)]) [0, 1, 2, 3, 4, 5, 6, 7, 9, 10, 11] rfl rfl rfl dX1_keepChecked_77 (fun H_117 locs_117 hr_117 hh_117 => ?_)
                    clear hh_119
                    have hd_118n := jDcc.fld hd_118 hg_r0 hr_117 hd_1185 hd_1186 (hh_117.at 4 rfl) (hh_117.at 5 rfl)
                    have hd_118on := jOw.put hd_118o hr_117
                    have hh_120 := hh_117.addI (jDcc.ie hd_118n)
                    clear hh_117
                    have hh_121 := hh_120.addI (jOw.ie (dC := dC) (dI := dI) (G0 := G0) (k := 3) (r := r0) (H0 := s.heap) (F := [(3, 0), (3, 1), (3, 2), (3, 3), (3, 4), (3, 5), (3, 6), (3, 7), (3, 8), (3, 9), (3, 10), (3, 11), (3, 12), (3, 13), (3, 14), (3, 15), (3, 16)]) (C := RX1) (T := TX1) (N := 17) rfl (by decide) hh_120.2.2.2.2.1 (hd_118on))
                    clear hh_120
                    clear hd_118 hd_118n hd_1185 hd_1186 hd_118o hd_118on
                    have hdg_115n := jKD.fld (ca := ca) hdg_115 hg_r0 hr_117 hdg_115_5 hdg_115_6 hdg_115_7 hdg_115_9 (hh_121.at 4 rfl) (hh_121.at 5 rfl) (hh_121.at 6 rfl) (hh_121.at 7 rfl)
                    have hh_122 := hh_121.addI (jKD.ie hdg_115n)
                    clear hh_121
                    clear hdg_115 hdg_115n hr_117 hdg_115_5 hdg_115_6 hdg_115_7 hdg_115_9
                    have hF_123 := jKD.full (ca := ca) (hh_122.iv 0 rfl) hg_r0 (hh_122.at 4 rfl) (hh_122.at 5 rfl) (hh_122.at 6 rfl) (hh_122.at 7 rfl) (hh_122.at 8 rfl) (hh_122.at 0 rfl) (hh_122.at 9 rfl) (hh_122.at 1 rfl) (hh_122.at 10 rfl) (hh_122.2.2.2.2.2.2.2.1.sub (L1 := [(sa_, 171, 40, ca 1, (kq.sb r0)), (ea_, 172, 40, ca 1, (kq.se r0)), (ysc_2, 176, 40, ca 1, (kq.sc r0))]) [2, 3, 4] rfl) (hh_122.iv 3 rfl)
                    obtain ⟨g_123, ht_124⟩ : ∃ q : jKg, q = kq.put r0 (kq.sn r0) v1_7 (kq.lf r0) (.ref checking_97) ((kq.fv r0)) (kq.sb r0) (kq.se r0) (kq.sc r0) (kq.bh r0) := ⟨_, rfl⟩
                    rw [← ht_124] at hF_123
                    have hh_125 := hh_122.sub (L1 := [(r0, 3, 10, .int v1_7), (r0, 3, 11, .ref checking_97), (el_69, 11, 0, na_72), (el_69, 11, 1, .ref units_75), (r0, 3, 5, .ref sa_), (r0, 3, 6, .ref ea_), (r0, 3, 7, .ref ysc_2), (r0, 3, 9, .ref ybh_2), (r0, 3, 4, .int (kq.sn r0)), (r0, 3, 13, .int (kq.lf r0)), (r0, 3, 12, (kq.fv r0)), (r0, 3, 2, .ref tx_)]) [0, 1, 2, 3, 4, 5, 6, 7, 8, 9, 10, 11] rfl (M1 := [(checking_97, 175, nchecking_97, ca 1, nf_110), (units_75, 175, nunits_75, ca 1, nf_72), (sa_, 171, 40, ca 1, (kq.sb r0)), (ea_, 172, 40, ca 1, (kq.se r0)), (ysc_2, 176, 40, ca 1, (kq.sc r0)), (tx_, 173, 1500, ca 1, ft)]) [0, 1, 2, 3, 4, 5] rfl (I1 := [([(3, 0), (3, 1), (3, 2), (3, 3), (3, 4), (3, 5), (3, 6), (3, 7), (3, 8), (3, 9), (3, 10), (3, 11), (3, 12), (3, 13), (3, 14), (3, 15), (3, 16)], jOw (dC, dI) G0 3 r0 s.heap), (jFdo, jDcc dC dI ca G0 (some r0) ph), (jFun, jUN dC dI ca G0 0 us rw)]) [1, 2, 4] rfl
                    clear hh_122
                    have hh_126 := hh_125.addI (jKD.ie hF_123)
                    clear hh_125
                    refine lv_iload_n hx hb dX1_keepChecked_80 rfl (lv_at hl 0 rfl) ?_
                    rw [hQ]
                    exact W.zret (v := 0) hx hb hr (jb_nz (Or.inl rfl)) (fun t ht hW => ⟨⟨0, (v1_7, g_123), rfl, ⟨(Or.inl rfl), (by omega : False).elim⟩, ⟨⟨hh_126.rt (M1 := [(r0, 3, 10, .int v1_7)]) [0] rfl ht, by rw [ht]; exact hh_126.iv 1 rfl⟩, by rw [ht]; exact hh_126.2.2.2.2.2.2.2.2.sub (L1 := [(jFkd, jKD dC dI ca G0 none g_123), (jFun, jUN dC dI ca G0 0 us rw), (jFdo, jDcc dC dI ca G0 (some r0) ph)]) [0, 3, 2] rfl⟩⟩, by rw [ht]; try exact hh_126.1.1, fun q h9 hq => by rw [ht]; try exact hh_126.1.2.1 q h9 hq⟩) hh_126.1.2.2 dX1_keepChecked_81
                  · skip
                    have c_114' : r_113.toInt ≠ 0 := jb_eq_n (rfl) ((by decide)) c_114
                    first | (have hr_113pq := hr_113p.resolve_left (by omega); clear hr_113p) | (have hr_113pq := hr_113p.resolve_right (by omega); clear hr_113p) | try clear hr_113p
                    refine lv_iconst (v := 1) hx hb dX1_keepChecked_69 (by decide) ?_
                    refine lv_goto (tgt := 74) hx hb dX1_keepChecked_70 (by decide) ?_
                    refine lv_istore_n (lv' := [(2, .int 1), (0, .ref r0), (1, .int v1_7)]) hx hb dX1_keepChecked_74 rfl hl (by decide) rfl (fun ls hl => ?_)
                    refine lv_aload_n hx hb dX1_keepChecked_75 rfl (lv_at hl 1 rfl) ?_
                    refine lv_iload_n hx hb dX1_keepChecked_76 rfl (lv_at hl 2 rfl) ?_
                    have hdg_127 := hh_112.iv 0 rfl
                    have hdg_127_5 := hh_112.at 3 rfl
                    have hdg_127_6 := hh_112.at 4 rfl
                    have hdg_127_7 := hh_112.at 5 rfl
                    have hdg_127_9 := hh_112.at 6 rfl
                    have hh_128 := hh_112.sub (L1 := [(r0, 3, 11, .ref checking_97), (el_69, 11, 0, na_72), (el_69, 11, 1, .ref units_75), (r0, 3, 5, .ref sa_), (r0, 3, 6, .ref ea_), (r0, 3, 7, .ref ysc_2), (r0, 3, 9, .ref ybh_2), (r0, 3, 4, .int (kq.sn r0)), (r0, 3, 10, .int (kq.ck r0)), (r0, 3, 13, .int (kq.lf r0)), (r0, 3, 12, (kq.fv r0)), (r0, 3, 2, .ref tx_)]) [0, 1, 2, 3, 4, 5, 6, 7, 8, 9, 10, 11] rfl (M1 := [(checking_97, 175, nchecking_97, ca 1, nf_110), (units_75, 175, nunits_75, ca 1, nf_72), (sa_, 171, 40, ca 1, (kq.sb r0)), (ea_, 172, 40, ca 1, (kq.se r0)), (ysc_2, 176, 40, ca 1, (kq.sc r0)), (tx_, 173, 1500, ca 1, ft)]) [0, 1, 2, 3, 4, 5] rfl (I1 := [([(210, 0)], jQc dC dI (ca 6) ybh_2 40 (kq.bh r0)), ([(3, 0), (3, 1), (3, 2), (3, 3), (3, 4), (3, 5), (3, 6), (3, 7), (3, 8), (3, 9), (3, 10), (3, 11), (3, 12), (3, 13), (3, 14), (3, 15), (3, 16)], jOw (dC, dI) G0 3 r0 s.heap), (jFun, jUN dC dI ca G0 0 us rw), (jFdo, jDcc dC dI ca G0 (some r0) ph)]) [1, 2, 3, 4] rfl
                    clear hh_112
                    have hd_130 := hh_128.iv 3 rfl
                    have hd_1305 := hh_128.at 3 rfl
                    have hd_1306 := hh_128.at 4 rfl
                    have hd_130o := hh_128.iv 1 rfl
                    have hh_131 := hh_128.sub (L1 := [(r0, 3, 11, .ref checking_97), (el_69, 11, 0, na_72), (el_69, 11, 1, .ref units_75), (r0, 3, 5, .ref sa_), (r0, 3, 6, .ref ea_), (r0, 3, 7, .ref ysc_2), (r0, 3, 9, .ref ybh_2), (r0, 3, 4, .int (kq.sn r0)), (r0, 3, 10, .int (kq.ck r0)), (r0, 3, 13, .int (kq.lf r0)), (r0, 3, 12, (kq.fv r0)), (r0, 3, 2, .ref tx_)]) [0, 1, 2, 3, 4, 5, 6, 7, 8, 9, 10, 11] rfl (M1 := [(checking_97, 175, nchecking_97, ca 1, nf_110), (units_75, 175, nunits_75, ca 1, nf_72), (sa_, 171, 40, ca 1, (kq.sb r0)), (ea_, 172, 40, ca 1, (kq.se r0)), (ysc_2, 176, 40, ca 1, (kq.sc r0)), (tx_, 173, 1500, ca 1, ft)]) [0, 1, 2, 3, 4, 5] rfl (I1 := [([(210, 0)], jQc dC dI (ca 6) ybh_2 40 (kq.bh r0)), (jFun, jUN dC dI ca G0 0 us rw)]) [0, 2] rfl
                    clear hh_128
                    refine j7_putX hx hb hown hK hh_131 hB hAp hB3 (C := RX1) (T := TX1) (N := 17) rfl (by decide) hg_r0 (i := 10) (by decide) hly_3_10 rfl hlk_72 rfl (ty := .int) (v := .int v1_7) (by decide +kernel) rfl rfl (⟨_, rfl, by omega, by omega⟩) rfl (L1 := [(r0, 3, 11, .ref checking_97), (el_69, 11, 0, na_72), (el_69, 11, 1, .ref units_75), (r0, 3, 5, .ref sa_), (r0, 3, 6, .ref ea_), (r0, 3, 7, .ref ysc_2), (r0, 3, 9, .ref ybh_2), (r0, 3, 4, .int (kq.sn r0)), (r0, 3, 13, .int (kq.lf r0)), (r0, 3, 12, (kq.fv r0)), (r0, 3, 2, .ref tx_)]) [0, 1, 2, 3, 4, 5, 6, 7, 9, 10, 11] rfl rfl rfl dX1_keepChecked_77 (fun H_129 locs_129 hr_129 hh_129 => ?_)
                    clear hh_131
                    have hd_130n := jDcc.fld hd_130 hg_r0 hr_129 hd_1305 hd_1306 (hh_129.at 4 rfl) (hh_129.at 5 rfl)
                    have hd_130on := jOw.put hd_130o hr_129
                    have hh_132 := hh_129.addI (jDcc.ie hd_130n)
                    clear hh_129
                    have hh_133 := hh_132.addI (jOw.ie (dC := dC) (dI := dI) (G0 := G0) (k := 3) (r := r0) (H0 := s.heap) (F := [(3, 0), (3, 1), (3, 2), (3, 3), (3, 4), (3, 5), (3, 6), (3, 7), (3, 8), (3, 9), (3, 10), (3, 11), (3, 12), (3, 13), (3, 14), (3, 15), (3, 16)]) (C := RX1) (T := TX1) (N := 17) rfl (by decide) hh_132.2.2.2.2.1 (hd_130on))
                    clear hh_132
                    clear hd_130 hd_130n hd_1305 hd_1306 hd_130o hd_130on
                    have hdg_127n := jKD.fld (ca := ca) hdg_127 hg_r0 hr_129 hdg_127_5 hdg_127_6 hdg_127_7 hdg_127_9 (hh_133.at 4 rfl) (hh_133.at 5 rfl) (hh_133.at 6 rfl) (hh_133.at 7 rfl)
                    have hh_134 := hh_133.addI (jKD.ie hdg_127n)
                    clear hh_133
                    clear hdg_127 hdg_127n hr_129 hdg_127_5 hdg_127_6 hdg_127_7 hdg_127_9
                    have hF_135 := jKD.full (ca := ca) (hh_134.iv 0 rfl) hg_r0 (hh_134.at 4 rfl) (hh_134.at 5 rfl) (hh_134.at 6 rfl) (hh_134.at 7 rfl) (hh_134.at 8 rfl) (hh_134.at 0 rfl) (hh_134.at 9 rfl) (hh_134.at 1 rfl) (hh_134.at 10 rfl) (hh_134.2.2.2.2.2.2.2.1.sub (L1 := [(sa_, 171, 40, ca 1, (kq.sb r0)), (ea_, 172, 40, ca 1, (kq.se r0)), (ysc_2, 176, 40, ca 1, (kq.sc r0))]) [2, 3, 4] rfl) (hh_134.iv 3 rfl)
                    obtain ⟨g_135, ht_136⟩ : ∃ q : jKg, q = kq.put r0 (kq.sn r0) v1_7 (kq.lf r0) (.ref checking_97) ((kq.fv r0)) (kq.sb r0) (kq.se r0) (kq.sc r0) (kq.bh r0) := ⟨_, rfl⟩
                    rw [← ht_136] at hF_135
                    have hh_137 := hh_134.sub (L1 := [(r0, 3, 10, .int v1_7), (r0, 3, 11, .ref checking_97), (el_69, 11, 0, na_72), (el_69, 11, 1, .ref units_75), (r0, 3, 5, .ref sa_), (r0, 3, 6, .ref ea_), (r0, 3, 7, .ref ysc_2), (r0, 3, 9, .ref ybh_2), (r0, 3, 4, .int (kq.sn r0)), (r0, 3, 13, .int (kq.lf r0)), (r0, 3, 12, (kq.fv r0)), (r0, 3, 2, .ref tx_)]) [0, 1, 2, 3, 4, 5, 6, 7, 8, 9, 10, 11] rfl (M1 := [(checking_97, 175, nchecking_97, ca 1, nf_110), (units_75, 175, nunits_75, ca 1, nf_72), (sa_, 171, 40, ca 1, (kq.sb r0)), (ea_, 172, 40, ca 1, (kq.se r0)), (ysc_2, 176, 40, ca 1, (kq.sc r0)), (tx_, 173, 1500, ca 1, ft)]) [0, 1, 2, 3, 4, 5] rfl (I1 := [([(3, 0), (3, 1), (3, 2), (3, 3), (3, 4), (3, 5), (3, 6), (3, 7), (3, 8), (3, 9), (3, 10), (3, 11), (3, 12), (3, 13), (3, 14), (3, 15), (3, 16)], jOw (dC, dI) G0 3 r0 s.heap), (jFdo, jDcc dC dI ca G0 (some r0) ph), (jFun, jUN dC dI ca G0 0 us rw)]) [1, 2, 4] rfl
                    clear hh_134
                    have hh_138 := hh_137.addI (jKD.ie hF_135)
                    clear hh_137
                    refine lv_iload_n hx hb dX1_keepChecked_80 rfl (lv_at hl 0 rfl) ?_
                    rw [hQ]
                    exact W.zret (v := 1) hx hb hr (jb_nz (Or.inr rfl)) (fun t ht hW => ⟨⟨1, (v1_7, g_135), rfl, ⟨(Or.inr rfl), (by omega : False).elim⟩, ⟨⟨hh_138.rt (M1 := [(r0, 3, 10, .int v1_7)]) [0] rfl ht, by rw [ht]; exact hh_138.iv 1 rfl⟩, by rw [ht]; exact hh_138.2.2.2.2.2.2.2.2.sub (L1 := [(jFkd, jKD dC dI ca G0 none g_135), (jFun, jUN dC dI ca G0 0 us rw), (jFdo, jDcc dC dI ca G0 (some r0) ph)]) [0, 3, 2] rfl⟩⟩, by rw [ht]; try exact hh_138.1.1, fun q h9 hq => by rw [ht]; try exact hh_138.1.2.1 q h9 hq⟩) hh_138.1.2.2 dX1_keepChecked_81
            · skip
              have c_79' : r_78.toInt ≠ 0 := jb_eq_n (rfl) ((by decide)) c_79
              first | (have hr_78pq := hr_78p.resolve_left (by omega); clear hr_78p) | (have hr_78pq := hr_78p.resolve_right (by omega); clear hr_78p) | try clear hr_78p
              obtain ⟨z_139, ez_139⟩ : ∃ y : Int32, y = v1_7 + 1 := ⟨_, rfl⟩
              refine lv_iinc (v := z_139) (lv' := [(1, .int z_139), (0, .ref r0)]) hx hb dX1_keepChecked_36 hl (k := 1) rfl (by rw [ez_139]; rfl) (by decide) rfl (fun ls hl => ?_)
              have hz_139 : z_139.toInt = v1_7.toInt + 1 := by rw [ez_139]; exact jb_iadd2 (rfl) (by decide) (by omega)
              refine lv_goto (tgt := 2) hx hb dX1_keepChecked_39 (by decide) ?_
              exact L2 z_139 _ _ (hh_77.sub (L1 := [(r0, 3, 5, .ref sa_), (r0, 3, 6, .ref ea_), (r0, 3, 7, .ref ysc_2), (r0, 3, 9, .ref ybh_2), (r0, 3, 4, .int (kq.sn r0)), (r0, 3, 10, .int (kq.ck r0)), (r0, 3, 13, .int (kq.lf r0)), (r0, 3, 11, (kq.cv r0)), (r0, 3, 12, (kq.fv r0)), (r0, 3, 2, .ref tx_)]) [2, 3, 4, 5, 6, 7, 8, 9, 10, 11] rfl (M1 := [(sa_, 171, 40, ca 1, (kq.sb r0)), (ea_, 172, 40, ca 1, (kq.se r0)), (ysc_2, 176, 40, ca 1, (kq.sc r0)), (tx_, 173, 1500, ca 1, ft)]) [1, 2, 3, 4] rfl (I1 := [(jFkd, jKD dC dI ca G0 (some r0) kq), ([(210, 0)], jQc dC dI (ca 6) ybh_2 40 (kq.bh r0)), ([(3, 0), (3, 1), (3, 2), (3, 3), (3, 4), (3, 5), (3, 6), (3, 7), (3, 8), (3, 9), (3, 10), (3, 11), (3, 12), (3, 13), (3, 14), (3, 15), (3, 16)], jOw (dC, dI) G0 3 r0 s.heap), (jFun, jUN dC dI ca G0 0 us rw), (jFdo, jDcc dC dI ca G0 (some r0) ph)]) [0, 1, 2, 3, 4] rfl) (⟨by omega, by omega, by omega, hi_7_3.nx (hun9.symm.trans (hNU_72.trans (hsn9.resolve_right (fun q => by have q1 := q.1; omega)).2.2.2)) (by omega)⟩) (by omega) _ (lv_sub hl [1, 0] rfl)
  exact L2 (pk.toInt - (0 : Int32).toInt : Int).toNat.succ 0 _ _ hh_6 (⟨by omega, by omega, by omega, jzSm.st (by omega)⟩) (by omega) _ (lv_sub hl [1, 0] rfl)
end
