section
def EX11_batchP : List (Nat × Nat) := [(2, 1), (3, 3), (3, 4), (7, 5), (7, 10), (8, 3), (11, 2), (11, 3), (11, 4), (11, 5), (11, 6), (11, 7), (11, 8), (12, 3), (12, 4), (12, 5), (12, 7), (12, 8), (12, 10), (13, 15), (13, 16), (13, 18), (101, 0), (102, 0), (132, 0), (133, 0), (171, 0), (172, 0), (210, 0), (211, 0), (280, 0), (290, 0), (291, 0), (292, 0), (293, 0)]
set_option maxHeartbeats 4000000 in
set_option maxRecDepth 20000 in
theorem uX11_batchP (l : Launch) (dC : Nat → ClassId) (dI : Nat → Nat → Nat) (ca : Nat → ClassId) (base : Nat) (B : jF) (hB : jBok B) (hAp : jAp (dC, dI)) (hB2 : ∀ n G a H, B 2 n G a H ↔ jOb (dC, dI) 2 2 (F2 n G) a H) (hB3 : ∀ n G a H, B 3 n G a H ↔ jOb (dC, dI) 3 17 (F3 n G) a H) (hB5 : ∀ n G a H, B 5 n G a H ↔ jOb (dC, dI) 5 4 (F5 n G) a H) (hB7 : ∀ n G a H, B 7 n G a H ↔ jOb (dC, dI) 7 11 (F7 n G) a H) (hB8 : ∀ n G a H, B 8 n G a H ↔ jOb (dC, dI) 8 4 (F8 n G) a H) (hB11 : ∀ n G a H, B 11 n G a H ↔ jOb (dC, dI) 11 9 (F11 n G) a H) (hB12 : ∀ n G a H, B 12 n G a H ↔ jOb (dC, dI) 12 11 (F12b n G) a H) (hB13 : ∀ n G a H, B 13 n G a H ↔ jOb (dC, dI) 13 19 (F13 n G) a H) (hB100 : ∀ n G a H, B 100 n G a H ↔ jAr (dC, dI) (ca 0) (fun j z => True) n a H) (hB101 : ∀ n G a H, B 101 n G a H ↔ jAr (dC, dI) (ca 1) (fun j z => True) n a H) (hB102 : ∀ n G a H, B 102 n G a H ↔ jAl (dC, dI) (ca 2) n a H) (hB132 : ∀ n G a H, B 132 n G a H ↔ jAr (dC, dI) (ca 1) (fun j z => 0 ≤ z.toInt ∧ z.toInt ≤ 10) n a H) (hB133 : ∀ n G a H, B 133 n G a H ↔ jAr (dC, dI) (ca 1) (fun j z => 0 ≤ z.toInt ∧ z.toInt ≤ 8192) n a H) (hB171 : ∀ n G a H, B 171 n G a H ↔ jAr (dC, dI) (ca 1) (fun j z => 0 ≤ z.toInt ∧ z.toInt ≤ 1500) n a H) (hB172 : ∀ n G a H, B 172 n G a H ↔ jAr (dC, dI) (ca 1) (fun j z => 0 ≤ z.toInt ∧ z.toInt ≤ 1500) n a H) (hB196 : ∀ n G a H, B 196 n G a H ↔ jAr (dC, dI) (ca 0) (fun j z => jBf j z) n a H) (hB197 : ∀ n G a H, B 197 n G a H ↔ jAr (dC, dI) (ca 0) (fun j z => jBf j z) n a H) (hB210 : ∀ n G a H, B 210 n G a H ↔ jAq (dC, dI) (ca 6) (jQn 11 0) n G a H) (hB211 : ∀ n G a H, B 211 n G a H ↔ jAq (dC, dI) (ca 7) (jQh) n G a H) (hB214 : ∀ n G a H, B 214 n G a H ↔ jAq (dC, dI) (ca 7) (jQg) n G a H) (hB280 : ∀ n G a H, B 280 n G a H ↔ jAr (dC, dI) (ca 1) (fun j z => -1 ≤ z.toInt) n a H) (hB290 : ∀ n G a H, B 290 n G a H ↔ jAr (dC, dI) (ca 1) (fun j z => 0 ≤ z.toInt ∧ z.toInt ≤ 3000) n a H) (hB291 : ∀ n G a H, B 291 n G a H ↔ jAr (dC, dI) (ca 1) (fun j z => 0 ≤ z.toInt ∧ z.toInt ≤ 3000) n a H) (hB292 : ∀ n G a H, B 292 n G a H ↔ jAr (dC, dI) (ca 1) (fun j z => 0 ≤ z.toInt ∧ z.toInt ≤ 8191) n a H) (hB293 : ∀ n G a H, B 293 n G a H ↔ jAr (dC, dI) (ca 1) (fun j z => -1 ≤ z.toInt ∧ z.toInt ≤ 8191) n a H) (hB313 : ∀ n G a H, B 313 n G a H ↔ jAq (dC, dI) (ca 8) (jQk 280 80) n G a H) (hB315 : ∀ n G a H, B 315 n G a H ↔ jAqZ (dC, dI) (ca 8) n a H) (G0 : jT) (H0 : Heap) (r0 : Nat) (a1 : Int32) (ta : Nat) (pt : Int32) (tr_ : Nat) (ph : Nat) (fa : Nat → Int32) (LC LS : Nat) : Met l yX11_batch (jw yX11_batch cX11_batch 5 (some .int)) ({ frames := 71, cells := LC - H0.size, slots := LS - jTot H0, locals := 2283 }) (va_Pc [.ref r0, .int a1] (fun U => U.heap = H0 ∧ jX B base G0 [] H0 ∧ jG dC dI ca base U ∧ jK2 dC dI ca U ∧ jK5 dC dI ca U ∧ jK6 U ∧ jK8 U ∧ G0 r0 = some (13, 0) ∧ G0 ta = some (2, 4000) ∧ G0 tr_ = some (197, 4000) ∧ jP (dC, dI) G0 H0 [(r0, 13, 0, .ref ta), (ta, 2, 1, .int pt), (ta, 2, 0, .ref tr_)] ∧ jMc (dC, dI) G0 H0 [(tr_, 197, 4000, ca 0, fa)] ∧ jIs (dC, dI) G0 H0 [(jFy, jYb dC dI G0), (jFs11, jSef dC dI G0), (jFdo, jDcc dC dI ca G0 none ph)] ∧ H0.size + 8 + 24 * (pt.toInt.toNat + 3) ≤ LC ∧ jTot H0 + 1720 + 185 * (pt.toInt.toNat + 3) ≤ LS ∧ 0 ≤ pt.toInt ∧ pt.toInt ≤ 4000)) (va_Qi (S := Int32 × Nat × Nat × jT) (fun r u => (((a1.toInt < 0 ∨ pt.toInt < a1.toInt) ∧ u.1.toInt = pt.toInt ∨ 0 ≤ a1.toInt ∧ a1.toInt ≤ pt.toInt ∧ u.1.toInt = 0) ∧ u.2.1 ≤ ph + 1500 ∧ u.2.2.1 = pt.toInt - u.1.toInt ∧ jVba (jB8 fa) pt.toInt a1.toInt r.toInt)) (fun u t => jRa (dC, dI) B base G0 u.2.2.2 EX11_batchP H0 (80 + 24 * u.2.2.1) (2275 + 185 * u.2.2.1) [(ta, 2, 1, .int u.1)] t.heap ∧ (jNk [0, 1, 2, 4, 6, 7, 8, 9, 10, 12, 13, 14, 15, 16]) G0 u.2.2.2 ∧ jOl (dC, dI) G0 2 [ta] H0 t.heap ∧ jIs (dC, dI) u.2.2.2 t.heap [(jFy, jYb dC dI u.2.2.2), (jFs11, jSef dC dI u.2.2.2), (jFdo, jDcc dC dI ca u.2.2.2 none (u.2.1))]) (jA base)) (LC - H0.size) (LS - jTot H0) (jA base) := by
  refine Met.ofW (cc := cX11_batch) (maxL := 5) (ret := (some .int)) (by decide) rfl ?_
  intro p e s m args below meth c s₁ Bd hml hv
  obtain ⟨rfl, hH0, hX, hG, hK2, hK5, hK6, hK8, hg_r0, hg_ta, hg_tr_, hP0, hM0, hI0, hLC0, hLS0, hp0, hp1⟩ := hv
  have hK := hG.1
  have hx := Bd.exec
  have hb := Bd.bytes
  have hr := Bd.returns
  have hts := atoms_spec (ws := (jw yX11_batch cX11_batch 5 (some .int))) Bd.pre
  have htw : ∀ w ∈ jWl, w.before _ s = true := fun w h => hts w (List.mem_cons_of_mem _ h)
  have hown : s.vm.findClass RX11 = some m.cls := findClass_of_methodNamed Bd.named
  have hlocks := Bd.notSynchronized
  obtain ⟨Q, hQ⟩ : ∃ Q, Q = MQ below (va_Qi (S := Int32 × Nat × Nat × jT) (fun r u => (((a1.toInt < 0 ∨ pt.toInt < a1.toInt) ∧ u.1.toInt = pt.toInt ∨ 0 ≤ a1.toInt ∧ a1.toInt ≤ pt.toInt ∧ u.1.toInt = 0) ∧ u.2.1 ≤ ph + 1500 ∧ u.2.2.1 = pt.toInt - u.1.toInt ∧ jVba (jB8 fa) pt.toInt a1.toInt r.toInt)) (fun u t => jRa (dC, dI) B base G0 u.2.2.2 EX11_batchP H0 (80 + 24 * u.2.2.1) (2275 + 185 * u.2.2.1) [(ta, 2, 1, .int u.1)] t.heap ∧ (jNk [0, 1, 2, 4, 6, 7, 8, 9, 10, 12, 13, 14, 15, 16]) G0 u.2.2.2 ∧ jOl (dC, dI) G0 2 [ta] H0 t.heap ∧ jIs (dC, dI) u.2.2.2 t.heap [(jFy, jYb dC dI u.2.2.2), (jFs11, jSef dC dI u.2.2.2), (jFdo, jDcc dC dI ca u.2.2.2 none (u.2.1))]) (jA base)) ([.ref r0, .int a1] : List Value).toArray s (LC - H0.size) (LS - jTot H0) (jA base) := ⟨_, rfl⟩
  rw [← hQ]
  have hl := lv_entry ([.ref r0, .int a1]) (n := 5) (Nat.le_of_ble_eq_true rfl)
  rw [lg_entry_eq]
  generalize (lg_sl ([.ref r0, .int a1]) ++ List.replicate (5 - (lg_sl ([.ref r0, .int a1])).length) Slot.unset).toArray = ls at hl ⊢
  have hl : lv_has ls 5 [(0, .ref r0), (1, .int a1)] := hl
  generalize hR : (headSpec (jw yX11_batch cX11_batch 5 (some .int)) ({ frames := 71, cells := LC - H0.size, slots := LS - jTot H0, locals := 2283 })).room = R
  subst hH0
  have hh : jSt (dC, dI) B base G0 G0 EX11_batchP s.heap 0 0 [(r0, 13, 0, .ref ta), (ta, 2, 1, .int pt), (ta, 2, 0, .ref tr_)] [(tr_, 197, 4000, ca 0, fa)] [(jFy, jYb dC dI G0), (jFs11, jSef dC dI G0), (jFdo, jDcc dC dI ca G0 none ph)] s.heap [] := jSt.start hX hP0 hM0 hI0
  clear hX hP0
  have hkm2 : ((-2) : Int32).toInt = (-2) := by decide
  have hkm1 : ((-1) : Int32).toInt = (-1) := by decide
  have hk0 : (0 : Int32).toInt = 0 := by decide
  have hk1 : (1 : Int32).toInt = 1 := by decide
  have hly_2_0 := htw (u_lay RX0 TX0 0) (jWc_wsX00 _ (u_in_lay (by decide)))
  have hly_2_1 := htw (u_lay RX0 TX0 1) (jWc_wsX00 _ (u_in_lay (by decide)))
  have hly_3_2 := htw (u_lay RX1 TX1 2) (jWc_wsX10 _ (u_in_lay (by decide)))
  have hly_3_4 := htw (u_lay RX1 TX1 4) (jWc_wsX10 _ (u_in_lay (by decide)))
  have hly_3_5 := htw (u_lay RX1 TX1 5) (jWc_wsX10 _ (u_in_lay (by decide)))
  have hly_3_6 := htw (u_lay RX1 TX1 6) (jWc_wsX10 _ (u_in_lay (by decide)))
  have hly_3_8 := htw (u_lay RX1 TX1 8) (jWc_wsX10 _ (u_in_lay (by decide)))
  have hly_3_9 := htw (u_lay RX1 TX1 9) (jWc_wsX10 _ (u_in_lay (by decide)))
  have hly_7_1 := htw (u_lay RX5 TX5 1) (jWc_wsX50 _ (u_in_lay (by decide)))
  have hly_7_2 := htw (u_lay RX5 TX5 2) (jWc_wsX50 _ (u_in_lay (by decide)))
  have hly_13_0 := htw (u_lay RX11 TX11 0) (jWc_wsX110 _ (u_in_lay (by decide)))
  have hly_13_5 := htw (u_lay RX11 TX11 5) (jWc_wsX110 _ (u_in_lay (by decide)))
  have hly_13_15 := htw (u_lay RX11 TX11 15) (jWc_wsX110 _ (u_in_lay (by decide)))
  have hly_13_16 := htw (u_lay RX11 TX11 16) (jWc_wsX110 _ (u_in_lay (by decide)))
  have hly_13_18 := htw (u_lay RX11 TX11 18) (jWc_wsX110 _ (u_in_lay (by decide)))
  have hlk_14 := (htw (.fieldLink RX11 14 "ProofServer" "tape" "LProofServer$Bytes;") (jWr_1 _ (List.mem_of_getElem? (i := 15) rfl)))
  have hlk_92 := (htw (.fieldLink RX11 92 "ProofServer$Bytes" "count" "I") (jWr_15 _ (List.mem_of_getElem? (i := 18) rfl)))
  have hlk_82 := (htw (.fieldLink RX11 82 "ProofServer" "spare" "LProofServer$Document;") (jWr_2 _ (List.mem_of_getElem? (i := 22) rfl)))
  have hlk_98 := (htw (.fieldLink RX11 98 "ProofServer$Bytes" "row" "[B") (jWr_17 _ (List.mem_of_getElem? (i := 7) rfl)))
  have hlk_200 := (htw (.fieldLink RX11 200 "ProofServer" "latest" "LProofServer$Document;") (jWr_93 _ (List.mem_of_getElem? (i := 14) rfl)))
  have hlk_89 := (htw (.fieldLink RX11 89 "ProofServer" "shownOf" "I") (jWr_3 _ (List.mem_of_getElem? (i := 0) rfl)))
  have hlk_41 := (htw (.fieldLink RX11 41 "ProofServer" "kernel" "LProofServer$Kernel;") (jWr_2 _ (List.mem_of_getElem? (i := 5) rfl)))
  have hlk_203 := (htw (.fieldLink RX11 203 "ProofServer$Kernel" "syntax" "LProofServer$Syntax;") (jWr_35 _ (List.mem_of_getElem? (i := 16) rfl)))
  have hlk_168 := (htw (.fieldLink RX11 168 "ProofServer$Document" "sentences" "I") (jWr_35 _ (List.mem_of_getElem? (i := 4) rfl)))
  have hlk_174 := (htw (.fieldLink RX11 174 "ProofServer$Document" "text" "[I") (jWr_77 _ (List.mem_of_getElem? (i := 15) rfl)))
  have hlk_182 := (htw (.fieldLink RX11 182 "ProofServer$Document" "starts" "[I") (jWr_40 _ (List.mem_of_getElem? (i := 13) rfl)))
  have hlk_185 := (htw (.fieldLink RX11 185 "ProofServer$Document" "ends" "[I") (jWr_40 _ (List.mem_of_getElem? (i := 14) rfl)))
  have hlk_178 := (htw (.fieldLink RX11 178 "ProofServer$Document" "behind" "[LProofServer$State;") (jWr_39 _ (List.mem_of_getElem? (i := 23) rfl)))
  have hlk_217 := (htw (.fieldLink RX11 217 "ProofServer$Kernel" "start" "LProofServer$State;") (jWr_30 _ (List.mem_of_getElem? (i := 6) rfl)))
  have hlk_225 := (htw (.fieldLink RX11 225 "ProofServer$Document" "early" "[I") (jWr_93 _ (List.mem_of_getElem? (i := 15) rfl)))
  have hrg_a1 := jb_rng a1
  have hbs : base ≤ s.heap.size := Nat.le_of_lt (Nat.lt_of_le_of_lt (hh.ab hg_r0).1 (hh.ab hg_r0).2)
  have hRc : R.cells = LC - s.heap.size := by rw [← hR]; rfl
  have hRs : R.slots = LS - jTot s.heap := by rw [← hR]; rfl
  have hh_1 := hh.addI (jOl.ie (dC := dC) (dI := dI) (G0 := G0) (k := 2) (rs := [ta]) (H0 := s.heap) (F := [(2, 0), (2, 1)]) (C := RX0) (T := TX0) (N := 2) rfl (by decide) hh.2.2.2.2.1 (jOl.rf))
  clear hh
  refine lv_iload_n hx hb dX11_batch_0 rfl (lv_at hl 1 rfl) ?_
  refine lv_if_lt (tgt := 15) hx hb dX11_batch_1 (by decide) (fun c_2 => ?_) (fun c_2 => ?_)
  · skip
    have c_2' : a1.toInt < 0 := jb_lt (rfl) ((by decide)) c_2
    refine lv_iconst (v := (-1)) hx hb dX11_batch_15 (by decide) ?_
    have hsz_3 := hh_1.2.2.2.2.2.1
    have htt_3 := hh_1.2.2.2.2.2.2.1
    refine W.room (fun hrc_3 hrs_3 => ?_)
    refine W.widen (k := LC - s.heap.size) (n := LS - jTot s.heap) (by omega) (by omega) ?_
    rw [hQ]
    exact W.iret (v := (-1)) hx hb hr (fun t ht hW => ⟨⟨(-1), (pt, ph, (pt.toInt.toNat - (pt.toInt : Int).toNat), G0), rfl, by skip; (try dsimp only); refine ⟨by omega, by omega, by omega, ?_⟩; exact Or.inl ⟨by omega, by omega⟩, ⟨hh_1.ra (by first | (simp only; omega) | omega) (by first | (simp only; omega) | omega) (M1 := [(ta, 2, 1, .int pt)]) [1] rfl ht, jNk.rf, by rw [ht]; exact hh_1.iv 0 rfl, by rw [ht]; exact hh_1.2.2.2.2.2.2.2.2.sub (L1 := [(jFy, jYb dC dI G0), (jFs11, jSef dC dI G0), (jFdo, jDcc dC dI ca G0 none ph)]) [1, 2, 3] rfl⟩⟩, by rw [ht]; try exact hh_1.1.1, fun q h9 hq => by rw [ht]; try exact hh_1.1.2.1 q h9 hq⟩) hh_1.1.2.2 dX11_batch_16
  · skip
    have c_2' : a1.toInt ≥ 0 := jb_lt_n (rfl) ((by decide)) c_2
    refine lv_iload_n hx hb dX11_batch_4 rfl (lv_at hl 1 rfl) ?_
    refine lv_aload_n hx hb dX11_batch_5 rfl (lv_at hl 0 rfl) ?_
    refine j7_read hx hb hown hK (C := RX11) (T := TX11) (N := 19) rfl hly_13_0 hlk_14 (hh_1.at 0 rfl) dX11_batch_6 ?_
    refine j7_read hx hb hown hK (C := RX0) (T := TX0) (N := 2) rfl hly_2_1 hlk_92 (hh_1.at 1 rfl) dX11_batch_9 ?_
    refine lv_icmp_le (tgt := 17) hx hb dX11_batch_12 (by decide) (fun c_4 => ?_) (fun c_4 => ?_)
    · skip
      have c_4' : a1.toInt ≤ pt.toInt := jb_le (rfl) (rfl) c_4
      refine lv_aload_n hx hb dX11_batch_17 rfl (lv_at hl 0 rfl) ?_
      refine j7_read hx hb hown hK (C := RX11) (T := TX11) (N := 19) rfl hly_13_0 hlk_14 (hh_1.at 0 rfl) dX11_batch_18 ?_
      refine lv_iconst (v := 0) hx hb dX11_batch_21 (by decide) ?_
      have hd_6 := hh_1.iv 0 rfl
      have hd_7 := hh_1.iv 1 rfl
      have hh_8 := hh_1.sub (L1 := [(r0, 13, 0, .ref ta), (ta, 2, 1, .int pt), (ta, 2, 0, .ref tr_)]) [0, 1, 2] rfl (M1 := [(tr_, 197, 4000, ca 0, fa)]) [0] rfl (I1 := [(jFs11, jSef dC dI G0), (jFdo, jDcc dC dI ca G0 none ph)]) [2, 3] rfl
      clear hh_1
      refine j7_putX hx hb hown hK hh_8 hB hAp hB2 (C := RX0) (T := TX0) (N := 2) rfl (by decide) hg_ta (i := 1) (by decide) hly_2_1 rfl hlk_92 rfl (ty := .int) (v := .int 0) (by decide +kernel) rfl rfl (⟨_, rfl, by omega, by omega, by omega⟩) rfl (L1 := [(r0, 13, 0, .ref ta), (ta, 2, 0, .ref tr_)]) [0, 2] rfl rfl rfl dX11_batch_22 (fun H_5 locs_5 hr_5 hh_5 => ?_)
      clear hh_8
      have hd_7n := jYb.put hd_7 hr_5 hg_ta (fun h9 => by cases h9)
      have hd_6n := jOl.put hd_6 hr_5 (by simp)
      have hh_9 := hh_5.addI (jYb.ie hd_7n)
      clear hh_5
      have hh_10 := hh_9.addI (jOl.ie (dC := dC) (dI := dI) (G0 := G0) (k := 2) (rs := [ta]) (H0 := s.heap) (F := [(2, 0), (2, 1)]) (C := RX0) (T := TX0) (N := 2) rfl (by decide) hh_9.2.2.2.2.1 (hd_6n))
      clear hh_9
      clear hd_6 hd_6n hd_7 hd_7n hr_5
      refine lv_aload_n hx hb dX11_batch_25 rfl (lv_at hl 0 rfl) ?_
      obtain ⟨v_11, hv_11, hh_12⟩ := hh_10.pin (C := RX11) (T := TX11) (N := 19) hB13 rfl (by decide) hg_r0 (i := 15) (by decide) rfl
      clear hh_10
      obtain ⟨spare_13, rfl, hg_spare_13⟩ := hv_11
      refine j7_read hx hb hown hK (C := RX11) (T := TX11) (N := 19) rfl hly_13_15 hlk_82 (hh_12.at 0 rfl) dX11_batch_26 ?_
      refine lv_astore_n (lv' := [(2, .ref spare_13), (0, .ref r0), (1, .int a1)]) hx hb dX11_batch_29 rfl hl (by decide) rfl (fun ls hl => ?_)
      refine lv_aload_n hx hb dX11_batch_30 rfl (lv_at hl 0 rfl) ?_
      refine lv_aload_n hx hb dX11_batch_31 rfl (lv_at hl 1 rfl) ?_
      refine j7_read hx hb hown hK (C := RX11) (T := TX11) (N := 19) rfl hly_13_0 hlk_14 (hh_12.at 2 rfl) dX11_batch_32 ?_
      refine j7_read hx hb hown hK (C := RX0) (T := TX0) (N := 2) rfl hly_2_0 hlk_98 (hh_12.at 3 rfl) dX11_batch_35 ?_
      refine lv_iload_n hx hb dX11_batch_38 rfl (lv_at hl 2 rfl) ?_
      obtain ⟨v_16, hv_16, hh_17⟩ := hh_12.pin (C := RX1) (T := TX1) (N := 17) hB3 rfl (by decide) hg_spare_13 (i := 2) (by decide) rfl
      obtain ⟨text_18, rfl, hg_text_18⟩ := hv_16
      obtain ⟨f_ft_19, hh_19⟩ := hh_17.cpin hB101 (by decide) (by decide) hg_text_18
      clear hh_17
      have hsz_14 := hh_19.2.2.2.2.2.1
      have htt_14 := hh_19.2.2.2.2.2.2.1
      refine W.room (fun hrc_14 hrs_14 => ?_)
      refine va_calli (A0 := jA base) (H0 := s.heap) (va_runV (As := [.ref tr_, .int a1]) (rest := []) ⟨hx, hb, hml, hown, hts⟩ (uX1_decodeP l dC dI ca base B hB hAp hB3 hB100 hB101 hB197 G0 H_5 spare_13 tr_ a1 1 text_18 fa f_ft_19) (cwV 2 hts (jgV (jWr_93 _ (List.mem_of_getElem? (i := 16) rfl)) (jWr_93 _ (List.mem_of_getElem? (i := 17) rfl)) (jWr_93 _ (List.mem_of_getElem? (i := 18) rfl)) (jWr_2 _ (List.mem_of_getElem? (i := 21) rfl)) (jWr_93 _ (List.mem_of_getElem? (i := 19) rfl))) rfl rfl rfl (by decide +kernel) ⟨by rw [← hR]; exact Nat.le_of_ble_eq_true rfl, by rw [← hR]; exact Nat.le_of_ble_eq_true rfl⟩) ⟨fun a U g mk q => by obtain ⟨q0, q1, q2, qK, q10, q11, q12, q13, q14, q15⟩ := q; exact ⟨q0, q1, q2, jG.calling g mk a qK, q10, q11, q12, q13, q14, q15⟩, hh_19.recv (C := RX1) (T := TX1) (N := 17) hB3 rfl (by decide) hg_spare_13 hK, fun U hU hW => ⟨rfl, hU, hh_19.2.1, hG.step hW hU hh_19.1, hg_spare_13, hg_tr_, hg_text_18, (hh_19.2.2.1.sub (L1 := [(spare_13, 3, 2, .ref text_18)]) [0] rfl), (hh_19.2.2.2.2.2.2.2.1.sub (L1 := [(tr_, 197, 4000, ca 0, fa), (text_18, 101, 1500, ca 1, f_ft_19)]) [1, 0] rfl), ⟨(by first | (with_reducible assumption) | omega | rfl | fail), (by first | (with_reducible assumption) | omega | rfl | fail)⟩⟩⟩ rfl rfl hl.1 rfl (lv_room (Nat.le_of_ble_eq_true rfl)) dX11_batch_39 ⟨by rw [hRc]; show _ + 0 ≤ _; omega, by rw [hRs]; show _ + 0 ≤ _; omega⟩) hh_19.1 (fun q _ h => h) (fun q h => h) (fun r_15 u_14 t_14 H_14 locs_14 ht_14 hvm_14 hr_15 hb_14 hz_14 hk_14 hS_14 => ?_)
      obtain ⟨ql_14, gt_14⟩ := u_14
      rw [ht_14] at hb_14
      obtain ⟨⟨hb_141, hb_142, hb_143, hb_144, hb_145⟩, hb_146⟩ := hb_14
      have hh_14 : jSt (dC, dI) B base G0 G0 EX11_batchP s.heap 0 0 [(spare_13, 3, 3, .int ql_14), (spare_13, 3, 2, .ref text_18), (r0, 13, 15, .ref spare_13), (ta, 2, 1, .int 0), (r0, 13, 0, .ref ta), (ta, 2, 0, .ref tr_)] [(text_18, 101, 1500, ca 1, gt_14), (tr_, 197, 4000, ca 0, fa)] [([(2, 0), (2, 1)], jOl (dC, dI) G0 2 [ta] s.heap), (jFy, jYb dC dI G0), (jFs11, jSef dC dI G0), (jFdo, jDcc dC dI ca G0 none ph)] H_14 locs_14 := ((hh_19.call hb_141 hb_142 hb_143 hb_144 hS_14 rfl (L1 := [(spare_13, 3, 2, .ref text_18), (r0, 13, 15, .ref spare_13), (ta, 2, 1, .int 0), (r0, 13, 0, .ref ta), (ta, 2, 0, .ref tr_)]) [0, 1, 2, 3, 4] rfl rfl (M1 := [(tr_, 197, 4000, ca 0, fa)]) [1] rfl rfl (I1 := [([(2, 0), (2, 1)], jOl (dC, dI) G0 2 [ta] s.heap), (jFy, jYb dC dI G0), (jFs11, jSef dC dI G0), (jFdo, jDcc dC dI ca G0 none ph)]) [0, 1, 2, 3] rfl rfl).more hb_145).moreM hb_146
      clear hh_19 ht_14 hvm_14 hz_14 hk_14 hS_14 hb_141 hb_142 hb_143 hb_144 hb_145
      clear hb_146
      try simp only at hr_15
      obtain ⟨hr_15b, hr_15p⟩ := hr_15
      obtain ⟨hr_15p_0, hr_15p_1, hr_15p_2, hr_15p_3⟩ := hr_15p
      have hr_15' := jb_01 hr_15b
      refine lv_if_ne (tgt := 48) hx hb dX11_batch_42 (by decide) (fun c_20 => ?_) (fun c_20 => ?_)
      · skip
        have c_20' : r_15.toInt ≠ 0 := jb_ne (rfl) ((by decide)) c_20
        refine lv_aload_n hx hb dX11_batch_48 rfl (lv_at hl 1 rfl) ?_
        refine lv_aload_n hx hb dX11_batch_49 rfl (lv_at hl 1 rfl) ?_
        obtain ⟨v_21, hv_21, hh_22⟩ := hh_14.pin (C := RX11) (T := TX11) (N := 19) hB13 rfl (by decide) hg_r0 (i := 16) (by decide) rfl
        clear hh_14
        rcases hv_21 with rfl | ⟨latest_23, rfl, hg_latest_23⟩
        · refine j7_read hx hb hown hK (C := RX11) (T := TX11) (N := 19) rfl hly_13_16 hlk_200 (hh_22.at 0 rfl) dX11_batch_50 ?_
          refine lv_ifnonnullN hx hb dX11_batch_53 ?_
          have hsz_24 := hh_22.2.2.2.2.2.1
          have htt_24 := hh_22.2.2.2.2.2.2.1
          refine j7_newo (k := 3) (C := RX1) (T := TX1) (N := 17) (fs := [.null, .int 0, .null, .int 0, .int 0, .null, .null, .null, .null, .null, .int 0, .null, .null, .int 0, .int 0, .int 0, .int 0]) hx hb htw jWc_wsX10 (fun k => ([(.array .int), .int, (.array .int), .int, .int, (.array .int), (.array .int), (.array .int), (.array .int), (.array (.object "ProofServer$State")), .int, (.array .int), (.object "ProofServer$State"), .int, .int, .int, .int] : List FieldType).getD k .int) (by decide +kernel) hown (htw (.classLink RX11 71 RX1) (jWr_2 _ (List.mem_of_getElem? (i := 17) rfl))) (htw (.instantiable RX1 17) (jWr_2 _ (List.mem_of_getElem? (i := 20) rfl))) (htw (.initialized RX1) (jWr_2 _ (List.mem_of_getElem? (i := 21) rfl))) hK rfl (fun j hj => by rcases (by omega : j = 0 ∨ j = 1 ∨ j = 2 ∨ j = 3 ∨ j = 4 ∨ j = 5 ∨ j = 6 ∨ j = 7 ∨ j = 8 ∨ j = 9 ∨ j = 10 ∨ j = 11 ∨ j = 12 ∨ j = 13 ∨ j = 14 ∨ j = 15 ∨ j = 16) with rfl | rfl | rfl | rfl | rfl | rfl | rfl | rfl | rfl | rfl | rfl | rfl | rfl | rfl | rfl | rfl | rfl <;> rfl) hh_22 hB (by rw [hRc]; omega) (by rw [hRs]; omega) dX11_batch_56 (fun H_24 hraw_24 hfr_24 hnr_24 hh_24 => ?_)
          have hke_24 : jKe G0 G0 H_14 H_24 := jKe.raw hfr_24
          have hbr_24 : base ≤ H_14.size := Nat.le_trans hbs hh_22.1.1
          have hsy_24 : s.heap.size ≤ H_14.size := hh_22.1.1
          clear hh_22
          refine lv_dup hx hb dX11_batch_59 rfl ?_
          have hsz_25 := hh_24.2.2.2.2.2.1
          have htt_25 := hh_24.2.2.2.2.2.2.1
          refine W.room (fun hrc_25 hrs_25 => ?_)
          refine va_callv (A0 := jA base) (H0 := s.heap) (va_runIN (As := []) (rest := [.ref H_14.size, .ref r0]) ⟨hx, hb, hml, hown, hts⟩ (uX1_initE l dC dI ca base B hB hAp hB3 hB11 hB101 hB171 hB172 hB210 G0 H_24 H_14.size 1 (ph) LC LS) ⟨va_cnB 0 hts (jgW (jWr_10 _ (List.mem_of_getElem? (i := 3) rfl))) rfl rfl rfl (hG.2.2.1 RX11 81 yX1_init "ProofServer" (List.mem_of_getElem? (i := 434) (by decide +kernel))) (htw (.initialized RX1) (jWr_2 _ (List.mem_of_getElem? (i := 21) rfl))) (by decide +kernel) ⟨by rw [← hR]; exact Nat.le_of_ble_eq_true rfl, by rw [← hR]; exact Nat.le_of_ble_eq_true rfl⟩, rfl, htw (.instanceMethod yX1_init) (jWr_10 _ (List.mem_of_getElem? (i := 2) rfl))⟩ ⟨fun a U g mk q => by obtain ⟨q0, q1, q2, qK, q10, q11, q12, q13, q14, q15, q16, q17⟩ := q; exact ⟨q0, q1, q2, jG.calling g mk a qK, (va_K.moved (Vm.Alike.refl U.vm) q10), (jK6.moved (Vm.Alike.refl U.vm) q11), q12, q13, q14, q15, q16, q17⟩, fun U hU hW => ⟨rfl, hU, hh_24.2.1, hG.step hW hU hh_24.1, va_K.moved hW.alike hK2, jK6.moved hW.alike hK6, hraw_24, hnr_24, hbr_24, jP.nil, (hh_24.2.2.2.2.2.2.2.2.sub (L1 := [(jFdo, jDcc dC dI ca G0 none ph)]) [3] rfl), (by omega), (by omega), trivial⟩⟩ rfl rfl hl.1 rfl (lv_room (Nat.le_of_ble_eq_true rfl)) dX11_batch_60 ⟨by rw [hRc]; omega, by rw [hRs]; omega⟩) hh_24.1 (fun q _ h => h) (fun q h => h) (fun u_25 t_25 H_25 locs_25 ht_25 hvm_25 hr_26 hb_25 hz_25 hk_25 hS_25 => ?_)
          obtain ⟨qk_25, qs_25, ql_25, G_25⟩ := u_25
          rw [ht_25] at hb_25
          simp only at hb_25
          obtain ⟨⟨hb_251, hb_252, hb_253, hb_254, hb_255, hb_256⟩, hN_25, hgc_25, hbX_25, hbE_25⟩ := hb_25
          have hM_25 := hN_25
          have hN_25 : (jNk [0, 1, 2, 4, 6, 7, 8, 9, 10, 12, 13, 14, 15, 16]) G0 G_25 := hN_25.sub (by decide)
          have hh_25 : jSt (dC, dI) B base G0 G_25 EX11_batchP s.heap ((0 + 1) + (7)) ((0 + 17) + (1700)) [(H_14.size, 3, 10, .int qk_25), (H_14.size, 3, 4, .int qs_25), (H_14.size, 3, 3, .int ql_25), (r0, 13, 16, .null), (spare_13, 3, 3, .int ql_14), (spare_13, 3, 2, .ref text_18), (r0, 13, 15, .ref spare_13), (ta, 2, 1, .int 0), (r0, 13, 0, .ref ta), (ta, 2, 0, .ref tr_)] [(text_18, 101, 1500, ca 1, gt_14), (tr_, 197, 4000, ca 0, fa)] [([(2, 0), (2, 1)], jOl (dC, dI) G0 2 [ta] s.heap), (jFy, jYb dC dI G0), (jFs11, jSef dC dI G0)] H_25 locs_25 := (hh_24.callG hb_251 hb_252 hb_253 hb_254 hb_255 hS_25 rfl (L1 := [(r0, 13, 16, .null), (spare_13, 3, 3, .int ql_14), (spare_13, 3, 2, .ref text_18), (r0, 13, 15, .ref spare_13), (ta, 2, 1, .int 0), (r0, 13, 0, .ref ta), (ta, 2, 0, .ref tr_)]) [0, 1, 2, 3, 4, 5, 6] rfl rfl (M1 := [(text_18, 101, 1500, ca 1, gt_14), (tr_, 197, 4000, ca 0, fa)]) [0, 1] rfl rfl (I1 := [([(2, 0), (2, 1)], jOl (dC, dI) G0 2 [ta] s.heap), (jFy, jYb dC dI G0), (jFs11, jSef dC dI G0)]) [0, 1, 2] rfl rfl).more hb_256
          have hNn_25 : (jNk [0, 1, 2, 4, 6, 7, 8, 9, 10, 12, 13, 14, 15, 16]) G0 G_25 := (jNk.rf).tr hN_25
          have hg_27 := hb_252 _ _ hg_spare_13
          have hg_28 := hb_252 _ _ hg_r0
          have hg_29 := hb_252 _ _ hg_text_18
          have hg_30 := hb_252 _ _ hg_ta
          have hg_31 := hb_252 _ _ hg_tr_
          have hd_32 := jYb.grow (hh_25.iv 1 rfl) hb_252 hN_25 (by decide)
          have hh_33 := hh_25.sub (L1 := [(H_14.size, 3, 10, .int qk_25), (H_14.size, 3, 4, .int qs_25), (H_14.size, 3, 3, .int ql_25), (r0, 13, 16, .null), (spare_13, 3, 3, .int ql_14), (spare_13, 3, 2, .ref text_18), (r0, 13, 15, .ref spare_13), (ta, 2, 1, .int 0), (r0, 13, 0, .ref ta), (ta, 2, 0, .ref tr_)]) [0, 1, 2, 3, 4, 5, 6, 7, 8, 9] rfl (M1 := [(text_18, 101, 1500, ca 1, gt_14), (tr_, 197, 4000, ca 0, fa)]) [0, 1] rfl (I1 := [([(2, 0), (2, 1)], jOl (dC, dI) G0 2 [ta] s.heap), (jFs11, jSef dC dI G0)]) [0, 2] rfl
          clear hh_25
          have hh_34 := hh_33.addI (jYb.ie hd_32)
          clear hh_33
          have hd_35 := jSef.grow (hh_34.iv 2 rfl) hb_252 hM_25 (by decide)
          have hh_36 := hh_34.sub (L1 := [(H_14.size, 3, 10, .int qk_25), (H_14.size, 3, 4, .int qs_25), (H_14.size, 3, 3, .int ql_25), (r0, 13, 16, .null), (spare_13, 3, 3, .int ql_14), (spare_13, 3, 2, .ref text_18), (r0, 13, 15, .ref spare_13), (ta, 2, 1, .int 0), (r0, 13, 0, .ref ta), (ta, 2, 0, .ref tr_)]) [0, 1, 2, 3, 4, 5, 6, 7, 8, 9] rfl (M1 := [(text_18, 101, 1500, ca 1, gt_14), (tr_, 197, 4000, ca 0, fa)]) [0, 1] rfl (I1 := [(jFy, jYb dC dI G_25), ([(2, 0), (2, 1)], jOl (dC, dI) G0 2 [ta] s.heap)]) [0, 1] rfl
          clear hh_34
          have hh_37 := hh_36.addI (jSef.ie hd_35)
          clear hh_36
          have hh_38 := hh_37.addIs hbE_25
          try simp only at hr_26
          obtain ⟨hr_26_0, hr_26_1, hr_26_2⟩ := hr_26
          refine lv_goto (tgt := 70) hx hb dX11_batch_63 (by decide) ?_
          refine j7_put hx hb hown hK hh_38 hB hAp hB13 (C := RX11) (T := TX11) (N := 19) rfl (by decide) hg_28 (i := 15) (by decide) hly_13_15 rfl hlk_82 rfl (ty := (.object "ProofServer$Document")) (v := .ref H_14.size) (by decide +kernel) rfl rfl (⟨_, rfl, hgc_25⟩) rfl (L1 := [(H_14.size, 3, 10, .int qk_25), (H_14.size, 3, 4, .int qs_25), (H_14.size, 3, 3, .int ql_25), (r0, 13, 16, .null), (spare_13, 3, 3, .int ql_14), (spare_13, 3, 2, .ref text_18), (ta, 2, 1, .int 0), (r0, 13, 0, .ref ta), (ta, 2, 0, .ref tr_)]) [0, 1, 2, 3, 4, 5, 7, 8, 9] rfl rfl rfl dX11_batch_70 (fun H_39 locs_39 hh_39 => ?_)
          clear hh_38
          refine lv_aload_n hx hb dX11_batch_73 rfl (lv_at hl 1 rfl) ?_
          refine lv_aload_n hx hb dX11_batch_74 rfl (lv_at hl 0 rfl) ?_
          refine j7_put hx hb hown hK hh_39 hB hAp hB13 (C := RX11) (T := TX11) (N := 19) rfl (by decide) hg_28 (i := 16) (by decide) hly_13_16 rfl hlk_200 rfl (ty := (.object "ProofServer$Document")) (v := .ref spare_13) (by decide +kernel) rfl rfl (Or.inr ⟨_, rfl, hg_27⟩) rfl (L1 := [(r0, 13, 15, .ref H_14.size), (H_14.size, 3, 10, .int qk_25), (H_14.size, 3, 4, .int qs_25), (H_14.size, 3, 3, .int ql_25), (spare_13, 3, 3, .int ql_14), (spare_13, 3, 2, .ref text_18), (ta, 2, 1, .int 0), (r0, 13, 0, .ref ta), (ta, 2, 0, .ref tr_)]) [0, 1, 2, 3, 5, 6, 7, 8, 9] rfl rfl rfl dX11_batch_75 (fun H_40 locs_40 hh_40 => ?_)
          clear hh_39
          refine lv_aload_n hx hb dX11_batch_78 rfl (lv_at hl 1 rfl) ?_
          refine lv_bipush (v := (-2)) hx hb dX11_batch_79 (by decide) ?_
          refine j7_put hx hb hown hK hh_40 hB hAp hB13 (C := RX11) (T := TX11) (N := 19) rfl (by decide) hg_28 (i := 18) (by decide) hly_13_18 rfl hlk_89 rfl (ty := .int) (v := .int (-2)) (by decide +kernel) rfl rfl (⟨_, rfl⟩) rfl (L1 := [(r0, 13, 16, .ref spare_13), (r0, 13, 15, .ref H_14.size), (H_14.size, 3, 10, .int qk_25), (H_14.size, 3, 4, .int qs_25), (H_14.size, 3, 3, .int ql_25), (spare_13, 3, 3, .int ql_14), (spare_13, 3, 2, .ref text_18), (ta, 2, 1, .int 0), (r0, 13, 0, .ref ta), (ta, 2, 0, .ref tr_)]) [0, 1, 2, 3, 4, 5, 6, 7, 8, 9] rfl rfl rfl dX11_batch_81 (fun H_41 locs_41 hh_41 => ?_)
          clear hh_40
          obtain ⟨yb_42, ye_42, w_42, pho_42, fb_42, fe_42, ps_42, pk_42, vc_42, hgb_42, hge_42, h5_42, h6_42, hd_42, hpq_42, hE_42, hpl_42, hpw_42⟩ := jDcc.opn (hh_41.iv 0 rfl) hg_27
          have hh_44 := hh_41.sub (L1 := [(r0, 13, 18, .int (-2)), (r0, 13, 16, .ref spare_13), (r0, 13, 15, .ref H_14.size), (H_14.size, 3, 10, .int qk_25), (H_14.size, 3, 4, .int qs_25), (H_14.size, 3, 3, .int ql_25), (spare_13, 3, 3, .int ql_14), (spare_13, 3, 2, .ref text_18), (ta, 2, 1, .int 0), (r0, 13, 0, .ref ta), (ta, 2, 0, .ref tr_)]) [0, 1, 2, 3, 4, 5, 6, 7, 8, 9, 10] rfl (M1 := [(text_18, 101, 1500, ca 1, gt_14), (tr_, 197, 4000, ca 0, fa)]) [0, 1] rfl (I1 := [(jFs11, jSef dC dI G_25), (jFy, jYb dC dI G_25), ([(2, 0), (2, 1)], jOl (dC, dI) G0 2 [ta] s.heap)]) [1, 2, 3] rfl
          clear hh_41
          have hh_45 := (hh_44.more (P1 := [(spare_13, 3, 4, .int ps_42), (spare_13, 3, 10, .int pk_42), (spare_13, 3, 5, .ref yb_42), (spare_13, 3, 6, .ref ye_42)]) (jP.cons hg_27 (hd_42.1 _ (List.mem_of_getElem? (i := 0) rfl)).2 (jP.cons hg_27 (hd_42.1 _ (List.mem_of_getElem? (i := 1) rfl)).2 (jP.cons hg_27 h5_42 (jP.cons hg_27 h6_42 jP.nil))))).moreM hd_42.2.1
          have hh_46 := hh_45.addI (jDcc.ie hE_42)
          clear hh_45
          have hps_42 := hd_42.2.2.2
          have hsn_42 := hd_42.2.2.1
          obtain ⟨v_47, hv_47, hh_42⟩ := hh_46.pin (C := RX1) (T := TX1) (N := 17) hB3 rfl (by decide) hg_27 (i := 11) (by decide) rfl
          have hvq_42 : vc_42 = v_47 := jf.uniq (hd_42.1 _ (List.mem_of_getElem? (i := 2) rfl)).2 (hh_42.at 0 rfl)
          subst hvq_42
          clear hh_46
          rcases hv_47 with rfl | ⟨chk_48, nchk_48, rfl, hg_chk_48, hlen_chk_48⟩
          · skip
            refine lv_aload_n hx hb dX11_batch_84 rfl (lv_at hl 0 rfl) ?_
            refine lv_aload_n hx hb dX11_batch_85 rfl (lv_at hl 1 rfl) ?_
            obtain ⟨v_50, hv_50, hh_51⟩ := hh_42.pin (C := RX11) (T := TX11) (N := 19) hB13 rfl (by decide) hg_28 (i := 5) (by decide) rfl
            clear hh_42
            obtain ⟨kernel_52, rfl, hg_kernel_52⟩ := hv_50
            refine j7_read hx hb hown hK (C := RX11) (T := TX11) (N := 19) rfl hly_13_5 hlk_41 (hh_51.at 0 rfl) dX11_batch_86 ?_
            obtain ⟨v_53, hv_53, hh_54⟩ := hh_51.pin (C := RX5) (T := TX5) (N := 11) hB7 rfl (by decide) hg_kernel_52 (i := 1) (by decide) rfl
            clear hh_51
            obtain ⟨syntax_55, rfl, hg_syntax_55⟩ := hv_53
            refine j7_read hx hb hown hK (C := RX5) (T := TX5) (N := 11) rfl hly_7_1 hlk_203 (hh_54.at 0 rfl) dX11_batch_89 ?_
            have hsz_56 := hh_54.2.2.2.2.2.1
            have htt_56 := hh_54.2.2.2.2.2.2.1
            refine W.room (fun hrc_56 hrs_56 => ?_)
            refine va_callv (A0 := jA base) (H0 := s.heap) (va_runV (As := [.ref syntax_55]) (rest := []) ⟨hx, hb, hml, hown, hts⟩ (uX1_partP l dC dI ca base B hB hAp hB3 hB8 hB12 hB101 hB102 hB132 hB133 hB171 hB172 hB293 G_25 H_41 spare_13 syntax_55 1 ql_14 yb_42 ye_42 text_18 (pho_42) fb_42 fe_42 gt_14) (cwV 1 hts (jgV (jWr_36 _ (List.mem_of_getElem? (i := 2) rfl)) (jWr_36 _ (List.mem_of_getElem? (i := 3) rfl)) (jWr_36 _ (List.mem_of_getElem? (i := 4) rfl)) (jWr_2 _ (List.mem_of_getElem? (i := 21) rfl)) (jWr_36 _ (List.mem_of_getElem? (i := 5) rfl))) rfl rfl rfl (by decide +kernel) ⟨by rw [← hR]; exact Nat.le_of_ble_eq_true rfl, by rw [← hR]; exact Nat.le_of_ble_eq_true rfl⟩) ⟨fun a U g mk q => by obtain ⟨q0, q1, q2, qK, q10, q11, q12, q13, q14, q15, q16, q17, q18⟩ := q; exact ⟨q0, q1, q2, jG.calling g mk a qK, q10, q11, q12, q13, q14, q15, q16, q17, q18⟩, hh_54.recv (C := RX1) (T := TX1) (N := 17) hB3 rfl (by decide) hg_27 hK, fun U hU hW => ⟨rfl, hU, hh_54.2.1, hG.step hW hU hh_54.1, hg_27, hg_syntax_55, hgb_42, hge_42, hg_29, (hh_54.2.2.1.sub (L1 := [(spare_13, 3, 3, .int ql_14), (spare_13, 3, 5, .ref yb_42), (spare_13, 3, 6, .ref ye_42), (spare_13, 3, 2, .ref text_18)]) [13, 5, 6, 14] rfl), (hh_54.2.2.2.2.2.2.2.1.sub (L1 := [(yb_42, 171, 40, ca 1, fb_42), (ye_42, 172, 40, ca 1, fe_42), (text_18, 101, 1500, ca 1, gt_14)]) [0, 1, 2] rfl), (hh_54.2.2.2.2.2.2.2.2.sub (L1 := [(jFdo, jDcc dC dI ca G_25 (some spare_13) pho_42)]) [0] rfl), ⟨(by first | (with_reducible assumption) | omega | rfl | fail), (by first | (with_reducible assumption) | omega | rfl | fail)⟩⟩⟩ rfl rfl hl.1 rfl (lv_room (Nat.le_of_ble_eq_true rfl)) dX11_batch_92 ⟨by rw [hRc]; show _ + 0 ≤ _; omega, by rw [hRs]; show _ + 0 ≤ _; omega⟩) hh_54.1 (fun q _ h => h) (fun q h => h) (fun u_56 t_56 H_56 locs_56 ht_56 hvm_56 hr_57 hb_56 hz_56 hk_56 hS_56 => ?_)
            obtain ⟨qs_56, gb_56, ge_56⟩ := u_56
            rw [ht_56] at hb_56
            obtain ⟨hb_56, hbE_56⟩ := hb_56
            obtain ⟨hb_56, hbO_56⟩ := hb_56
            obtain ⟨⟨hb_561, hb_562, hb_563, hb_564, hb_565⟩, hb_566⟩ := hb_56
            have hh_56 : jSt (dC, dI) B base G0 G_25 EX11_batchP s.heap ((0 + 1) + (7)) ((0 + 17) + (1700)) [(spare_13, 3, 4, .int qs_56), (kernel_52, 7, 1, .ref syntax_55), (r0, 13, 5, .ref kernel_52), (spare_13, 3, 11, .null), (spare_13, 3, 10, .int pk_42), (spare_13, 3, 5, .ref yb_42), (spare_13, 3, 6, .ref ye_42), (r0, 13, 18, .int (-2)), (r0, 13, 16, .ref spare_13), (r0, 13, 15, .ref H_14.size), (H_14.size, 3, 10, .int qk_25), (H_14.size, 3, 3, .int ql_25), (spare_13, 3, 3, .int ql_14), (spare_13, 3, 2, .ref text_18), (ta, 2, 1, .int 0), (r0, 13, 0, .ref ta), (ta, 2, 0, .ref tr_)] [(yb_42, 171, 40, ca 1, gb_56), (ye_42, 172, 40, ca 1, ge_56), (tr_, 197, 4000, ca 0, fa)] [(jFdo, jDcc dC dI ca G_25 (some spare_13) pho_42), (jFs11, jSef dC dI G_25), (jFy, jYb dC dI G_25), ([(2, 0), (2, 1)], jOl (dC, dI) G0 2 [ta] s.heap)] H_56 locs_56 := (((hh_54.call hb_561 hb_562 hb_563 hb_564 hS_56 rfl (L1 := [(kernel_52, 7, 1, .ref syntax_55), (r0, 13, 5, .ref kernel_52), (spare_13, 3, 11, .null), (spare_13, 3, 10, .int pk_42), (spare_13, 3, 5, .ref yb_42), (spare_13, 3, 6, .ref ye_42), (r0, 13, 18, .int (-2)), (r0, 13, 16, .ref spare_13), (r0, 13, 15, .ref H_14.size), (H_14.size, 3, 10, .int qk_25), (H_14.size, 3, 3, .int ql_25), (spare_13, 3, 3, .int ql_14), (spare_13, 3, 2, .ref text_18), (ta, 2, 1, .int 0), (r0, 13, 0, .ref ta), (ta, 2, 0, .ref tr_)]) [0, 1, 2, 4, 5, 6, 7, 8, 9, 10, 12, 13, 14, 15, 16, 17] rfl rfl (M1 := [(tr_, 197, 4000, ca 0, fa)]) [3] rfl rfl (I1 := [(jFs11, jSef dC dI G_25), (jFy, jYb dC dI G_25), ([(2, 0), (2, 1)], jOl (dC, dI) G0 2 [ta] s.heap)]) [1, 2, 3] rfl rfl).more hb_565).moreM hb_566).addIs hbE_56
            clear hh_54 ht_56 hvm_56 hz_56 hk_56 hS_56 hb_561 hb_562 hb_563 hb_564 hb_565
            clear hb_566
            clear  hbE_56
            try simp only at hr_57
            obtain ⟨hr_57_0, hr_57_1, hr_57_2, hr_57_3⟩ := hr_57
            obtain ⟨phn_58, hphn_58⟩ : ∃ q : Nat, q = pho_42 := ⟨_, rfl⟩
            have hF_58 := jDcc.full (ph1 := phn_58) (hh_56.iv 0 rfl) hg_27 (hh_56.at 5 rfl) (hh_56.at 6 rfl) ⟨(hh_56.2.2.1.sub (L1 := [(spare_13, 3, 4, .int qs_56), (spare_13, 3, 10, .int pk_42), (spare_13, 3, 11, .null)]) [0, 4, 3] rfl), (hh_56.2.2.2.2.2.2.2.1.sub (L1 := [(yb_42, 171, 40, ca 1, gb_56), (ye_42, 172, 40, ca 1, ge_56)]) [0, 1] rfl), (hr_57_2.mono (by omega)), by omega⟩ (w := (575 * (qs_56.toInt - pk_42.toInt) + (1500 - jEd ge_56 pk_42.toInt)).toNat) (fun h9 => absurd h9 (by decide)) (by omega) (fun h9 => absurd h9 (by decide))
            have hh_59 := hh_56.sub (L1 := [(spare_13, 3, 4, .int qs_56), (kernel_52, 7, 1, .ref syntax_55), (r0, 13, 5, .ref kernel_52), (spare_13, 3, 11, .null), (spare_13, 3, 10, .int pk_42), (spare_13, 3, 5, .ref yb_42), (spare_13, 3, 6, .ref ye_42), (r0, 13, 18, .int (-2)), (r0, 13, 16, .ref spare_13), (r0, 13, 15, .ref H_14.size), (H_14.size, 3, 10, .int qk_25), (H_14.size, 3, 3, .int ql_25), (spare_13, 3, 3, .int ql_14), (spare_13, 3, 2, .ref text_18), (ta, 2, 1, .int 0), (r0, 13, 0, .ref ta), (ta, 2, 0, .ref tr_)]) [0, 1, 2, 3, 4, 5, 6, 7, 8, 9, 10, 11, 12, 13, 14, 15, 16] rfl (M1 := [(yb_42, 171, 40, ca 1, gb_56), (ye_42, 172, 40, ca 1, ge_56), (tr_, 197, 4000, ca 0, fa)]) [0, 1, 2] rfl (I1 := [(jFs11, jSef dC dI G_25), (jFy, jYb dC dI G_25), ([(2, 0), (2, 1)], jOl (dC, dI) G0 2 [ta] s.heap)]) [1, 2, 3] rfl
            clear hh_56
            have hh_60 := hh_59.addI (jDcc.ie hF_58)
            clear hh_59
            refine lv_iconst (v := 0) hx hb dX11_batch_95 (by decide) ?_
            have hjz := jEd.z (fe := ge_56) (k := (0 : Int32).toInt) (by omega)
            refine lv_istore_n (lv' := [(3, .int 0), (2, .ref spare_13), (0, .ref r0), (1, .int a1)]) hx hb dX11_batch_96 rfl hl (by decide) rfl (fun ls hl => ?_)
            have L97 : ∀ (N : Nat) (Gx_61 : jT) (zcx_61 : Nat) (zsx_61 : Nat) (v3_61 : Int32) (H_61 : Heap) (locs_61 : List Loc), jSt (dC, dI) B base G0 Gx_61 EX11_batchP s.heap zcx_61 zsx_61 [(spare_13, 3, 4, .int qs_56), (r0, 13, 5, .ref kernel_52), (spare_13, 3, 11, .null), (spare_13, 3, 10, .int pk_42), (spare_13, 3, 5, .ref yb_42), (spare_13, 3, 6, .ref ye_42), (r0, 13, 18, .int (-2)), (r0, 13, 16, .ref spare_13), (r0, 13, 15, .ref H_14.size), (H_14.size, 3, 10, .int qk_25), (H_14.size, 3, 3, .int ql_25), (spare_13, 3, 3, .int ql_14), (ta, 2, 1, .int 0), (r0, 13, 0, .ref ta), (ta, 2, 0, .ref tr_)] [(yb_42, 171, 40, ca 1, gb_56), (ye_42, 172, 40, ca 1, ge_56), (tr_, 197, 4000, ca 0, fa)] [(jFdo, jDcc dC dI ca Gx_61 none phn_58), (jFs11, jSef dC dI Gx_61), (jFy, jYb dC dI Gx_61), ([(2, 0), (2, 1)], jOl (dC, dI) G0 2 [ta] s.heap)] H_61 locs_61 → (jNk [0, 1, 2, 4, 6, 7, 8, 9, 10, 12, 13, 14, 15, 16]) G0 Gx_61 → jLe G_25 Gx_61 → (0 ≤ v3_61.toInt ∧ v3_61.toInt ≤ qs_56.toInt ∧ zcx_61 ≤ 8 + 24 * v3_61.toInt ∧ zsx_61 ≤ 1720 + 185 * jEd ge_56 v3_61.toInt) → (qs_56.toInt - v3_61.toInt : Int) < N → ∀ ls : Array Slot, lv_has ls 5 [(0, .ref r0), (1, .int a1), (2, .ref spare_13), (3, .int v3_61)] → W p l e R s m ([.ref r0, .int a1] : List Value).toArray below meth c H_61 locs_61 zcx_61 zsx_61 Q (F0 m 97 ls []) := by
              intro N
              induction N with
              | zero => intro Gx_61 zcx_61 zsx_61 v3_61 H_61 locs_61 hh_61 hN_61 hle_61 hi_61 hm; exact absurd hm (by omega)
              | succ N L97 =>
                intro Gx_61 zcx_61 zsx_61 v3_61 H_61 locs_61 hh_61 hN_61 hle_61 hi_61 hm_61 ls hl
                have hg_62 := hle_61 _ _ hg_28
                have hg_63 := hle_61 _ _ hg_27
                have hg_64 := hle_61 _ _ hg_kernel_52
                have hg_65 := hle_61 _ _ hgb_42
                have hg_66 := hle_61 _ _ hge_42
                have hg_67 := hle_61 _ _ hgc_25
                have hg_68 := hle_61 _ _ hg_30
                have hg_69 := hle_61 _ _ hg_31
                obtain ⟨hi_61_0, hi_61_1, hi_61_2, hi_61_3⟩ := hi_61
                have hql := jSn.le hr_57_2 (by omega)
                refine lv_iload_n hx hb dX11_batch_97 rfl (lv_at hl 3 rfl) ?_
                refine lv_aload_n hx hb dX11_batch_98 rfl (lv_at hl 2 rfl) ?_
                refine j7_read hx hb hown hK (C := RX1) (T := TX1) (N := 17) rfl hly_3_4 hlk_168 (hh_61.at 0 rfl) dX11_batch_99 ?_
                refine lv_icmp_ge (tgt := 165) hx hb dX11_batch_102 (by decide) (fun c_70 => ?_) (fun c_70 => ?_)
                · skip
                  have c_70' : v3_61.toInt ≥ qs_56.toInt := jb_ge (rfl) (rfl) c_70
                  have hjl := jEd.le hr_57_2 (k := v3_61.toInt) (by omega) (by omega) (by omega)
                  refine lv_aload_n hx hb dX11_batch_165 rfl (lv_at hl 2 rfl) ?_
                  refine j7_read hx hb hown hK (C := RX1) (T := TX1) (N := 17) rfl hly_3_4 hlk_168 (hh_61.at 0 rfl) dX11_batch_166 ?_
                  have hsz_71 := hh_61.2.2.2.2.2.1
                  have htt_71 := hh_61.2.2.2.2.2.2.1
                  refine W.room (fun hrc_71 hrs_71 => ?_)
                  refine W.widen (k := LC - s.heap.size) (n := LS - jTot s.heap) (by omega) (by omega) ?_
                  rw [hQ]
                  exact W.iret (v := qs_56) hx hb hr (fun t ht hW => ⟨⟨qs_56, (0, phn_58, (pt.toInt.toNat - (0 : Int).toNat), Gx_61), rfl, by skip; (try dsimp only); refine ⟨by omega, by omega, by omega, ?_⟩; exact Or.inr ⟨by omega, by omega, jBa.part (hr_15p_3.yes (by omega)).1 (by omega) (hr_15p_3.yes (by omega)).2 hr_57_3⟩, ⟨hh_61.ra (by first | (simp only; omega) | omega) (by first | (simp only; omega) | omega) (M1 := [(ta, 2, 1, .int 0)]) [12] rfl ht, hN_61, by rw [ht]; exact hh_61.iv 3 rfl, by rw [ht]; exact hh_61.2.2.2.2.2.2.2.2.sub (L1 := [(jFy, jYb dC dI Gx_61), (jFs11, jSef dC dI Gx_61), (jFdo, jDcc dC dI ca Gx_61 none phn_58)]) [2, 1, 0] rfl⟩⟩, by rw [ht]; try exact hh_61.1.1, fun q h9 hq => by rw [ht]; try exact hh_61.1.2.1 q h9 hq⟩) hh_61.1.2.2 dX11_batch_169
                · skip
                  have c_70' : v3_61.toInt < qs_56.toInt := jb_ge_n (rfl) (rfl) c_70
                  have hn2 := jEd.nx hr_57_2 (k := v3_61.toInt) (by omega) (by omega)
                  have hnb := jEd.nx (hr_57_2.mono (by omega) : jSn _ _ _ 1500) (k := v3_61.toInt) (by omega) (by omega)
                  refine lv_aload_n hx hb dX11_batch_105 rfl (lv_at hl 2 rfl) ?_
                  obtain ⟨v_72, hv_72, hh_73⟩ := hh_61.pin (C := RX1) (T := TX1) (N := 17) hB3 rfl (by decide) hg_63 (i := 2) (by decide) rfl
                  clear hh_61
                  obtain ⟨text_74, rfl, hg_text_74⟩ := hv_72
                  refine j7_read hx hb hown hK (C := RX1) (T := TX1) (N := 17) rfl hly_3_2 hlk_174 (hh_73.at 0 rfl) dX11_batch_106 ?_
                  refine lv_aload_n hx hb dX11_batch_109 rfl (lv_at hl 2 rfl) ?_
                  refine j7_read hx hb hown hK (C := RX1) (T := TX1) (N := 17) rfl hly_3_5 hlk_182 (hh_73.at 5 rfl) dX11_batch_110 ?_
                  refine lv_iload_n hx hb dX11_batch_113 rfl (lv_at hl 3 rfl) ?_
                  refine j7_ialdM hx hb hK hh_73 hB171 1 rfl (by decide) hg_65 (x := v3_61.toInt) (rfl) (by omega) (j := 0) rfl dX11_batch_114 (fun z_75 ez_75 (hz_75 : 0 ≤ z_75.toInt ∧ z_75.toInt ≤ 1500) => ?_)
                  have hqz_75 : z_75.toInt = jSo gb_56 (v3_61.toInt) := by unfold jSo; rw [ez_75]
                  refine lv_aload_n hx hb dX11_batch_115 rfl (lv_at hl 2 rfl) ?_
                  refine j7_read hx hb hown hK (C := RX1) (T := TX1) (N := 17) rfl hly_3_6 hlk_185 (hh_73.at 6 rfl) dX11_batch_116 ?_
                  refine lv_iload_n hx hb dX11_batch_119 rfl (lv_at hl 3 rfl) ?_
                  refine j7_ialdM hx hb hK hh_73 hB172 1 rfl (by decide) hg_66 (x := v3_61.toInt) (rfl) (by omega) (j := 1) rfl dX11_batch_120 (fun z_76 ez_76 (hz_76 : 0 ≤ z_76.toInt ∧ z_76.toInt ≤ 1500) => ?_)
                  have hqz_76 : z_76.toInt = jSo ge_56 (v3_61.toInt) := by unfold jSo; rw [ez_76]
                  have hsz_77 := hh_73.2.2.2.2.2.1
                  have htt_77 := hh_73.2.2.2.2.2.2.1
                  refine W.room (fun hrc_77 hrs_77 => ?_)
                  refine j_callx (A0 := jA base) (H0 := s.heap) (va_runS (As := [.ref text_74, .int z_75, .int z_76]) (rest := []) ⟨hx, hb, hml, hown, hts⟩ (uJ7_copyOfRange_feeccU l dC dI ca base B hB hAp hB101 hB280 Gx_61 H_61 text_74 z_75 z_76 1500 LC LS) (va_cwS 3 hts (jgS (jWr_77 _ (List.mem_of_getElem? (i := 21) rfl)) (jWr_77 _ (List.mem_of_getElem? (i := 22) rfl)) (jWr_16 _ (List.mem_of_getElem? (i := 7) rfl)) (jWr_77 _ (List.mem_of_getElem? (i := 23) rfl))) rfl rfl rfl (by decide +kernel) ⟨by rw [← hR]; exact Nat.le_of_ble_eq_true rfl, by rw [← hR]; exact Nat.le_of_ble_eq_true rfl⟩) ⟨fun a U g mk q => by obtain ⟨q0, q1, q2, qK, q10, q11, q12, q13⟩ := q; exact ⟨q0, q1, q2, jG.calling g mk a qK, (jK8.calling g mk a q10), q11, q12, q13⟩, fun U hU hW => ⟨rfl, hU, hh_73.2.1, hG.step hW hU hh_73.1, (jK8.warm hW hK8), hg_text_74, jP.nil, ⟨(by first | (with_reducible assumption) | omega | rfl | fail), (by first | (with_reducible assumption) | omega | rfl | fail), (by first | (with_reducible assumption) | omega | rfl | fail), (by first | (with_reducible assumption) | omega | rfl | fail)⟩⟩⟩ rfl rfl hl.1 rfl (lv_room (Nat.le_of_ble_eq_true rfl)) dX11_batch_121 ⟨by rw [hRc]; omega, by rw [hRs]; omega⟩) hh_73.1 (fun q _ h => h) (fun q h => h) (fun r_78 u_77 t_77 H_77 locs_77 ht_77 hvm_77 hr_78 hb_77 hz_77 hk_77 hS_77 => ?_)
                  rw [ht_77] at hb_77
                  obtain ⟨m_ret_77, G_77⟩ := u_77
                  simp only at hb_77
                  obtain ⟨⟨hb_771, hb_772, hb_773, hb_774, hb_775, hb_776⟩, hN_77, hbK_77⟩ := hb_77
                  have hE9_77 := hN_77
                  have hM_77 := hN_77
                  have hN_77 : (jNk [0, 1, 2, 4, 6, 7, 8, 9, 10, 12, 13, 14, 15, 16]) Gx_61 G_77 := hN_77.sub (by decide)
                  have hh_77 : jSt (dC, dI) B base G0 G_77 EX11_batchP s.heap (zcx_61 + (1)) (zsx_61 + (m_ret_77)) [(spare_13, 3, 2, .ref text_74), (spare_13, 3, 4, .int qs_56), (r0, 13, 5, .ref kernel_52), (spare_13, 3, 11, .null), (spare_13, 3, 10, .int pk_42), (spare_13, 3, 5, .ref yb_42), (spare_13, 3, 6, .ref ye_42), (r0, 13, 18, .int (-2)), (r0, 13, 16, .ref spare_13), (r0, 13, 15, .ref H_14.size), (H_14.size, 3, 10, .int qk_25), (H_14.size, 3, 3, .int ql_25), (spare_13, 3, 3, .int ql_14), (ta, 2, 1, .int 0), (r0, 13, 0, .ref ta), (ta, 2, 0, .ref tr_)] [(yb_42, 171, 40, ca 1, gb_56), (ye_42, 172, 40, ca 1, ge_56), (tr_, 197, 4000, ca 0, fa)] [(jFdo, jDcc dC dI ca Gx_61 none phn_58), (jFs11, jSef dC dI Gx_61), (jFy, jYb dC dI Gx_61), ([(2, 0), (2, 1)], jOl (dC, dI) G0 2 [ta] s.heap)] H_77 locs_77 := (hh_73.callG hb_771 hb_772 hb_773 hb_774 hb_775 hS_77 rfl (L1 := [(spare_13, 3, 2, .ref text_74), (spare_13, 3, 4, .int qs_56), (r0, 13, 5, .ref kernel_52), (spare_13, 3, 11, .null), (spare_13, 3, 10, .int pk_42), (spare_13, 3, 5, .ref yb_42), (spare_13, 3, 6, .ref ye_42), (r0, 13, 18, .int (-2)), (r0, 13, 16, .ref spare_13), (r0, 13, 15, .ref H_14.size), (H_14.size, 3, 10, .int qk_25), (H_14.size, 3, 3, .int ql_25), (spare_13, 3, 3, .int ql_14), (ta, 2, 1, .int 0), (r0, 13, 0, .ref ta), (ta, 2, 0, .ref tr_)]) [0, 1, 2, 3, 4, 5, 6, 7, 8, 9, 10, 11, 12, 13, 14, 15] rfl rfl (M1 := [(yb_42, 171, 40, ca 1, gb_56), (ye_42, 172, 40, ca 1, ge_56), (tr_, 197, 4000, ca 0, fa)]) [0, 1, 2] rfl rfl (I1 := [(jFdo, jDcc dC dI ca Gx_61 none phn_58), (jFs11, jSef dC dI Gx_61), (jFy, jYb dC dI Gx_61), ([(2, 0), (2, 1)], jOl (dC, dI) G0 2 [ta] s.heap)]) [0, 1, 2, 3] rfl rfl).more hb_776
                  have hNn_77 : (jNk [0, 1, 2, 4, 6, 7, 8, 9, 10, 12, 13, 14, 15, 16]) G0 G_77 := (hN_61).tr hN_77
                  have hg_79 := hb_772 _ _ hg_62
                  have hg_80 := hb_772 _ _ hg_63
                  have hg_81 := hb_772 _ _ hg_text_74
                  have hg_82 := hb_772 _ _ hg_64
                  have hg_83 := hb_772 _ _ hg_65
                  have hg_84 := hb_772 _ _ hg_66
                  have hg_85 := hb_772 _ _ hg_67
                  have hg_86 := hb_772 _ _ hg_68
                  have hg_87 := hb_772 _ _ hg_69
                  have hd_88 := jDcc.grow (hh_77.iv 0 rfl) hb_772 hE9_77 (by decide)
                  have hh_89 := hh_77.sub (L1 := [(spare_13, 3, 2, .ref text_74), (spare_13, 3, 4, .int qs_56), (r0, 13, 5, .ref kernel_52), (spare_13, 3, 11, .null), (spare_13, 3, 10, .int pk_42), (spare_13, 3, 5, .ref yb_42), (spare_13, 3, 6, .ref ye_42), (r0, 13, 18, .int (-2)), (r0, 13, 16, .ref spare_13), (r0, 13, 15, .ref H_14.size), (H_14.size, 3, 10, .int qk_25), (H_14.size, 3, 3, .int ql_25), (spare_13, 3, 3, .int ql_14), (ta, 2, 1, .int 0), (r0, 13, 0, .ref ta), (ta, 2, 0, .ref tr_)]) [0, 1, 2, 3, 4, 5, 6, 7, 8, 9, 10, 11, 12, 13, 14, 15] rfl (M1 := [(yb_42, 171, 40, ca 1, gb_56), (ye_42, 172, 40, ca 1, ge_56), (tr_, 197, 4000, ca 0, fa)]) [0, 1, 2] rfl (I1 := [(jFs11, jSef dC dI Gx_61), (jFy, jYb dC dI Gx_61), ([(2, 0), (2, 1)], jOl (dC, dI) G0 2 [ta] s.heap)]) [1, 2, 3] rfl
                  clear hh_77
                  have hh_90 := hh_89.addI (jDcc.ie hd_88)
                  clear hh_89
                  have hd_91 := jSef.grow (hh_90.iv 1 rfl) hb_772 hM_77 (by decide)
                  have hh_92 := hh_90.sub (L1 := [(spare_13, 3, 2, .ref text_74), (spare_13, 3, 4, .int qs_56), (r0, 13, 5, .ref kernel_52), (spare_13, 3, 11, .null), (spare_13, 3, 10, .int pk_42), (spare_13, 3, 5, .ref yb_42), (spare_13, 3, 6, .ref ye_42), (r0, 13, 18, .int (-2)), (r0, 13, 16, .ref spare_13), (r0, 13, 15, .ref H_14.size), (H_14.size, 3, 10, .int qk_25), (H_14.size, 3, 3, .int ql_25), (spare_13, 3, 3, .int ql_14), (ta, 2, 1, .int 0), (r0, 13, 0, .ref ta), (ta, 2, 0, .ref tr_)]) [0, 1, 2, 3, 4, 5, 6, 7, 8, 9, 10, 11, 12, 13, 14, 15] rfl (M1 := [(yb_42, 171, 40, ca 1, gb_56), (ye_42, 172, 40, ca 1, ge_56), (tr_, 197, 4000, ca 0, fa)]) [0, 1, 2] rfl (I1 := [(jFdo, jDcc dC dI ca G_77 none phn_58), (jFy, jYb dC dI Gx_61), ([(2, 0), (2, 1)], jOl (dC, dI) G0 2 [ta] s.heap)]) [0, 2, 3] rfl
                  clear hh_90
                  have hh_93 := hh_92.addI (jSef.ie hd_91)
                  clear hh_92
                  have hd_94 := jYb.grow (hh_93.iv 2 rfl) hb_772 hN_77 (by decide)
                  have hh_95 := hh_93.sub (L1 := [(spare_13, 3, 2, .ref text_74), (spare_13, 3, 4, .int qs_56), (r0, 13, 5, .ref kernel_52), (spare_13, 3, 11, .null), (spare_13, 3, 10, .int pk_42), (spare_13, 3, 5, .ref yb_42), (spare_13, 3, 6, .ref ye_42), (r0, 13, 18, .int (-2)), (r0, 13, 16, .ref spare_13), (r0, 13, 15, .ref H_14.size), (H_14.size, 3, 10, .int qk_25), (H_14.size, 3, 3, .int ql_25), (spare_13, 3, 3, .int ql_14), (ta, 2, 1, .int 0), (r0, 13, 0, .ref ta), (ta, 2, 0, .ref tr_)]) [0, 1, 2, 3, 4, 5, 6, 7, 8, 9, 10, 11, 12, 13, 14, 15] rfl (M1 := [(yb_42, 171, 40, ca 1, gb_56), (ye_42, 172, 40, ca 1, ge_56), (tr_, 197, 4000, ca 0, fa)]) [0, 1, 2] rfl (I1 := [(jFs11, jSef dC dI G_77), (jFdo, jDcc dC dI ca G_77 none phn_58), ([(2, 0), (2, 1)], jOl (dC, dI) G0 2 [ta] s.heap)]) [0, 1, 3] rfl
                  clear hh_93
                  have hh_96 := hh_95.addI (jYb.ie hd_94)
                  clear hh_95
                  obtain ⟨hr_78, hr_78n, hr_78p⟩ := hr_78
                  try simp only at hr_78p
                  obtain ⟨ret_97, rfl, hg_ret_97⟩ := hr_78
                  have hsy_77 : s.heap.size ≤ ret_97 := Nat.le_trans hh_73.1.1 hr_78n.le
                  refine lv_astore (lv' := [(4, .ref ret_97), (0, .ref r0), (1, .int a1), (2, .ref spare_13), (3, .int v3_61)]) hx hb dX11_batch_124 hl (by decide) rfl (fun ls hl => ?_)
                  refine lv_aload_n hx hb dX11_batch_126 rfl (lv_at hl 3 rfl) ?_
                  obtain ⟨v_98, hv_98, hh_99⟩ := hh_96.pin (C := RX1) (T := TX1) (N := 17) hB3 rfl (by decide) hg_80 (i := 9) (by decide) rfl
                  clear hh_96
                  obtain ⟨behind_100, rfl, hg_behind_100⟩ := hv_98
                  refine j7_read hx hb hown hK (C := RX1) (T := TX1) (N := 17) rfl hly_3_9 hlk_178 (hh_99.at 0 rfl) dX11_batch_127 ?_
                  refine lv_iload_n hx hb dX11_batch_130 rfl (lv_at hl 4 rfl) ?_
                  refine lv_aload_n hx hb dX11_batch_131 rfl (lv_at hl 1 rfl) ?_
                  refine j7_read hx hb hown hK (C := RX11) (T := TX11) (N := 19) rfl hly_13_5 hlk_41 (hh_99.at 3 rfl) dX11_batch_132 ?_
                  refine lv_aload_n hx hb dX11_batch_135 rfl (lv_at hl 3 rfl) ?_
                  refine lv_iload_n hx hb dX11_batch_136 rfl (lv_at hl 4 rfl) ?_
                  refine lv_aload_n hx hb dX11_batch_137 rfl (lv_at hl 1 rfl) ?_
                  refine j7_read hx hb hown hK (C := RX11) (T := TX11) (N := 19) rfl hly_13_5 hlk_41 (hh_99.at 3 rfl) dX11_batch_138 ?_
                  obtain ⟨v_101, hv_101, hh_102⟩ := hh_99.pin (C := RX5) (T := TX5) (N := 11) hB7 rfl (by decide) hg_82 (i := 2) (by decide) rfl
                  clear hh_99
                  obtain ⟨start_103, rfl, hg_start_103⟩ := hv_101
                  refine j7_read hx hb hown hK (C := RX5) (T := TX5) (N := 11) rfl hly_7_2 hlk_217 (hh_102.at 0 rfl) dX11_batch_141 ?_
                  have hsz_104 := hh_102.2.2.2.2.2.1
                  have htt_104 := hh_102.2.2.2.2.2.2.1
                  refine W.room (fun hrc_104 hrs_104 => ?_)
                  refine j_callx (A0 := jA base) (H0 := s.heap) (va_runV (As := [.int v3_61, .ref start_103]) (rest := [.ref kernel_52, .int v3_61, .ref behind_100]) ⟨hx, hb, hml, hown, hts⟩ (uX1_stateBehind l dC dI ca base B hB hAp hB3 hB11 hB210 G_77 H_77 spare_13 v3_61 start_103 1) (cwV 2 hts (jgV (jWr_30 _ (List.mem_of_getElem? (i := 9) rfl)) (jWr_30 _ (List.mem_of_getElem? (i := 10) rfl)) (jWr_30 _ (List.mem_of_getElem? (i := 11) rfl)) (jWr_2 _ (List.mem_of_getElem? (i := 21) rfl)) (jWr_30 _ (List.mem_of_getElem? (i := 12) rfl))) rfl rfl rfl (by decide +kernel) ⟨by rw [← hR]; exact Nat.le_of_ble_eq_true rfl, by rw [← hR]; exact Nat.le_of_ble_eq_true rfl⟩) ⟨fun a U g mk q => by obtain ⟨q0, q1, q2, qK, q10, q11, q12, q13, q14⟩ := q; exact ⟨q0, q1, q2, jG.calling g mk a qK, (va_K.moved (Vm.Alike.refl U.vm) q10), q11, q12, q13, q14⟩, hh_102.recv (C := RX1) (T := TX1) (N := 17) hB3 rfl (by decide) hg_80 hK, fun U hU hW => ⟨rfl, hU, hh_102.2.1, hG.step hW hU hh_102.1, va_K.moved hW.alike hK2, hg_80, hg_start_103, jP.nil, trivial⟩⟩ rfl rfl hl.1 rfl (lv_room (Nat.le_of_ble_eq_true rfl)) dX11_batch_144 ⟨by rw [hRc]; show _ + 0 ≤ _; omega, by rw [hRs]; show _ + 0 ≤ _; omega⟩) hh_102.1 (fun q _ h => h) (fun q h => h) (fun r_105 u_104 t_104 H_104 locs_104 ht_104 hvm_104 hr_105 hb_104 hz_104 hk_104 hS_104 => ?_)
                  rw [ht_104] at hb_104
                  obtain ⟨hb_1041, hb_1042, hb_1043, hb_1044, hb_1045⟩ := hb_104
                  have hh_104 : jSt (dC, dI) B base G0 G_77 EX11_batchP s.heap (zcx_61 + (1)) (zsx_61 + (m_ret_77)) [(kernel_52, 7, 2, .ref start_103), (spare_13, 3, 9, .ref behind_100), (spare_13, 3, 2, .ref text_74), (spare_13, 3, 4, .int qs_56), (r0, 13, 5, .ref kernel_52), (spare_13, 3, 11, .null), (spare_13, 3, 10, .int pk_42), (spare_13, 3, 5, .ref yb_42), (spare_13, 3, 6, .ref ye_42), (r0, 13, 18, .int (-2)), (r0, 13, 16, .ref spare_13), (r0, 13, 15, .ref H_14.size), (H_14.size, 3, 10, .int qk_25), (H_14.size, 3, 3, .int ql_25), (spare_13, 3, 3, .int ql_14), (ta, 2, 1, .int 0), (r0, 13, 0, .ref ta), (ta, 2, 0, .ref tr_)] [(yb_42, 171, 40, ca 1, gb_56), (ye_42, 172, 40, ca 1, ge_56), (tr_, 197, 4000, ca 0, fa)] [(jFy, jYb dC dI G_77), (jFs11, jSef dC dI G_77), (jFdo, jDcc dC dI ca G_77 none phn_58), ([(2, 0), (2, 1)], jOl (dC, dI) G0 2 [ta] s.heap)] H_104 locs_104 := ((hh_102.call hb_1041 hb_1042 hb_1043 hb_1044 hS_104 rfl (L1 := [(kernel_52, 7, 2, .ref start_103), (spare_13, 3, 9, .ref behind_100), (spare_13, 3, 2, .ref text_74), (spare_13, 3, 4, .int qs_56), (r0, 13, 5, .ref kernel_52), (spare_13, 3, 11, .null), (spare_13, 3, 10, .int pk_42), (spare_13, 3, 5, .ref yb_42), (spare_13, 3, 6, .ref ye_42), (r0, 13, 18, .int (-2)), (r0, 13, 16, .ref spare_13), (r0, 13, 15, .ref H_14.size), (H_14.size, 3, 10, .int qk_25), (H_14.size, 3, 3, .int ql_25), (spare_13, 3, 3, .int ql_14), (ta, 2, 1, .int 0), (r0, 13, 0, .ref ta), (ta, 2, 0, .ref tr_)]) [0, 1, 2, 3, 4, 5, 6, 7, 8, 9, 10, 11, 12, 13, 14, 15, 16, 17] rfl rfl (M1 := [(yb_42, 171, 40, ca 1, gb_56), (ye_42, 172, 40, ca 1, ge_56), (tr_, 197, 4000, ca 0, fa)]) [0, 1, 2] rfl rfl (I1 := [(jFy, jYb dC dI G_77), (jFs11, jSef dC dI G_77), (jFdo, jDcc dC dI ca G_77 none phn_58), ([(2, 0), (2, 1)], jOl (dC, dI) G0 2 [ta] s.heap)]) [0, 1, 2, 3] rfl rfl).more hb_1045)
                  clear hh_102 ht_104 hvm_104 hz_104 hk_104 hS_104 hb_1041 hb_1042 hb_1043 hb_1044 hb_1045
                  obtain ⟨ret_106, rfl, hg_ret_106⟩ := hr_105
                  refine lv_aload hx hb dX11_batch_147 (lv_at hl 0 rfl) ?_
                  refine lv_aload_n hx hb dX11_batch_149 rfl (lv_at hl 3 rfl) ?_
                  obtain ⟨v_107, hv_107, hh_108⟩ := hh_104.pin (C := RX1) (T := TX1) (N := 17) hB3 rfl (by decide) hg_80 (i := 8) (by decide) rfl
                  clear hh_104
                  obtain ⟨early_109, rfl, hg_early_109⟩ := hv_107
                  refine j7_read hx hb hown hK (C := RX1) (T := TX1) (N := 17) rfl hly_3_8 hlk_225 (hh_108.at 0 rfl) dX11_batch_150 ?_
                  refine lv_iload_n hx hb dX11_batch_153 rfl (lv_at hl 4 rfl) ?_
                  refine j7_iald hx hb hK hh_108 hB101 1 rfl (by decide) hg_early_109 (x := v3_61.toInt) (rfl) (by omega) dX11_batch_154 (fun z_110 (hz_110 : True) => ?_)
                  have hsz_111 := hh_108.2.2.2.2.2.1
                  have htt_111 := hh_108.2.2.2.2.2.2.1
                  refine W.room (fun hrc_111 hrs_111 => ?_)
                  refine j_callx (A0 := jA base) (H0 := s.heap) (va_runV (As := [.ref ret_106, .ref ret_97, .int z_110]) (rest := [.int v3_61, .ref behind_100]) ⟨hx, hb, hml, hown, hts⟩ (uX5_checkS l dC dI ca base B hB hAp hB5 hB7 hB8 hB11 hB12 hB101 hB102 hB132 hB133 hB211 hB214 hB280 hB290 hB291 hB292 hB293 hB313 hB315 G_77 H_104 kernel_52 ret_106 ret_97 z_110 m_ret_77 (min 1 (m_ret_77 / 3)) LC LS) (cwV 3 hts (jgV (jWr_78 _ (List.mem_of_getElem? (i := 14) rfl)) (jWr_78 _ (List.mem_of_getElem? (i := 15) rfl)) (jWr_78 _ (List.mem_of_getElem? (i := 16) rfl)) (jWr_2 _ (List.mem_of_getElem? (i := 4) rfl)) (jWr_78 _ (List.mem_of_getElem? (i := 17) rfl))) rfl rfl rfl (by decide +kernel) ⟨by rw [← hR]; exact Nat.le_of_ble_eq_true rfl, by rw [← hR]; exact Nat.le_of_ble_eq_true rfl⟩) ⟨fun a U g mk q => by obtain ⟨q0, q1, q2, qK, q10, q11, q12, q13, q14, q15, q16, q17, q18⟩ := q; exact ⟨q0, q1, q2, jG.calling g mk a qK, (va_K.moved (Vm.Alike.refl U.vm) q10), (jK5.moved (Vm.Alike.refl U.vm) q11), (jK6.moved (Vm.Alike.refl U.vm) q12), q13, q14, q15, q16, q17, q18⟩, hh_108.recv (C := RX5) (T := TX5) (N := 11) hB7 rfl (by decide) hg_82 hK, fun U hU hW => ⟨rfl, hU, hh_108.2.1, hG.step hW hU hh_108.1, va_K.moved hW.alike hK2, jK5.moved hW.alike hK5, jK6.moved hW.alike hK6, hg_82, hg_ret_106, hg_ret_97, jP.nil, (hh_108.2.2.2.2.2.2.2.2.sub (L1 := [(jFs11, jSef dC dI G_77)]) [1] rfl), ⟨(by first | (with_reducible assumption) | omega | rfl | fail), (by first | (with_reducible assumption) | assumption | omega | rfl | fail)⟩⟩⟩ rfl rfl hl.1 rfl (lv_room (Nat.le_of_ble_eq_true rfl)) dX11_batch_155 ⟨by rw [hRc]; omega, by rw [hRs]; omega⟩) hh_108.1 (fun q _ h => h) (fun q h => h) (fun r_112 u_111 t_111 H_111 locs_111 ht_111 hvm_111 hr_112 hb_111 hz_111 hk_111 hS_111 => ?_)
                  rw [ht_111] at hb_111
                  obtain ⟨G_111, rfl⟩ : ∃ z, z = u_111 := ⟨_, rfl⟩
                  try simp only at hb_111
                  obtain ⟨⟨hb_1111, hb_1112, hb_1113, hb_1114, hb_1115, hb_1116⟩, hN_111, hbE_111⟩ := hb_111
                  have hE9_111 := hN_111
                  have hN_111 : (jNk [0, 1, 2, 4, 6, 7, 8, 9, 10, 12, 13, 14, 15, 16]) G_77 G_111 := hN_111.sub (by decide)
                  have hh_111 : jSt (dC, dI) B base G0 G_111 EX11_batchP s.heap ((zcx_61 + (1)) + (23)) ((zsx_61 + (m_ret_77)) + ((183 + 336 * (min 1 (m_ret_77 / 3))))) [(spare_13, 3, 8, .ref early_109), (kernel_52, 7, 2, .ref start_103), (spare_13, 3, 9, .ref behind_100), (spare_13, 3, 2, .ref text_74), (spare_13, 3, 4, .int qs_56), (r0, 13, 5, .ref kernel_52), (spare_13, 3, 11, .null), (spare_13, 3, 10, .int pk_42), (spare_13, 3, 5, .ref yb_42), (spare_13, 3, 6, .ref ye_42), (r0, 13, 18, .int (-2)), (r0, 13, 16, .ref spare_13), (r0, 13, 15, .ref H_14.size), (H_14.size, 3, 10, .int qk_25), (H_14.size, 3, 3, .int ql_25), (spare_13, 3, 3, .int ql_14), (ta, 2, 1, .int 0), (r0, 13, 0, .ref ta), (ta, 2, 0, .ref tr_)] [(yb_42, 171, 40, ca 1, gb_56), (ye_42, 172, 40, ca 1, ge_56), (tr_, 197, 4000, ca 0, fa)] [(jFy, jYb dC dI G_77), (jFdo, jDcc dC dI ca G_77 none phn_58), ([(2, 0), (2, 1)], jOl (dC, dI) G0 2 [ta] s.heap)] H_111 locs_111 := (hh_108.callG hb_1111 hb_1112 hb_1113 hb_1114 hb_1115 hS_111 rfl (L1 := [(spare_13, 3, 8, .ref early_109), (kernel_52, 7, 2, .ref start_103), (spare_13, 3, 9, .ref behind_100), (spare_13, 3, 2, .ref text_74), (spare_13, 3, 4, .int qs_56), (r0, 13, 5, .ref kernel_52), (spare_13, 3, 11, .null), (spare_13, 3, 10, .int pk_42), (spare_13, 3, 5, .ref yb_42), (spare_13, 3, 6, .ref ye_42), (r0, 13, 18, .int (-2)), (r0, 13, 16, .ref spare_13), (r0, 13, 15, .ref H_14.size), (H_14.size, 3, 10, .int qk_25), (H_14.size, 3, 3, .int ql_25), (spare_13, 3, 3, .int ql_14), (ta, 2, 1, .int 0), (r0, 13, 0, .ref ta), (ta, 2, 0, .ref tr_)]) [0, 1, 2, 3, 4, 5, 6, 7, 8, 9, 10, 11, 12, 13, 14, 15, 16, 17, 18] rfl rfl (M1 := [(yb_42, 171, 40, ca 1, gb_56), (ye_42, 172, 40, ca 1, ge_56), (tr_, 197, 4000, ca 0, fa)]) [0, 1, 2] rfl rfl (I1 := [(jFy, jYb dC dI G_77), (jFdo, jDcc dC dI ca G_77 none phn_58), ([(2, 0), (2, 1)], jOl (dC, dI) G0 2 [ta] s.heap)]) [0, 2, 3] rfl rfl).more hb_1116
                  have hNn_111 : (jNk [0, 1, 2, 4, 6, 7, 8, 9, 10, 12, 13, 14, 15, 16]) G0 G_111 := (hNn_77).tr hN_111
                  have hg_113 := hb_1112 _ _ hg_ret_97
                  have hg_114 := hb_1112 _ _ hg_79
                  have hg_115 := hb_1112 _ _ hg_80
                  have hg_116 := hb_1112 _ _ hg_behind_100
                  have hg_117 := hb_1112 _ _ hg_early_109
                  have hg_118 := hb_1112 _ _ hg_start_103
                  have hg_119 := hb_1112 _ _ hg_81
                  have hg_120 := hb_1112 _ _ hg_82
                  have hg_121 := hb_1112 _ _ hg_83
                  have hg_122 := hb_1112 _ _ hg_84
                  have hg_123 := hb_1112 _ _ hg_85
                  have hg_124 := hb_1112 _ _ hg_86
                  have hg_125 := hb_1112 _ _ hg_87
                  have hd_126 := jYb.grow (hh_111.iv 0 rfl) hb_1112 hN_111 (by decide)
                  have hh_127 := hh_111.sub (L1 := [(spare_13, 3, 8, .ref early_109), (kernel_52, 7, 2, .ref start_103), (spare_13, 3, 9, .ref behind_100), (spare_13, 3, 2, .ref text_74), (spare_13, 3, 4, .int qs_56), (r0, 13, 5, .ref kernel_52), (spare_13, 3, 11, .null), (spare_13, 3, 10, .int pk_42), (spare_13, 3, 5, .ref yb_42), (spare_13, 3, 6, .ref ye_42), (r0, 13, 18, .int (-2)), (r0, 13, 16, .ref spare_13), (r0, 13, 15, .ref H_14.size), (H_14.size, 3, 10, .int qk_25), (H_14.size, 3, 3, .int ql_25), (spare_13, 3, 3, .int ql_14), (ta, 2, 1, .int 0), (r0, 13, 0, .ref ta), (ta, 2, 0, .ref tr_)]) [0, 1, 2, 3, 4, 5, 6, 7, 8, 9, 10, 11, 12, 13, 14, 15, 16, 17, 18] rfl (M1 := [(yb_42, 171, 40, ca 1, gb_56), (ye_42, 172, 40, ca 1, ge_56), (tr_, 197, 4000, ca 0, fa)]) [0, 1, 2] rfl (I1 := [(jFdo, jDcc dC dI ca G_77 none phn_58), ([(2, 0), (2, 1)], jOl (dC, dI) G0 2 [ta] s.heap)]) [1, 2] rfl
                  clear hh_111
                  have hh_128 := hh_127.addI (jYb.ie hd_126)
                  clear hh_127
                  have hd_129 := jDcc.grow (hh_128.iv 1 rfl) hb_1112 hE9_111 (by decide)
                  have hh_130 := hh_128.sub (L1 := [(spare_13, 3, 8, .ref early_109), (kernel_52, 7, 2, .ref start_103), (spare_13, 3, 9, .ref behind_100), (spare_13, 3, 2, .ref text_74), (spare_13, 3, 4, .int qs_56), (r0, 13, 5, .ref kernel_52), (spare_13, 3, 11, .null), (spare_13, 3, 10, .int pk_42), (spare_13, 3, 5, .ref yb_42), (spare_13, 3, 6, .ref ye_42), (r0, 13, 18, .int (-2)), (r0, 13, 16, .ref spare_13), (r0, 13, 15, .ref H_14.size), (H_14.size, 3, 10, .int qk_25), (H_14.size, 3, 3, .int ql_25), (spare_13, 3, 3, .int ql_14), (ta, 2, 1, .int 0), (r0, 13, 0, .ref ta), (ta, 2, 0, .ref tr_)]) [0, 1, 2, 3, 4, 5, 6, 7, 8, 9, 10, 11, 12, 13, 14, 15, 16, 17, 18] rfl (M1 := [(yb_42, 171, 40, ca 1, gb_56), (ye_42, 172, 40, ca 1, ge_56), (tr_, 197, 4000, ca 0, fa)]) [0, 1, 2] rfl (I1 := [(jFy, jYb dC dI G_111), ([(2, 0), (2, 1)], jOl (dC, dI) G0 2 [ta] s.heap)]) [0, 2] rfl
                  clear hh_128
                  have hh_131 := hh_130.addI (jDcc.ie hd_129)
                  clear hh_130
                  have hh_132 := hh_131.addIs hbE_111
                  obtain ⟨hr_112, hr_112p⟩ := hr_112
                  try simp only at hr_112p
                  obtain ⟨ret_133, rfl, hg_ret_133⟩ := hr_112
                  refine j7_qast hx hb hK2 hh_132 hB hB210 2 rfl (by decide) (by decide) rfl rfl rfl hg_116 (x := v3_61.toInt) (rfl) (by omega) hB11 (T := TX9) (N := 9) rfl (by decide) hg_ret_133 (Or.inr ⟨_, rfl, hg_ret_133⟩) dX11_batch_158 (fun H_134 locs_134 hh_134 => ?_)
                  clear hh_132
                  obtain ⟨z_135, ez_135⟩ : ∃ y : Int32, y = v3_61 + 1 := ⟨_, rfl⟩
                  refine lv_iinc (v := z_135) (lv' := [(3, .int z_135), (4, .ref ret_97), (0, .ref r0), (1, .int a1), (2, .ref spare_13)]) hx hb dX11_batch_159 hl (k := 4) rfl (by rw [ez_135]; rfl) (by decide) rfl (fun ls hl => ?_)
                  have hz_135 : z_135.toInt = v3_61.toInt + 1 := by rw [ez_135]; exact jb_iadd2 (rfl) (by decide) (by omega)
                  have hje := jEd.to hnb.2.2.1 (k1 := z_135.toInt) (by omega)
                  refine lv_goto (tgt := 97) hx hb dX11_batch_162 (by decide) ?_
                  refine W.tight (c2 := ((zcx_61 + (1)) + (23))) (n2 := ((zsx_61 + (m_ret_77)) + ((183 + 336 * (min 1 (m_ret_77 / 3)))))) hh_134.2.2.2.2.2.1 hh_134.2.2.2.2.2.2.1 ?_
                  exact L97 G_111 ((zcx_61 + (1)) + (23)) ((zsx_61 + (m_ret_77)) + ((183 + 336 * (min 1 (m_ret_77 / 3))))) z_135 _ _ (hh_134.sub (L1 := [(spare_13, 3, 4, .int qs_56), (r0, 13, 5, .ref kernel_52), (spare_13, 3, 11, .null), (spare_13, 3, 10, .int pk_42), (spare_13, 3, 5, .ref yb_42), (spare_13, 3, 6, .ref ye_42), (r0, 13, 18, .int (-2)), (r0, 13, 16, .ref spare_13), (r0, 13, 15, .ref H_14.size), (H_14.size, 3, 10, .int qk_25), (H_14.size, 3, 3, .int ql_25), (spare_13, 3, 3, .int ql_14), (ta, 2, 1, .int 0), (r0, 13, 0, .ref ta), (ta, 2, 0, .ref tr_)]) [4, 5, 6, 7, 8, 9, 10, 11, 12, 13, 14, 15, 16, 17, 18] rfl (M1 := [(yb_42, 171, 40, ca 1, gb_56), (ye_42, 172, 40, ca 1, ge_56), (tr_, 197, 4000, ca 0, fa)]) [0, 1, 2] rfl (I1 := [(jFdo, jDcc dC dI ca G_111 none phn_58), (jFs11, jSef dC dI G_111), (jFy, jYb dC dI G_111), ([(2, 0), (2, 1)], jOl (dC, dI) G0 2 [ta] s.heap)]) [1, 0, 2, 3] rfl) (hNn_111) (((hle_61).tr hb_772).tr hb_1112) (⟨(by first | (with_reducible assumption) | omega | rfl | fail), (by first | (with_reducible assumption) | omega | rfl | fail), (by first | (with_reducible assumption) | omega | rfl | fail), (by first | (with_reducible assumption) | omega | rfl | fail)⟩) (by omega) _ (lv_sub hl [2, 3, 4, 0] rfl)
            refine W.tight (c2 := ((0 + 1) + (7))) (n2 := ((0 + 17) + (1700))) hh_60.2.2.2.2.2.1 hh_60.2.2.2.2.2.2.1 ?_
            exact L97 (qs_56.toInt - (0 : Int32).toInt : Int).toNat.succ G_25 ((0 + 1) + (7)) ((0 + 17) + (1700)) 0 _ _ (hh_60.sub (L1 := [(spare_13, 3, 4, .int qs_56), (r0, 13, 5, .ref kernel_52), (spare_13, 3, 11, .null), (spare_13, 3, 10, .int pk_42), (spare_13, 3, 5, .ref yb_42), (spare_13, 3, 6, .ref ye_42), (r0, 13, 18, .int (-2)), (r0, 13, 16, .ref spare_13), (r0, 13, 15, .ref H_14.size), (H_14.size, 3, 10, .int qk_25), (H_14.size, 3, 3, .int ql_25), (spare_13, 3, 3, .int ql_14), (ta, 2, 1, .int 0), (r0, 13, 0, .ref ta), (ta, 2, 0, .ref tr_)]) [0, 2, 3, 4, 5, 6, 7, 8, 9, 10, 11, 12, 14, 15, 16] rfl (M1 := [(yb_42, 171, 40, ca 1, gb_56), (ye_42, 172, 40, ca 1, ge_56), (tr_, 197, 4000, ca 0, fa)]) [0, 1, 2] rfl (I1 := [(jFdo, jDcc dC dI ca G_25 none phn_58), (jFs11, jSef dC dI G_25), (jFy, jYb dC dI G_25), ([(2, 0), (2, 1)], jOl (dC, dI) G0 2 [ta] s.heap)]) [0, 1, 2, 3] rfl) (hNn_25) (jLe.rf) (⟨(by first | (with_reducible assumption) | omega | rfl | fail), (by first | (with_reducible assumption) | omega | rfl | fail), (by first | (with_reducible assumption) | omega | rfl | fail), (by first | (with_reducible assumption) | omega | rfl | fail)⟩) (by omega) _ (lv_sub hl [2, 3, 1, 0] rfl)
          · skip
            refine lv_aload_n hx hb dX11_batch_84 rfl (lv_at hl 0 rfl) ?_
            refine lv_aload_n hx hb dX11_batch_85 rfl (lv_at hl 1 rfl) ?_
            obtain ⟨v_137, hv_137, hh_138⟩ := hh_42.pin (C := RX11) (T := TX11) (N := 19) hB13 rfl (by decide) hg_28 (i := 5) (by decide) rfl
            clear hh_42
            obtain ⟨kernel_139, rfl, hg_kernel_139⟩ := hv_137
            refine j7_read hx hb hown hK (C := RX11) (T := TX11) (N := 19) rfl hly_13_5 hlk_41 (hh_138.at 0 rfl) dX11_batch_86 ?_
            obtain ⟨v_140, hv_140, hh_141⟩ := hh_138.pin (C := RX5) (T := TX5) (N := 11) hB7 rfl (by decide) hg_kernel_139 (i := 1) (by decide) rfl
            clear hh_138
            obtain ⟨syntax_142, rfl, hg_syntax_142⟩ := hv_140
            refine j7_read hx hb hown hK (C := RX5) (T := TX5) (N := 11) rfl hly_7_1 hlk_203 (hh_141.at 0 rfl) dX11_batch_89 ?_
            have hsz_143 := hh_141.2.2.2.2.2.1
            have htt_143 := hh_141.2.2.2.2.2.2.1
            refine W.room (fun hrc_143 hrs_143 => ?_)
            refine va_callv (A0 := jA base) (H0 := s.heap) (va_runV (As := [.ref syntax_142]) (rest := []) ⟨hx, hb, hml, hown, hts⟩ (uX1_partP l dC dI ca base B hB hAp hB3 hB8 hB12 hB101 hB102 hB132 hB133 hB171 hB172 hB293 G_25 H_41 spare_13 syntax_142 1 ql_14 yb_42 ye_42 text_18 (pho_42) fb_42 fe_42 gt_14) (cwV 1 hts (jgV (jWr_36 _ (List.mem_of_getElem? (i := 2) rfl)) (jWr_36 _ (List.mem_of_getElem? (i := 3) rfl)) (jWr_36 _ (List.mem_of_getElem? (i := 4) rfl)) (jWr_2 _ (List.mem_of_getElem? (i := 21) rfl)) (jWr_36 _ (List.mem_of_getElem? (i := 5) rfl))) rfl rfl rfl (by decide +kernel) ⟨by rw [← hR]; exact Nat.le_of_ble_eq_true rfl, by rw [← hR]; exact Nat.le_of_ble_eq_true rfl⟩) ⟨fun a U g mk q => by obtain ⟨q0, q1, q2, qK, q10, q11, q12, q13, q14, q15, q16, q17, q18⟩ := q; exact ⟨q0, q1, q2, jG.calling g mk a qK, q10, q11, q12, q13, q14, q15, q16, q17, q18⟩, hh_141.recv (C := RX1) (T := TX1) (N := 17) hB3 rfl (by decide) hg_27 hK, fun U hU hW => ⟨rfl, hU, hh_141.2.1, hG.step hW hU hh_141.1, hg_27, hg_syntax_142, hgb_42, hge_42, hg_29, (hh_141.2.2.1.sub (L1 := [(spare_13, 3, 3, .int ql_14), (spare_13, 3, 5, .ref yb_42), (spare_13, 3, 6, .ref ye_42), (spare_13, 3, 2, .ref text_18)]) [13, 5, 6, 14] rfl), (hh_141.2.2.2.2.2.2.2.1.sub (L1 := [(yb_42, 171, 40, ca 1, fb_42), (ye_42, 172, 40, ca 1, fe_42), (text_18, 101, 1500, ca 1, gt_14)]) [0, 1, 2] rfl), (hh_141.2.2.2.2.2.2.2.2.sub (L1 := [(jFdo, jDcc dC dI ca G_25 (some spare_13) pho_42)]) [0] rfl), ⟨(by first | (with_reducible assumption) | omega | rfl | fail), (by first | (with_reducible assumption) | omega | rfl | fail)⟩⟩⟩ rfl rfl hl.1 rfl (lv_room (Nat.le_of_ble_eq_true rfl)) dX11_batch_92 ⟨by rw [hRc]; show _ + 0 ≤ _; omega, by rw [hRs]; show _ + 0 ≤ _; omega⟩) hh_141.1 (fun q _ h => h) (fun q h => h) (fun u_143 t_143 H_143 locs_143 ht_143 hvm_143 hr_144 hb_143 hz_143 hk_143 hS_143 => ?_)
            obtain ⟨qs_143, gb_143, ge_143⟩ := u_143
            rw [ht_143] at hb_143
            obtain ⟨hb_143, hbE_143⟩ := hb_143
            obtain ⟨hb_143, hbO_143⟩ := hb_143
            obtain ⟨⟨hb_1431, hb_1432, hb_1433, hb_1434, hb_1435⟩, hb_1436⟩ := hb_143
            have hh_143 : jSt (dC, dI) B base G0 G_25 EX11_batchP s.heap ((0 + 1) + (7)) ((0 + 17) + (1700)) [(spare_13, 3, 4, .int qs_143), (kernel_139, 7, 1, .ref syntax_142), (r0, 13, 5, .ref kernel_139), (spare_13, 3, 11, .ref chk_48), (spare_13, 3, 10, .int pk_42), (spare_13, 3, 5, .ref yb_42), (spare_13, 3, 6, .ref ye_42), (r0, 13, 18, .int (-2)), (r0, 13, 16, .ref spare_13), (r0, 13, 15, .ref H_14.size), (H_14.size, 3, 10, .int qk_25), (H_14.size, 3, 3, .int ql_25), (spare_13, 3, 3, .int ql_14), (spare_13, 3, 2, .ref text_18), (ta, 2, 1, .int 0), (r0, 13, 0, .ref ta), (ta, 2, 0, .ref tr_)] [(yb_42, 171, 40, ca 1, gb_143), (ye_42, 172, 40, ca 1, ge_143), (tr_, 197, 4000, ca 0, fa)] [(jFdo, jDcc dC dI ca G_25 (some spare_13) pho_42), (jFs11, jSef dC dI G_25), (jFy, jYb dC dI G_25), ([(2, 0), (2, 1)], jOl (dC, dI) G0 2 [ta] s.heap)] H_143 locs_143 := (((hh_141.call hb_1431 hb_1432 hb_1433 hb_1434 hS_143 rfl (L1 := [(kernel_139, 7, 1, .ref syntax_142), (r0, 13, 5, .ref kernel_139), (spare_13, 3, 11, .ref chk_48), (spare_13, 3, 10, .int pk_42), (spare_13, 3, 5, .ref yb_42), (spare_13, 3, 6, .ref ye_42), (r0, 13, 18, .int (-2)), (r0, 13, 16, .ref spare_13), (r0, 13, 15, .ref H_14.size), (H_14.size, 3, 10, .int qk_25), (H_14.size, 3, 3, .int ql_25), (spare_13, 3, 3, .int ql_14), (spare_13, 3, 2, .ref text_18), (ta, 2, 1, .int 0), (r0, 13, 0, .ref ta), (ta, 2, 0, .ref tr_)]) [0, 1, 2, 4, 5, 6, 7, 8, 9, 10, 12, 13, 14, 15, 16, 17] rfl rfl (M1 := [(tr_, 197, 4000, ca 0, fa)]) [3] rfl rfl (I1 := [(jFs11, jSef dC dI G_25), (jFy, jYb dC dI G_25), ([(2, 0), (2, 1)], jOl (dC, dI) G0 2 [ta] s.heap)]) [1, 2, 3] rfl rfl).more hb_1435).moreM hb_1436).addIs hbE_143
            clear hh_141 ht_143 hvm_143 hz_143 hk_143 hS_143 hb_1431 hb_1432 hb_1433 hb_1434 hb_1435
            clear hb_1436
            clear  hbE_143
            try simp only at hr_144
            obtain ⟨hr_144_0, hr_144_1, hr_144_2, hr_144_3⟩ := hr_144
            obtain ⟨phn_145, hphn_145⟩ : ∃ q : Nat, q = pho_42 := ⟨_, rfl⟩
            have hF_145 := jDcc.full (ph1 := phn_145) (hh_143.iv 0 rfl) hg_27 (hh_143.at 5 rfl) (hh_143.at 6 rfl) ⟨(hh_143.2.2.1.sub (L1 := [(spare_13, 3, 4, .int qs_143), (spare_13, 3, 10, .int pk_42), (spare_13, 3, 11, .ref chk_48)]) [0, 4, 3] rfl), (hh_143.2.2.2.2.2.2.2.1.sub (L1 := [(yb_42, 171, 40, ca 1, gb_143), (ye_42, 172, 40, ca 1, ge_143)]) [0, 1] rfl), (hr_144_2.mono (by omega)), by omega⟩ (w := (575 * (qs_143.toInt - pk_42.toInt) - 16 + (1500 - jSo ge_143 pk_42.toInt)).toNat) (fun h9 => absurd h9 (by decide)) (by omega) (fun h9 => absurd h9 (by decide))
            have hh_146 := hh_143.sub (L1 := [(spare_13, 3, 4, .int qs_143), (kernel_139, 7, 1, .ref syntax_142), (r0, 13, 5, .ref kernel_139), (spare_13, 3, 11, .ref chk_48), (spare_13, 3, 10, .int pk_42), (spare_13, 3, 5, .ref yb_42), (spare_13, 3, 6, .ref ye_42), (r0, 13, 18, .int (-2)), (r0, 13, 16, .ref spare_13), (r0, 13, 15, .ref H_14.size), (H_14.size, 3, 10, .int qk_25), (H_14.size, 3, 3, .int ql_25), (spare_13, 3, 3, .int ql_14), (spare_13, 3, 2, .ref text_18), (ta, 2, 1, .int 0), (r0, 13, 0, .ref ta), (ta, 2, 0, .ref tr_)]) [0, 1, 2, 3, 4, 5, 6, 7, 8, 9, 10, 11, 12, 13, 14, 15, 16] rfl (M1 := [(yb_42, 171, 40, ca 1, gb_143), (ye_42, 172, 40, ca 1, ge_143), (tr_, 197, 4000, ca 0, fa)]) [0, 1, 2] rfl (I1 := [(jFs11, jSef dC dI G_25), (jFy, jYb dC dI G_25), ([(2, 0), (2, 1)], jOl (dC, dI) G0 2 [ta] s.heap)]) [1, 2, 3] rfl
            clear hh_143
            have hh_147 := hh_146.addI (jDcc.ie hF_145)
            clear hh_146
            refine lv_iconst (v := 0) hx hb dX11_batch_95 (by decide) ?_
            have hjz := jEd.z (fe := ge_143) (k := (0 : Int32).toInt) (by omega)
            refine lv_istore_n (lv' := [(3, .int 0), (2, .ref spare_13), (0, .ref r0), (1, .int a1)]) hx hb dX11_batch_96 rfl hl (by decide) rfl (fun ls hl => ?_)
            have L97 : ∀ (N : Nat) (Gx_148 : jT) (zcx_148 : Nat) (zsx_148 : Nat) (v3_148 : Int32) (H_148 : Heap) (locs_148 : List Loc), jSt (dC, dI) B base G0 Gx_148 EX11_batchP s.heap zcx_148 zsx_148 [(spare_13, 3, 4, .int qs_143), (r0, 13, 5, .ref kernel_139), (spare_13, 3, 10, .int pk_42), (spare_13, 3, 5, .ref yb_42), (spare_13, 3, 6, .ref ye_42), (r0, 13, 18, .int (-2)), (r0, 13, 16, .ref spare_13), (r0, 13, 15, .ref H_14.size), (H_14.size, 3, 10, .int qk_25), (H_14.size, 3, 3, .int ql_25), (spare_13, 3, 3, .int ql_14), (ta, 2, 1, .int 0), (r0, 13, 0, .ref ta), (ta, 2, 0, .ref tr_)] [(yb_42, 171, 40, ca 1, gb_143), (ye_42, 172, 40, ca 1, ge_143), (tr_, 197, 4000, ca 0, fa)] [(jFdo, jDcc dC dI ca Gx_148 none phn_145), (jFs11, jSef dC dI Gx_148), (jFy, jYb dC dI Gx_148), ([(2, 0), (2, 1)], jOl (dC, dI) G0 2 [ta] s.heap)] H_148 locs_148 → (jNk [0, 1, 2, 4, 6, 7, 8, 9, 10, 12, 13, 14, 15, 16]) G0 Gx_148 → jLe G_25 Gx_148 → (0 ≤ v3_148.toInt ∧ v3_148.toInt ≤ qs_143.toInt ∧ zcx_148 ≤ 8 + 24 * v3_148.toInt ∧ zsx_148 ≤ 1720 + 185 * jEd ge_143 v3_148.toInt) → (qs_143.toInt - v3_148.toInt : Int) < N → ∀ ls : Array Slot, lv_has ls 5 [(0, .ref r0), (1, .int a1), (2, .ref spare_13), (3, .int v3_148)] → W p l e R s m ([.ref r0, .int a1] : List Value).toArray below meth c H_148 locs_148 zcx_148 zsx_148 Q (F0 m 97 ls []) := by
              intro N
              induction N with
              | zero => intro Gx_148 zcx_148 zsx_148 v3_148 H_148 locs_148 hh_148 hN_148 hle_148 hi_148 hm; exact absurd hm (by omega)
              | succ N L97 =>
                intro Gx_148 zcx_148 zsx_148 v3_148 H_148 locs_148 hh_148 hN_148 hle_148 hi_148 hm_148 ls hl
                have hg_149 := hle_148 _ _ hg_28
                have hg_150 := hle_148 _ _ hg_27
                have hg_151 := hle_148 _ _ hg_kernel_139
                have hg_152 := hle_148 _ _ hgb_42
                have hg_153 := hle_148 _ _ hge_42
                have hg_154 := hle_148 _ _ hgc_25
                have hg_155 := hle_148 _ _ hg_30
                have hg_156 := hle_148 _ _ hg_31
                obtain ⟨hi_148_0, hi_148_1, hi_148_2, hi_148_3⟩ := hi_148
                have hql := jSn.le hr_144_2 (by omega)
                refine lv_iload_n hx hb dX11_batch_97 rfl (lv_at hl 3 rfl) ?_
                refine lv_aload_n hx hb dX11_batch_98 rfl (lv_at hl 2 rfl) ?_
                refine j7_read hx hb hown hK (C := RX1) (T := TX1) (N := 17) rfl hly_3_4 hlk_168 (hh_148.at 0 rfl) dX11_batch_99 ?_
                refine lv_icmp_ge (tgt := 165) hx hb dX11_batch_102 (by decide) (fun c_157 => ?_) (fun c_157 => ?_)
                · skip
                  have c_157' : v3_148.toInt ≥ qs_143.toInt := jb_ge (rfl) (rfl) c_157
                  have hjl := jEd.le hr_144_2 (k := v3_148.toInt) (by omega) (by omega) (by omega)
                  refine lv_aload_n hx hb dX11_batch_165 rfl (lv_at hl 2 rfl) ?_
                  refine j7_read hx hb hown hK (C := RX1) (T := TX1) (N := 17) rfl hly_3_4 hlk_168 (hh_148.at 0 rfl) dX11_batch_166 ?_
                  have hsz_158 := hh_148.2.2.2.2.2.1
                  have htt_158 := hh_148.2.2.2.2.2.2.1
                  refine W.room (fun hrc_158 hrs_158 => ?_)
                  refine W.widen (k := LC - s.heap.size) (n := LS - jTot s.heap) (by omega) (by omega) ?_
                  rw [hQ]
                  exact W.iret (v := qs_143) hx hb hr (fun t ht hW => ⟨⟨qs_143, (0, phn_145, (pt.toInt.toNat - (0 : Int).toNat), Gx_148), rfl, by skip; (try dsimp only); refine ⟨by omega, by omega, by omega, ?_⟩; exact Or.inr ⟨by omega, by omega, jBa.part (hr_15p_3.yes (by omega)).1 (by omega) (hr_15p_3.yes (by omega)).2 hr_144_3⟩, ⟨hh_148.ra (by first | (simp only; omega) | omega) (by first | (simp only; omega) | omega) (M1 := [(ta, 2, 1, .int 0)]) [11] rfl ht, hN_148, by rw [ht]; exact hh_148.iv 3 rfl, by rw [ht]; exact hh_148.2.2.2.2.2.2.2.2.sub (L1 := [(jFy, jYb dC dI Gx_148), (jFs11, jSef dC dI Gx_148), (jFdo, jDcc dC dI ca Gx_148 none phn_145)]) [2, 1, 0] rfl⟩⟩, by rw [ht]; try exact hh_148.1.1, fun q h9 hq => by rw [ht]; try exact hh_148.1.2.1 q h9 hq⟩) hh_148.1.2.2 dX11_batch_169
                · skip
                  have c_157' : v3_148.toInt < qs_143.toInt := jb_ge_n (rfl) (rfl) c_157
                  have hn2 := jEd.nx hr_144_2 (k := v3_148.toInt) (by omega) (by omega)
                  have hnb := jEd.nx (hr_144_2.mono (by omega) : jSn _ _ _ 1500) (k := v3_148.toInt) (by omega) (by omega)
                  refine lv_aload_n hx hb dX11_batch_105 rfl (lv_at hl 2 rfl) ?_
                  obtain ⟨v_159, hv_159, hh_160⟩ := hh_148.pin (C := RX1) (T := TX1) (N := 17) hB3 rfl (by decide) hg_150 (i := 2) (by decide) rfl
                  clear hh_148
                  obtain ⟨text_161, rfl, hg_text_161⟩ := hv_159
                  refine j7_read hx hb hown hK (C := RX1) (T := TX1) (N := 17) rfl hly_3_2 hlk_174 (hh_160.at 0 rfl) dX11_batch_106 ?_
                  refine lv_aload_n hx hb dX11_batch_109 rfl (lv_at hl 2 rfl) ?_
                  refine j7_read hx hb hown hK (C := RX1) (T := TX1) (N := 17) rfl hly_3_5 hlk_182 (hh_160.at 4 rfl) dX11_batch_110 ?_
                  refine lv_iload_n hx hb dX11_batch_113 rfl (lv_at hl 3 rfl) ?_
                  refine j7_ialdM hx hb hK hh_160 hB171 1 rfl (by decide) hg_152 (x := v3_148.toInt) (rfl) (by omega) (j := 0) rfl dX11_batch_114 (fun z_162 ez_162 (hz_162 : 0 ≤ z_162.toInt ∧ z_162.toInt ≤ 1500) => ?_)
                  have hqz_162 : z_162.toInt = jSo gb_143 (v3_148.toInt) := by unfold jSo; rw [ez_162]
                  refine lv_aload_n hx hb dX11_batch_115 rfl (lv_at hl 2 rfl) ?_
                  refine j7_read hx hb hown hK (C := RX1) (T := TX1) (N := 17) rfl hly_3_6 hlk_185 (hh_160.at 5 rfl) dX11_batch_116 ?_
                  refine lv_iload_n hx hb dX11_batch_119 rfl (lv_at hl 3 rfl) ?_
                  refine j7_ialdM hx hb hK hh_160 hB172 1 rfl (by decide) hg_153 (x := v3_148.toInt) (rfl) (by omega) (j := 1) rfl dX11_batch_120 (fun z_163 ez_163 (hz_163 : 0 ≤ z_163.toInt ∧ z_163.toInt ≤ 1500) => ?_)
                  have hqz_163 : z_163.toInt = jSo ge_143 (v3_148.toInt) := by unfold jSo; rw [ez_163]
                  have hsz_164 := hh_160.2.2.2.2.2.1
                  have htt_164 := hh_160.2.2.2.2.2.2.1
                  refine W.room (fun hrc_164 hrs_164 => ?_)
                  refine j_callx (A0 := jA base) (H0 := s.heap) (va_runS (As := [.ref text_161, .int z_162, .int z_163]) (rest := []) ⟨hx, hb, hml, hown, hts⟩ (uJ7_copyOfRange_feeccU l dC dI ca base B hB hAp hB101 hB280 Gx_148 H_148 text_161 z_162 z_163 1500 LC LS) (va_cwS 3 hts (jgS (jWr_77 _ (List.mem_of_getElem? (i := 21) rfl)) (jWr_77 _ (List.mem_of_getElem? (i := 22) rfl)) (jWr_16 _ (List.mem_of_getElem? (i := 7) rfl)) (jWr_77 _ (List.mem_of_getElem? (i := 23) rfl))) rfl rfl rfl (by decide +kernel) ⟨by rw [← hR]; exact Nat.le_of_ble_eq_true rfl, by rw [← hR]; exact Nat.le_of_ble_eq_true rfl⟩) ⟨fun a U g mk q => by obtain ⟨q0, q1, q2, qK, q10, q11, q12, q13⟩ := q; exact ⟨q0, q1, q2, jG.calling g mk a qK, (jK8.calling g mk a q10), q11, q12, q13⟩, fun U hU hW => ⟨rfl, hU, hh_160.2.1, hG.step hW hU hh_160.1, (jK8.warm hW hK8), hg_text_161, jP.nil, ⟨(by first | (with_reducible assumption) | omega | rfl | fail), (by first | (with_reducible assumption) | omega | rfl | fail), (by first | (with_reducible assumption) | omega | rfl | fail), (by first | (with_reducible assumption) | omega | rfl | fail)⟩⟩⟩ rfl rfl hl.1 rfl (lv_room (Nat.le_of_ble_eq_true rfl)) dX11_batch_121 ⟨by rw [hRc]; omega, by rw [hRs]; omega⟩) hh_160.1 (fun q _ h => h) (fun q h => h) (fun r_165 u_164 t_164 H_164 locs_164 ht_164 hvm_164 hr_165 hb_164 hz_164 hk_164 hS_164 => ?_)
                  rw [ht_164] at hb_164
                  obtain ⟨m_ret_164, G_164⟩ := u_164
                  simp only at hb_164
                  obtain ⟨⟨hb_1641, hb_1642, hb_1643, hb_1644, hb_1645, hb_1646⟩, hN_164, hbK_164⟩ := hb_164
                  have hE9_164 := hN_164
                  have hM_164 := hN_164
                  have hN_164 : (jNk [0, 1, 2, 4, 6, 7, 8, 9, 10, 12, 13, 14, 15, 16]) Gx_148 G_164 := hN_164.sub (by decide)
                  have hh_164 : jSt (dC, dI) B base G0 G_164 EX11_batchP s.heap (zcx_148 + (1)) (zsx_148 + (m_ret_164)) [(spare_13, 3, 2, .ref text_161), (spare_13, 3, 4, .int qs_143), (r0, 13, 5, .ref kernel_139), (spare_13, 3, 10, .int pk_42), (spare_13, 3, 5, .ref yb_42), (spare_13, 3, 6, .ref ye_42), (r0, 13, 18, .int (-2)), (r0, 13, 16, .ref spare_13), (r0, 13, 15, .ref H_14.size), (H_14.size, 3, 10, .int qk_25), (H_14.size, 3, 3, .int ql_25), (spare_13, 3, 3, .int ql_14), (ta, 2, 1, .int 0), (r0, 13, 0, .ref ta), (ta, 2, 0, .ref tr_)] [(yb_42, 171, 40, ca 1, gb_143), (ye_42, 172, 40, ca 1, ge_143), (tr_, 197, 4000, ca 0, fa)] [(jFdo, jDcc dC dI ca Gx_148 none phn_145), (jFs11, jSef dC dI Gx_148), (jFy, jYb dC dI Gx_148), ([(2, 0), (2, 1)], jOl (dC, dI) G0 2 [ta] s.heap)] H_164 locs_164 := (hh_160.callG hb_1641 hb_1642 hb_1643 hb_1644 hb_1645 hS_164 rfl (L1 := [(spare_13, 3, 2, .ref text_161), (spare_13, 3, 4, .int qs_143), (r0, 13, 5, .ref kernel_139), (spare_13, 3, 10, .int pk_42), (spare_13, 3, 5, .ref yb_42), (spare_13, 3, 6, .ref ye_42), (r0, 13, 18, .int (-2)), (r0, 13, 16, .ref spare_13), (r0, 13, 15, .ref H_14.size), (H_14.size, 3, 10, .int qk_25), (H_14.size, 3, 3, .int ql_25), (spare_13, 3, 3, .int ql_14), (ta, 2, 1, .int 0), (r0, 13, 0, .ref ta), (ta, 2, 0, .ref tr_)]) [0, 1, 2, 3, 4, 5, 6, 7, 8, 9, 10, 11, 12, 13, 14] rfl rfl (M1 := [(yb_42, 171, 40, ca 1, gb_143), (ye_42, 172, 40, ca 1, ge_143), (tr_, 197, 4000, ca 0, fa)]) [0, 1, 2] rfl rfl (I1 := [(jFdo, jDcc dC dI ca Gx_148 none phn_145), (jFs11, jSef dC dI Gx_148), (jFy, jYb dC dI Gx_148), ([(2, 0), (2, 1)], jOl (dC, dI) G0 2 [ta] s.heap)]) [0, 1, 2, 3] rfl rfl).more hb_1646
                  have hNn_164 : (jNk [0, 1, 2, 4, 6, 7, 8, 9, 10, 12, 13, 14, 15, 16]) G0 G_164 := (hN_148).tr hN_164
                  have hg_166 := hb_1642 _ _ hg_149
                  have hg_167 := hb_1642 _ _ hg_150
                  have hg_168 := hb_1642 _ _ hg_text_161
                  have hg_169 := hb_1642 _ _ hg_151
                  have hg_170 := hb_1642 _ _ hg_152
                  have hg_171 := hb_1642 _ _ hg_153
                  have hg_172 := hb_1642 _ _ hg_154
                  have hg_173 := hb_1642 _ _ hg_155
                  have hg_174 := hb_1642 _ _ hg_156
                  have hd_175 := jDcc.grow (hh_164.iv 0 rfl) hb_1642 hE9_164 (by decide)
                  have hh_176 := hh_164.sub (L1 := [(spare_13, 3, 2, .ref text_161), (spare_13, 3, 4, .int qs_143), (r0, 13, 5, .ref kernel_139), (spare_13, 3, 10, .int pk_42), (spare_13, 3, 5, .ref yb_42), (spare_13, 3, 6, .ref ye_42), (r0, 13, 18, .int (-2)), (r0, 13, 16, .ref spare_13), (r0, 13, 15, .ref H_14.size), (H_14.size, 3, 10, .int qk_25), (H_14.size, 3, 3, .int ql_25), (spare_13, 3, 3, .int ql_14), (ta, 2, 1, .int 0), (r0, 13, 0, .ref ta), (ta, 2, 0, .ref tr_)]) [0, 1, 2, 3, 4, 5, 6, 7, 8, 9, 10, 11, 12, 13, 14] rfl (M1 := [(yb_42, 171, 40, ca 1, gb_143), (ye_42, 172, 40, ca 1, ge_143), (tr_, 197, 4000, ca 0, fa)]) [0, 1, 2] rfl (I1 := [(jFs11, jSef dC dI Gx_148), (jFy, jYb dC dI Gx_148), ([(2, 0), (2, 1)], jOl (dC, dI) G0 2 [ta] s.heap)]) [1, 2, 3] rfl
                  clear hh_164
                  have hh_177 := hh_176.addI (jDcc.ie hd_175)
                  clear hh_176
                  have hd_178 := jSef.grow (hh_177.iv 1 rfl) hb_1642 hM_164 (by decide)
                  have hh_179 := hh_177.sub (L1 := [(spare_13, 3, 2, .ref text_161), (spare_13, 3, 4, .int qs_143), (r0, 13, 5, .ref kernel_139), (spare_13, 3, 10, .int pk_42), (spare_13, 3, 5, .ref yb_42), (spare_13, 3, 6, .ref ye_42), (r0, 13, 18, .int (-2)), (r0, 13, 16, .ref spare_13), (r0, 13, 15, .ref H_14.size), (H_14.size, 3, 10, .int qk_25), (H_14.size, 3, 3, .int ql_25), (spare_13, 3, 3, .int ql_14), (ta, 2, 1, .int 0), (r0, 13, 0, .ref ta), (ta, 2, 0, .ref tr_)]) [0, 1, 2, 3, 4, 5, 6, 7, 8, 9, 10, 11, 12, 13, 14] rfl (M1 := [(yb_42, 171, 40, ca 1, gb_143), (ye_42, 172, 40, ca 1, ge_143), (tr_, 197, 4000, ca 0, fa)]) [0, 1, 2] rfl (I1 := [(jFdo, jDcc dC dI ca G_164 none phn_145), (jFy, jYb dC dI Gx_148), ([(2, 0), (2, 1)], jOl (dC, dI) G0 2 [ta] s.heap)]) [0, 2, 3] rfl
                  clear hh_177
                  have hh_180 := hh_179.addI (jSef.ie hd_178)
                  clear hh_179
                  have hd_181 := jYb.grow (hh_180.iv 2 rfl) hb_1642 hN_164 (by decide)
                  have hh_182 := hh_180.sub (L1 := [(spare_13, 3, 2, .ref text_161), (spare_13, 3, 4, .int qs_143), (r0, 13, 5, .ref kernel_139), (spare_13, 3, 10, .int pk_42), (spare_13, 3, 5, .ref yb_42), (spare_13, 3, 6, .ref ye_42), (r0, 13, 18, .int (-2)), (r0, 13, 16, .ref spare_13), (r0, 13, 15, .ref H_14.size), (H_14.size, 3, 10, .int qk_25), (H_14.size, 3, 3, .int ql_25), (spare_13, 3, 3, .int ql_14), (ta, 2, 1, .int 0), (r0, 13, 0, .ref ta), (ta, 2, 0, .ref tr_)]) [0, 1, 2, 3, 4, 5, 6, 7, 8, 9, 10, 11, 12, 13, 14] rfl (M1 := [(yb_42, 171, 40, ca 1, gb_143), (ye_42, 172, 40, ca 1, ge_143), (tr_, 197, 4000, ca 0, fa)]) [0, 1, 2] rfl (I1 := [(jFs11, jSef dC dI G_164), (jFdo, jDcc dC dI ca G_164 none phn_145), ([(2, 0), (2, 1)], jOl (dC, dI) G0 2 [ta] s.heap)]) [0, 1, 3] rfl
                  clear hh_180
                  have hh_183 := hh_182.addI (jYb.ie hd_181)
                  clear hh_182
                  obtain ⟨hr_165, hr_165n, hr_165p⟩ := hr_165
                  try simp only at hr_165p
                  obtain ⟨ret_184, rfl, hg_ret_184⟩ := hr_165
                  have hsy_164 : s.heap.size ≤ ret_184 := Nat.le_trans hh_160.1.1 hr_165n.le
                  refine lv_astore (lv' := [(4, .ref ret_184), (0, .ref r0), (1, .int a1), (2, .ref spare_13), (3, .int v3_148)]) hx hb dX11_batch_124 hl (by decide) rfl (fun ls hl => ?_)
                  refine lv_aload_n hx hb dX11_batch_126 rfl (lv_at hl 3 rfl) ?_
                  obtain ⟨v_185, hv_185, hh_186⟩ := hh_183.pin (C := RX1) (T := TX1) (N := 17) hB3 rfl (by decide) hg_167 (i := 9) (by decide) rfl
                  clear hh_183
                  obtain ⟨behind_187, rfl, hg_behind_187⟩ := hv_185
                  refine j7_read hx hb hown hK (C := RX1) (T := TX1) (N := 17) rfl hly_3_9 hlk_178 (hh_186.at 0 rfl) dX11_batch_127 ?_
                  refine lv_iload_n hx hb dX11_batch_130 rfl (lv_at hl 4 rfl) ?_
                  refine lv_aload_n hx hb dX11_batch_131 rfl (lv_at hl 1 rfl) ?_
                  refine j7_read hx hb hown hK (C := RX11) (T := TX11) (N := 19) rfl hly_13_5 hlk_41 (hh_186.at 3 rfl) dX11_batch_132 ?_
                  refine lv_aload_n hx hb dX11_batch_135 rfl (lv_at hl 3 rfl) ?_
                  refine lv_iload_n hx hb dX11_batch_136 rfl (lv_at hl 4 rfl) ?_
                  refine lv_aload_n hx hb dX11_batch_137 rfl (lv_at hl 1 rfl) ?_
                  refine j7_read hx hb hown hK (C := RX11) (T := TX11) (N := 19) rfl hly_13_5 hlk_41 (hh_186.at 3 rfl) dX11_batch_138 ?_
                  obtain ⟨v_188, hv_188, hh_189⟩ := hh_186.pin (C := RX5) (T := TX5) (N := 11) hB7 rfl (by decide) hg_169 (i := 2) (by decide) rfl
                  clear hh_186
                  obtain ⟨start_190, rfl, hg_start_190⟩ := hv_188
                  refine j7_read hx hb hown hK (C := RX5) (T := TX5) (N := 11) rfl hly_7_2 hlk_217 (hh_189.at 0 rfl) dX11_batch_141 ?_
                  have hsz_191 := hh_189.2.2.2.2.2.1
                  have htt_191 := hh_189.2.2.2.2.2.2.1
                  refine W.room (fun hrc_191 hrs_191 => ?_)
                  refine j_callx (A0 := jA base) (H0 := s.heap) (va_runV (As := [.int v3_148, .ref start_190]) (rest := [.ref kernel_139, .int v3_148, .ref behind_187]) ⟨hx, hb, hml, hown, hts⟩ (uX1_stateBehind l dC dI ca base B hB hAp hB3 hB11 hB210 G_164 H_164 spare_13 v3_148 start_190 1) (cwV 2 hts (jgV (jWr_30 _ (List.mem_of_getElem? (i := 9) rfl)) (jWr_30 _ (List.mem_of_getElem? (i := 10) rfl)) (jWr_30 _ (List.mem_of_getElem? (i := 11) rfl)) (jWr_2 _ (List.mem_of_getElem? (i := 21) rfl)) (jWr_30 _ (List.mem_of_getElem? (i := 12) rfl))) rfl rfl rfl (by decide +kernel) ⟨by rw [← hR]; exact Nat.le_of_ble_eq_true rfl, by rw [← hR]; exact Nat.le_of_ble_eq_true rfl⟩) ⟨fun a U g mk q => by obtain ⟨q0, q1, q2, qK, q10, q11, q12, q13, q14⟩ := q; exact ⟨q0, q1, q2, jG.calling g mk a qK, (va_K.moved (Vm.Alike.refl U.vm) q10), q11, q12, q13, q14⟩, hh_189.recv (C := RX1) (T := TX1) (N := 17) hB3 rfl (by decide) hg_167 hK, fun U hU hW => ⟨rfl, hU, hh_189.2.1, hG.step hW hU hh_189.1, va_K.moved hW.alike hK2, hg_167, hg_start_190, jP.nil, trivial⟩⟩ rfl rfl hl.1 rfl (lv_room (Nat.le_of_ble_eq_true rfl)) dX11_batch_144 ⟨by rw [hRc]; show _ + 0 ≤ _; omega, by rw [hRs]; show _ + 0 ≤ _; omega⟩) hh_189.1 (fun q _ h => h) (fun q h => h) (fun r_192 u_191 t_191 H_191 locs_191 ht_191 hvm_191 hr_192 hb_191 hz_191 hk_191 hS_191 => ?_)
                  rw [ht_191] at hb_191
                  obtain ⟨hb_1911, hb_1912, hb_1913, hb_1914, hb_1915⟩ := hb_191
                  have hh_191 : jSt (dC, dI) B base G0 G_164 EX11_batchP s.heap (zcx_148 + (1)) (zsx_148 + (m_ret_164)) [(kernel_139, 7, 2, .ref start_190), (spare_13, 3, 9, .ref behind_187), (spare_13, 3, 2, .ref text_161), (spare_13, 3, 4, .int qs_143), (r0, 13, 5, .ref kernel_139), (spare_13, 3, 10, .int pk_42), (spare_13, 3, 5, .ref yb_42), (spare_13, 3, 6, .ref ye_42), (r0, 13, 18, .int (-2)), (r0, 13, 16, .ref spare_13), (r0, 13, 15, .ref H_14.size), (H_14.size, 3, 10, .int qk_25), (H_14.size, 3, 3, .int ql_25), (spare_13, 3, 3, .int ql_14), (ta, 2, 1, .int 0), (r0, 13, 0, .ref ta), (ta, 2, 0, .ref tr_)] [(yb_42, 171, 40, ca 1, gb_143), (ye_42, 172, 40, ca 1, ge_143), (tr_, 197, 4000, ca 0, fa)] [(jFy, jYb dC dI G_164), (jFs11, jSef dC dI G_164), (jFdo, jDcc dC dI ca G_164 none phn_145), ([(2, 0), (2, 1)], jOl (dC, dI) G0 2 [ta] s.heap)] H_191 locs_191 := ((hh_189.call hb_1911 hb_1912 hb_1913 hb_1914 hS_191 rfl (L1 := [(kernel_139, 7, 2, .ref start_190), (spare_13, 3, 9, .ref behind_187), (spare_13, 3, 2, .ref text_161), (spare_13, 3, 4, .int qs_143), (r0, 13, 5, .ref kernel_139), (spare_13, 3, 10, .int pk_42), (spare_13, 3, 5, .ref yb_42), (spare_13, 3, 6, .ref ye_42), (r0, 13, 18, .int (-2)), (r0, 13, 16, .ref spare_13), (r0, 13, 15, .ref H_14.size), (H_14.size, 3, 10, .int qk_25), (H_14.size, 3, 3, .int ql_25), (spare_13, 3, 3, .int ql_14), (ta, 2, 1, .int 0), (r0, 13, 0, .ref ta), (ta, 2, 0, .ref tr_)]) [0, 1, 2, 3, 4, 5, 6, 7, 8, 9, 10, 11, 12, 13, 14, 15, 16] rfl rfl (M1 := [(yb_42, 171, 40, ca 1, gb_143), (ye_42, 172, 40, ca 1, ge_143), (tr_, 197, 4000, ca 0, fa)]) [0, 1, 2] rfl rfl (I1 := [(jFy, jYb dC dI G_164), (jFs11, jSef dC dI G_164), (jFdo, jDcc dC dI ca G_164 none phn_145), ([(2, 0), (2, 1)], jOl (dC, dI) G0 2 [ta] s.heap)]) [0, 1, 2, 3] rfl rfl).more hb_1915)
                  clear hh_189 ht_191 hvm_191 hz_191 hk_191 hS_191 hb_1911 hb_1912 hb_1913 hb_1914 hb_1915
                  obtain ⟨ret_193, rfl, hg_ret_193⟩ := hr_192
                  refine lv_aload hx hb dX11_batch_147 (lv_at hl 0 rfl) ?_
                  refine lv_aload_n hx hb dX11_batch_149 rfl (lv_at hl 3 rfl) ?_
                  obtain ⟨v_194, hv_194, hh_195⟩ := hh_191.pin (C := RX1) (T := TX1) (N := 17) hB3 rfl (by decide) hg_167 (i := 8) (by decide) rfl
                  clear hh_191
                  obtain ⟨early_196, rfl, hg_early_196⟩ := hv_194
                  refine j7_read hx hb hown hK (C := RX1) (T := TX1) (N := 17) rfl hly_3_8 hlk_225 (hh_195.at 0 rfl) dX11_batch_150 ?_
                  refine lv_iload_n hx hb dX11_batch_153 rfl (lv_at hl 4 rfl) ?_
                  refine j7_iald hx hb hK hh_195 hB101 1 rfl (by decide) hg_early_196 (x := v3_148.toInt) (rfl) (by omega) dX11_batch_154 (fun z_197 (hz_197 : True) => ?_)
                  have hsz_198 := hh_195.2.2.2.2.2.1
                  have htt_198 := hh_195.2.2.2.2.2.2.1
                  refine W.room (fun hrc_198 hrs_198 => ?_)
                  refine j_callx (A0 := jA base) (H0 := s.heap) (va_runV (As := [.ref ret_193, .ref ret_184, .int z_197]) (rest := [.int v3_148, .ref behind_187]) ⟨hx, hb, hml, hown, hts⟩ (uX5_checkS l dC dI ca base B hB hAp hB5 hB7 hB8 hB11 hB12 hB101 hB102 hB132 hB133 hB211 hB214 hB280 hB290 hB291 hB292 hB293 hB313 hB315 G_164 H_191 kernel_139 ret_193 ret_184 z_197 m_ret_164 (min 1 (m_ret_164 / 3)) LC LS) (cwV 3 hts (jgV (jWr_78 _ (List.mem_of_getElem? (i := 14) rfl)) (jWr_78 _ (List.mem_of_getElem? (i := 15) rfl)) (jWr_78 _ (List.mem_of_getElem? (i := 16) rfl)) (jWr_2 _ (List.mem_of_getElem? (i := 4) rfl)) (jWr_78 _ (List.mem_of_getElem? (i := 17) rfl))) rfl rfl rfl (by decide +kernel) ⟨by rw [← hR]; exact Nat.le_of_ble_eq_true rfl, by rw [← hR]; exact Nat.le_of_ble_eq_true rfl⟩) ⟨fun a U g mk q => by obtain ⟨q0, q1, q2, qK, q10, q11, q12, q13, q14, q15, q16, q17, q18⟩ := q; exact ⟨q0, q1, q2, jG.calling g mk a qK, (va_K.moved (Vm.Alike.refl U.vm) q10), (jK5.moved (Vm.Alike.refl U.vm) q11), (jK6.moved (Vm.Alike.refl U.vm) q12), q13, q14, q15, q16, q17, q18⟩, hh_195.recv (C := RX5) (T := TX5) (N := 11) hB7 rfl (by decide) hg_169 hK, fun U hU hW => ⟨rfl, hU, hh_195.2.1, hG.step hW hU hh_195.1, va_K.moved hW.alike hK2, jK5.moved hW.alike hK5, jK6.moved hW.alike hK6, hg_169, hg_ret_193, hg_ret_184, jP.nil, (hh_195.2.2.2.2.2.2.2.2.sub (L1 := [(jFs11, jSef dC dI G_164)]) [1] rfl), ⟨(by first | (with_reducible assumption) | omega | rfl | fail), (by first | (with_reducible assumption) | assumption | omega | rfl | fail)⟩⟩⟩ rfl rfl hl.1 rfl (lv_room (Nat.le_of_ble_eq_true rfl)) dX11_batch_155 ⟨by rw [hRc]; omega, by rw [hRs]; omega⟩) hh_195.1 (fun q _ h => h) (fun q h => h) (fun r_199 u_198 t_198 H_198 locs_198 ht_198 hvm_198 hr_199 hb_198 hz_198 hk_198 hS_198 => ?_)
                  rw [ht_198] at hb_198
                  obtain ⟨G_198, rfl⟩ : ∃ z, z = u_198 := ⟨_, rfl⟩
                  try simp only at hb_198
                  obtain ⟨⟨hb_1981, hb_1982, hb_1983, hb_1984, hb_1985, hb_1986⟩, hN_198, hbE_198⟩ := hb_198
                  have hE9_198 := hN_198
                  have hN_198 : (jNk [0, 1, 2, 4, 6, 7, 8, 9, 10, 12, 13, 14, 15, 16]) G_164 G_198 := hN_198.sub (by decide)
                  have hh_198 : jSt (dC, dI) B base G0 G_198 EX11_batchP s.heap ((zcx_148 + (1)) + (23)) ((zsx_148 + (m_ret_164)) + ((183 + 336 * (min 1 (m_ret_164 / 3))))) [(spare_13, 3, 8, .ref early_196), (kernel_139, 7, 2, .ref start_190), (spare_13, 3, 9, .ref behind_187), (spare_13, 3, 2, .ref text_161), (spare_13, 3, 4, .int qs_143), (r0, 13, 5, .ref kernel_139), (spare_13, 3, 10, .int pk_42), (spare_13, 3, 5, .ref yb_42), (spare_13, 3, 6, .ref ye_42), (r0, 13, 18, .int (-2)), (r0, 13, 16, .ref spare_13), (r0, 13, 15, .ref H_14.size), (H_14.size, 3, 10, .int qk_25), (H_14.size, 3, 3, .int ql_25), (spare_13, 3, 3, .int ql_14), (ta, 2, 1, .int 0), (r0, 13, 0, .ref ta), (ta, 2, 0, .ref tr_)] [(yb_42, 171, 40, ca 1, gb_143), (ye_42, 172, 40, ca 1, ge_143), (tr_, 197, 4000, ca 0, fa)] [(jFy, jYb dC dI G_164), (jFdo, jDcc dC dI ca G_164 none phn_145), ([(2, 0), (2, 1)], jOl (dC, dI) G0 2 [ta] s.heap)] H_198 locs_198 := (hh_195.callG hb_1981 hb_1982 hb_1983 hb_1984 hb_1985 hS_198 rfl (L1 := [(spare_13, 3, 8, .ref early_196), (kernel_139, 7, 2, .ref start_190), (spare_13, 3, 9, .ref behind_187), (spare_13, 3, 2, .ref text_161), (spare_13, 3, 4, .int qs_143), (r0, 13, 5, .ref kernel_139), (spare_13, 3, 10, .int pk_42), (spare_13, 3, 5, .ref yb_42), (spare_13, 3, 6, .ref ye_42), (r0, 13, 18, .int (-2)), (r0, 13, 16, .ref spare_13), (r0, 13, 15, .ref H_14.size), (H_14.size, 3, 10, .int qk_25), (H_14.size, 3, 3, .int ql_25), (spare_13, 3, 3, .int ql_14), (ta, 2, 1, .int 0), (r0, 13, 0, .ref ta), (ta, 2, 0, .ref tr_)]) [0, 1, 2, 3, 4, 5, 6, 7, 8, 9, 10, 11, 12, 13, 14, 15, 16, 17] rfl rfl (M1 := [(yb_42, 171, 40, ca 1, gb_143), (ye_42, 172, 40, ca 1, ge_143), (tr_, 197, 4000, ca 0, fa)]) [0, 1, 2] rfl rfl (I1 := [(jFy, jYb dC dI G_164), (jFdo, jDcc dC dI ca G_164 none phn_145), ([(2, 0), (2, 1)], jOl (dC, dI) G0 2 [ta] s.heap)]) [0, 2, 3] rfl rfl).more hb_1986
                  have hNn_198 : (jNk [0, 1, 2, 4, 6, 7, 8, 9, 10, 12, 13, 14, 15, 16]) G0 G_198 := (hNn_164).tr hN_198
                  have hg_200 := hb_1982 _ _ hg_ret_184
                  have hg_201 := hb_1982 _ _ hg_166
                  have hg_202 := hb_1982 _ _ hg_167
                  have hg_203 := hb_1982 _ _ hg_behind_187
                  have hg_204 := hb_1982 _ _ hg_early_196
                  have hg_205 := hb_1982 _ _ hg_start_190
                  have hg_206 := hb_1982 _ _ hg_168
                  have hg_207 := hb_1982 _ _ hg_169
                  have hg_208 := hb_1982 _ _ hg_170
                  have hg_209 := hb_1982 _ _ hg_171
                  have hg_210 := hb_1982 _ _ hg_172
                  have hg_211 := hb_1982 _ _ hg_173
                  have hg_212 := hb_1982 _ _ hg_174
                  have hd_213 := jYb.grow (hh_198.iv 0 rfl) hb_1982 hN_198 (by decide)
                  have hh_214 := hh_198.sub (L1 := [(spare_13, 3, 8, .ref early_196), (kernel_139, 7, 2, .ref start_190), (spare_13, 3, 9, .ref behind_187), (spare_13, 3, 2, .ref text_161), (spare_13, 3, 4, .int qs_143), (r0, 13, 5, .ref kernel_139), (spare_13, 3, 10, .int pk_42), (spare_13, 3, 5, .ref yb_42), (spare_13, 3, 6, .ref ye_42), (r0, 13, 18, .int (-2)), (r0, 13, 16, .ref spare_13), (r0, 13, 15, .ref H_14.size), (H_14.size, 3, 10, .int qk_25), (H_14.size, 3, 3, .int ql_25), (spare_13, 3, 3, .int ql_14), (ta, 2, 1, .int 0), (r0, 13, 0, .ref ta), (ta, 2, 0, .ref tr_)]) [0, 1, 2, 3, 4, 5, 6, 7, 8, 9, 10, 11, 12, 13, 14, 15, 16, 17] rfl (M1 := [(yb_42, 171, 40, ca 1, gb_143), (ye_42, 172, 40, ca 1, ge_143), (tr_, 197, 4000, ca 0, fa)]) [0, 1, 2] rfl (I1 := [(jFdo, jDcc dC dI ca G_164 none phn_145), ([(2, 0), (2, 1)], jOl (dC, dI) G0 2 [ta] s.heap)]) [1, 2] rfl
                  clear hh_198
                  have hh_215 := hh_214.addI (jYb.ie hd_213)
                  clear hh_214
                  have hd_216 := jDcc.grow (hh_215.iv 1 rfl) hb_1982 hE9_198 (by decide)
                  have hh_217 := hh_215.sub (L1 := [(spare_13, 3, 8, .ref early_196), (kernel_139, 7, 2, .ref start_190), (spare_13, 3, 9, .ref behind_187), (spare_13, 3, 2, .ref text_161), (spare_13, 3, 4, .int qs_143), (r0, 13, 5, .ref kernel_139), (spare_13, 3, 10, .int pk_42), (spare_13, 3, 5, .ref yb_42), (spare_13, 3, 6, .ref ye_42), (r0, 13, 18, .int (-2)), (r0, 13, 16, .ref spare_13), (r0, 13, 15, .ref H_14.size), (H_14.size, 3, 10, .int qk_25), (H_14.size, 3, 3, .int ql_25), (spare_13, 3, 3, .int ql_14), (ta, 2, 1, .int 0), (r0, 13, 0, .ref ta), (ta, 2, 0, .ref tr_)]) [0, 1, 2, 3, 4, 5, 6, 7, 8, 9, 10, 11, 12, 13, 14, 15, 16, 17] rfl (M1 := [(yb_42, 171, 40, ca 1, gb_143), (ye_42, 172, 40, ca 1, ge_143), (tr_, 197, 4000, ca 0, fa)]) [0, 1, 2] rfl (I1 := [(jFy, jYb dC dI G_198), ([(2, 0), (2, 1)], jOl (dC, dI) G0 2 [ta] s.heap)]) [0, 2] rfl
                  clear hh_215
                  have hh_218 := hh_217.addI (jDcc.ie hd_216)
                  clear hh_217
                  have hh_219 := hh_218.addIs hbE_198
                  obtain ⟨hr_199, hr_199p⟩ := hr_199
                  try simp only at hr_199p
                  obtain ⟨ret_220, rfl, hg_ret_220⟩ := hr_199
                  refine j7_qast hx hb hK2 hh_219 hB hB210 2 rfl (by decide) (by decide) rfl rfl rfl hg_203 (x := v3_148.toInt) (rfl) (by omega) hB11 (T := TX9) (N := 9) rfl (by decide) hg_ret_220 (Or.inr ⟨_, rfl, hg_ret_220⟩) dX11_batch_158 (fun H_221 locs_221 hh_221 => ?_)
                  clear hh_219
                  obtain ⟨z_222, ez_222⟩ : ∃ y : Int32, y = v3_148 + 1 := ⟨_, rfl⟩
                  refine lv_iinc (v := z_222) (lv' := [(3, .int z_222), (4, .ref ret_184), (0, .ref r0), (1, .int a1), (2, .ref spare_13)]) hx hb dX11_batch_159 hl (k := 4) rfl (by rw [ez_222]; rfl) (by decide) rfl (fun ls hl => ?_)
                  have hz_222 : z_222.toInt = v3_148.toInt + 1 := by rw [ez_222]; exact jb_iadd2 (rfl) (by decide) (by omega)
                  have hje := jEd.to hnb.2.2.1 (k1 := z_222.toInt) (by omega)
                  refine lv_goto (tgt := 97) hx hb dX11_batch_162 (by decide) ?_
                  refine W.tight (c2 := ((zcx_148 + (1)) + (23))) (n2 := ((zsx_148 + (m_ret_164)) + ((183 + 336 * (min 1 (m_ret_164 / 3)))))) hh_221.2.2.2.2.2.1 hh_221.2.2.2.2.2.2.1 ?_
                  exact L97 G_198 ((zcx_148 + (1)) + (23)) ((zsx_148 + (m_ret_164)) + ((183 + 336 * (min 1 (m_ret_164 / 3))))) z_222 _ _ (hh_221.sub (L1 := [(spare_13, 3, 4, .int qs_143), (r0, 13, 5, .ref kernel_139), (spare_13, 3, 10, .int pk_42), (spare_13, 3, 5, .ref yb_42), (spare_13, 3, 6, .ref ye_42), (r0, 13, 18, .int (-2)), (r0, 13, 16, .ref spare_13), (r0, 13, 15, .ref H_14.size), (H_14.size, 3, 10, .int qk_25), (H_14.size, 3, 3, .int ql_25), (spare_13, 3, 3, .int ql_14), (ta, 2, 1, .int 0), (r0, 13, 0, .ref ta), (ta, 2, 0, .ref tr_)]) [4, 5, 6, 7, 8, 9, 10, 11, 12, 13, 14, 15, 16, 17] rfl (M1 := [(yb_42, 171, 40, ca 1, gb_143), (ye_42, 172, 40, ca 1, ge_143), (tr_, 197, 4000, ca 0, fa)]) [0, 1, 2] rfl (I1 := [(jFdo, jDcc dC dI ca G_198 none phn_145), (jFs11, jSef dC dI G_198), (jFy, jYb dC dI G_198), ([(2, 0), (2, 1)], jOl (dC, dI) G0 2 [ta] s.heap)]) [1, 0, 2, 3] rfl) (hNn_198) (((hle_148).tr hb_1642).tr hb_1982) (⟨(by first | (with_reducible assumption) | omega | rfl | fail), (by first | (with_reducible assumption) | omega | rfl | fail), (by first | (with_reducible assumption) | omega | rfl | fail), (by first | (with_reducible assumption) | omega | rfl | fail)⟩) (by omega) _ (lv_sub hl [2, 3, 4, 0] rfl)
            refine W.tight (c2 := ((0 + 1) + (7))) (n2 := ((0 + 17) + (1700))) hh_147.2.2.2.2.2.1 hh_147.2.2.2.2.2.2.1 ?_
            exact L97 (qs_143.toInt - (0 : Int32).toInt : Int).toNat.succ G_25 ((0 + 1) + (7)) ((0 + 17) + (1700)) 0 _ _ (hh_147.sub (L1 := [(spare_13, 3, 4, .int qs_143), (r0, 13, 5, .ref kernel_139), (spare_13, 3, 10, .int pk_42), (spare_13, 3, 5, .ref yb_42), (spare_13, 3, 6, .ref ye_42), (r0, 13, 18, .int (-2)), (r0, 13, 16, .ref spare_13), (r0, 13, 15, .ref H_14.size), (H_14.size, 3, 10, .int qk_25), (H_14.size, 3, 3, .int ql_25), (spare_13, 3, 3, .int ql_14), (ta, 2, 1, .int 0), (r0, 13, 0, .ref ta), (ta, 2, 0, .ref tr_)]) [0, 2, 4, 5, 6, 7, 8, 9, 10, 11, 12, 14, 15, 16] rfl (M1 := [(yb_42, 171, 40, ca 1, gb_143), (ye_42, 172, 40, ca 1, ge_143), (tr_, 197, 4000, ca 0, fa)]) [0, 1, 2] rfl (I1 := [(jFdo, jDcc dC dI ca G_25 none phn_145), (jFs11, jSef dC dI G_25), (jFy, jYb dC dI G_25), ([(2, 0), (2, 1)], jOl (dC, dI) G0 2 [ta] s.heap)]) [0, 1, 2, 3] rfl) (hNn_25) (jLe.rf) (⟨(by first | (with_reducible assumption) | omega | rfl | fail), (by first | (with_reducible assumption) | omega | rfl | fail), (by first | (with_reducible assumption) | omega | rfl | fail), (by first | (with_reducible assumption) | omega | rfl | fail)⟩) (by omega) _ (lv_sub hl [2, 3, 1, 0] rfl)
        · refine j7_read hx hb hown hK (C := RX11) (T := TX11) (N := 19) rfl hly_13_16 hlk_200 (hh_22.at 0 rfl) dX11_batch_50 ?_
          refine lv_ifnonnull (tgt := 66) hx hb dX11_batch_53 (by decide) ?_
          refine lv_aload_n hx hb dX11_batch_66 rfl (lv_at hl 1 rfl) ?_
          refine j7_read hx hb hown hK (C := RX11) (T := TX11) (N := 19) rfl hly_13_16 hlk_200 (hh_22.at 0 rfl) dX11_batch_67 ?_
          refine j7_put hx hb hown hK hh_22 hB hAp hB13 (C := RX11) (T := TX11) (N := 19) rfl (by decide) hg_r0 (i := 15) (by decide) hly_13_15 rfl hlk_82 rfl (ty := (.object "ProofServer$Document")) (v := .ref latest_23) (by decide +kernel) rfl rfl (⟨_, rfl, hg_latest_23⟩) rfl (L1 := [(r0, 13, 16, .ref latest_23), (spare_13, 3, 3, .int ql_14), (spare_13, 3, 2, .ref text_18), (ta, 2, 1, .int 0), (r0, 13, 0, .ref ta), (ta, 2, 0, .ref tr_)]) [0, 1, 2, 4, 5, 6] rfl rfl rfl dX11_batch_70 (fun H_223 locs_223 hh_223 => ?_)
          clear hh_22
          refine lv_aload_n hx hb dX11_batch_73 rfl (lv_at hl 1 rfl) ?_
          refine lv_aload_n hx hb dX11_batch_74 rfl (lv_at hl 0 rfl) ?_
          refine j7_put hx hb hown hK hh_223 hB hAp hB13 (C := RX11) (T := TX11) (N := 19) rfl (by decide) hg_r0 (i := 16) (by decide) hly_13_16 rfl hlk_200 rfl (ty := (.object "ProofServer$Document")) (v := .ref spare_13) (by decide +kernel) rfl rfl (Or.inr ⟨_, rfl, hg_spare_13⟩) rfl (L1 := [(r0, 13, 15, .ref latest_23), (spare_13, 3, 3, .int ql_14), (spare_13, 3, 2, .ref text_18), (ta, 2, 1, .int 0), (r0, 13, 0, .ref ta), (ta, 2, 0, .ref tr_)]) [0, 2, 3, 4, 5, 6] rfl rfl rfl dX11_batch_75 (fun H_224 locs_224 hh_224 => ?_)
          clear hh_223
          refine lv_aload_n hx hb dX11_batch_78 rfl (lv_at hl 1 rfl) ?_
          refine lv_bipush (v := (-2)) hx hb dX11_batch_79 (by decide) ?_
          refine j7_put hx hb hown hK hh_224 hB hAp hB13 (C := RX11) (T := TX11) (N := 19) rfl (by decide) hg_r0 (i := 18) (by decide) hly_13_18 rfl hlk_89 rfl (ty := .int) (v := .int (-2)) (by decide +kernel) rfl rfl (⟨_, rfl⟩) rfl (L1 := [(r0, 13, 16, .ref spare_13), (r0, 13, 15, .ref latest_23), (spare_13, 3, 3, .int ql_14), (spare_13, 3, 2, .ref text_18), (ta, 2, 1, .int 0), (r0, 13, 0, .ref ta), (ta, 2, 0, .ref tr_)]) [0, 1, 2, 3, 4, 5, 6] rfl rfl rfl dX11_batch_81 (fun H_225 locs_225 hh_225 => ?_)
          clear hh_224
          obtain ⟨yb_226, ye_226, w_226, pho_226, fb_226, fe_226, ps_226, pk_226, vc_226, hgb_226, hge_226, h5_226, h6_226, hd_226, hpq_226, hE_226, hpl_226, hpw_226⟩ := jDcc.opn (hh_225.iv 3 rfl) hg_spare_13
          have hh_228 := hh_225.sub (L1 := [(r0, 13, 18, .int (-2)), (r0, 13, 16, .ref spare_13), (r0, 13, 15, .ref latest_23), (spare_13, 3, 3, .int ql_14), (spare_13, 3, 2, .ref text_18), (ta, 2, 1, .int 0), (r0, 13, 0, .ref ta), (ta, 2, 0, .ref tr_)]) [0, 1, 2, 3, 4, 5, 6, 7] rfl (M1 := [(text_18, 101, 1500, ca 1, gt_14), (tr_, 197, 4000, ca 0, fa)]) [0, 1] rfl (I1 := [([(2, 0), (2, 1)], jOl (dC, dI) G0 2 [ta] s.heap), (jFy, jYb dC dI G0), (jFs11, jSef dC dI G0)]) [0, 1, 2] rfl
          clear hh_225
          have hh_229 := (hh_228.more (P1 := [(spare_13, 3, 4, .int ps_226), (spare_13, 3, 10, .int pk_226), (spare_13, 3, 5, .ref yb_226), (spare_13, 3, 6, .ref ye_226)]) (jP.cons hg_spare_13 (hd_226.1 _ (List.mem_of_getElem? (i := 0) rfl)).2 (jP.cons hg_spare_13 (hd_226.1 _ (List.mem_of_getElem? (i := 1) rfl)).2 (jP.cons hg_spare_13 h5_226 (jP.cons hg_spare_13 h6_226 jP.nil))))).moreM hd_226.2.1
          have hh_230 := hh_229.addI (jDcc.ie hE_226)
          clear hh_229
          have hps_226 := hd_226.2.2.2
          have hsn_226 := hd_226.2.2.1
          obtain ⟨v_231, hv_231, hh_226⟩ := hh_230.pin (C := RX1) (T := TX1) (N := 17) hB3 rfl (by decide) hg_spare_13 (i := 11) (by decide) rfl
          have hvq_226 : vc_226 = v_231 := jf.uniq (hd_226.1 _ (List.mem_of_getElem? (i := 2) rfl)).2 (hh_226.at 0 rfl)
          subst hvq_226
          clear hh_230
          rcases hv_231 with rfl | ⟨chk_232, nchk_232, rfl, hg_chk_232, hlen_chk_232⟩
          · skip
            refine lv_aload_n hx hb dX11_batch_84 rfl (lv_at hl 0 rfl) ?_
            refine lv_aload_n hx hb dX11_batch_85 rfl (lv_at hl 1 rfl) ?_
            obtain ⟨v_234, hv_234, hh_235⟩ := hh_226.pin (C := RX11) (T := TX11) (N := 19) hB13 rfl (by decide) hg_r0 (i := 5) (by decide) rfl
            clear hh_226
            obtain ⟨kernel_236, rfl, hg_kernel_236⟩ := hv_234
            refine j7_read hx hb hown hK (C := RX11) (T := TX11) (N := 19) rfl hly_13_5 hlk_41 (hh_235.at 0 rfl) dX11_batch_86 ?_
            obtain ⟨v_237, hv_237, hh_238⟩ := hh_235.pin (C := RX5) (T := TX5) (N := 11) hB7 rfl (by decide) hg_kernel_236 (i := 1) (by decide) rfl
            clear hh_235
            obtain ⟨syntax_239, rfl, hg_syntax_239⟩ := hv_237
            refine j7_read hx hb hown hK (C := RX5) (T := TX5) (N := 11) rfl hly_7_1 hlk_203 (hh_238.at 0 rfl) dX11_batch_89 ?_
            have hsz_240 := hh_238.2.2.2.2.2.1
            have htt_240 := hh_238.2.2.2.2.2.2.1
            refine W.room (fun hrc_240 hrs_240 => ?_)
            refine va_callv (A0 := jA base) (H0 := s.heap) (va_runV (As := [.ref syntax_239]) (rest := []) ⟨hx, hb, hml, hown, hts⟩ (uX1_partP l dC dI ca base B hB hAp hB3 hB8 hB12 hB101 hB102 hB132 hB133 hB171 hB172 hB293 G0 H_225 spare_13 syntax_239 1 ql_14 yb_226 ye_226 text_18 (pho_226) fb_226 fe_226 gt_14) (cwV 1 hts (jgV (jWr_36 _ (List.mem_of_getElem? (i := 2) rfl)) (jWr_36 _ (List.mem_of_getElem? (i := 3) rfl)) (jWr_36 _ (List.mem_of_getElem? (i := 4) rfl)) (jWr_2 _ (List.mem_of_getElem? (i := 21) rfl)) (jWr_36 _ (List.mem_of_getElem? (i := 5) rfl))) rfl rfl rfl (by decide +kernel) ⟨by rw [← hR]; exact Nat.le_of_ble_eq_true rfl, by rw [← hR]; exact Nat.le_of_ble_eq_true rfl⟩) ⟨fun a U g mk q => by obtain ⟨q0, q1, q2, qK, q10, q11, q12, q13, q14, q15, q16, q17, q18⟩ := q; exact ⟨q0, q1, q2, jG.calling g mk a qK, q10, q11, q12, q13, q14, q15, q16, q17, q18⟩, hh_238.recv (C := RX1) (T := TX1) (N := 17) hB3 rfl (by decide) hg_spare_13 hK, fun U hU hW => ⟨rfl, hU, hh_238.2.1, hG.step hW hU hh_238.1, hg_spare_13, hg_syntax_239, hgb_226, hge_226, hg_text_18, (hh_238.2.2.1.sub (L1 := [(spare_13, 3, 3, .int ql_14), (spare_13, 3, 5, .ref yb_226), (spare_13, 3, 6, .ref ye_226), (spare_13, 3, 2, .ref text_18)]) [10, 5, 6, 11] rfl), (hh_238.2.2.2.2.2.2.2.1.sub (L1 := [(yb_226, 171, 40, ca 1, fb_226), (ye_226, 172, 40, ca 1, fe_226), (text_18, 101, 1500, ca 1, gt_14)]) [0, 1, 2] rfl), (hh_238.2.2.2.2.2.2.2.2.sub (L1 := [(jFdo, jDcc dC dI ca G0 (some spare_13) pho_226)]) [0] rfl), ⟨(by first | (with_reducible assumption) | omega | rfl | fail), (by first | (with_reducible assumption) | omega | rfl | fail)⟩⟩⟩ rfl rfl hl.1 rfl (lv_room (Nat.le_of_ble_eq_true rfl)) dX11_batch_92 ⟨by rw [hRc]; show _ + 0 ≤ _; omega, by rw [hRs]; show _ + 0 ≤ _; omega⟩) hh_238.1 (fun q _ h => h) (fun q h => h) (fun u_240 t_240 H_240 locs_240 ht_240 hvm_240 hr_241 hb_240 hz_240 hk_240 hS_240 => ?_)
            obtain ⟨qs_240, gb_240, ge_240⟩ := u_240
            rw [ht_240] at hb_240
            obtain ⟨hb_240, hbE_240⟩ := hb_240
            obtain ⟨hb_240, hbO_240⟩ := hb_240
            obtain ⟨⟨hb_2401, hb_2402, hb_2403, hb_2404, hb_2405⟩, hb_2406⟩ := hb_240
            have hh_240 : jSt (dC, dI) B base G0 G0 EX11_batchP s.heap 0 0 [(spare_13, 3, 4, .int qs_240), (kernel_236, 7, 1, .ref syntax_239), (r0, 13, 5, .ref kernel_236), (spare_13, 3, 11, .null), (spare_13, 3, 10, .int pk_226), (spare_13, 3, 5, .ref yb_226), (spare_13, 3, 6, .ref ye_226), (r0, 13, 18, .int (-2)), (r0, 13, 16, .ref spare_13), (r0, 13, 15, .ref latest_23), (spare_13, 3, 3, .int ql_14), (spare_13, 3, 2, .ref text_18), (ta, 2, 1, .int 0), (r0, 13, 0, .ref ta), (ta, 2, 0, .ref tr_)] [(yb_226, 171, 40, ca 1, gb_240), (ye_226, 172, 40, ca 1, ge_240), (tr_, 197, 4000, ca 0, fa)] [(jFdo, jDcc dC dI ca G0 (some spare_13) pho_226), ([(2, 0), (2, 1)], jOl (dC, dI) G0 2 [ta] s.heap), (jFy, jYb dC dI G0), (jFs11, jSef dC dI G0)] H_240 locs_240 := (((hh_238.call hb_2401 hb_2402 hb_2403 hb_2404 hS_240 rfl (L1 := [(kernel_236, 7, 1, .ref syntax_239), (r0, 13, 5, .ref kernel_236), (spare_13, 3, 11, .null), (spare_13, 3, 10, .int pk_226), (spare_13, 3, 5, .ref yb_226), (spare_13, 3, 6, .ref ye_226), (r0, 13, 18, .int (-2)), (r0, 13, 16, .ref spare_13), (r0, 13, 15, .ref latest_23), (spare_13, 3, 3, .int ql_14), (spare_13, 3, 2, .ref text_18), (ta, 2, 1, .int 0), (r0, 13, 0, .ref ta), (ta, 2, 0, .ref tr_)]) [0, 1, 2, 4, 5, 6, 7, 8, 9, 10, 11, 12, 13, 14] rfl rfl (M1 := [(tr_, 197, 4000, ca 0, fa)]) [3] rfl rfl (I1 := [([(2, 0), (2, 1)], jOl (dC, dI) G0 2 [ta] s.heap), (jFy, jYb dC dI G0), (jFs11, jSef dC dI G0)]) [1, 2, 3] rfl rfl).more hb_2405).moreM hb_2406).addIs hbE_240
            clear hh_238 ht_240 hvm_240 hz_240 hk_240 hS_240 hb_2401 hb_2402 hb_2403 hb_2404 hb_2405
            clear hb_2406
            clear  hbE_240
            try simp only at hr_241
            obtain ⟨hr_241_0, hr_241_1, hr_241_2, hr_241_3⟩ := hr_241
            obtain ⟨phn_242, hphn_242⟩ : ∃ q : Nat, q = pho_226 := ⟨_, rfl⟩
            have hF_242 := jDcc.full (ph1 := phn_242) (hh_240.iv 0 rfl) hg_spare_13 (hh_240.at 5 rfl) (hh_240.at 6 rfl) ⟨(hh_240.2.2.1.sub (L1 := [(spare_13, 3, 4, .int qs_240), (spare_13, 3, 10, .int pk_226), (spare_13, 3, 11, .null)]) [0, 4, 3] rfl), (hh_240.2.2.2.2.2.2.2.1.sub (L1 := [(yb_226, 171, 40, ca 1, gb_240), (ye_226, 172, 40, ca 1, ge_240)]) [0, 1] rfl), (hr_241_2.mono (by omega)), by omega⟩ (w := (575 * (qs_240.toInt - pk_226.toInt) + (1500 - jEd ge_240 pk_226.toInt)).toNat) (fun h9 => absurd h9 (by decide)) (by omega) (fun h9 => absurd h9 (by decide))
            have hh_243 := hh_240.sub (L1 := [(spare_13, 3, 4, .int qs_240), (kernel_236, 7, 1, .ref syntax_239), (r0, 13, 5, .ref kernel_236), (spare_13, 3, 11, .null), (spare_13, 3, 10, .int pk_226), (spare_13, 3, 5, .ref yb_226), (spare_13, 3, 6, .ref ye_226), (r0, 13, 18, .int (-2)), (r0, 13, 16, .ref spare_13), (r0, 13, 15, .ref latest_23), (spare_13, 3, 3, .int ql_14), (spare_13, 3, 2, .ref text_18), (ta, 2, 1, .int 0), (r0, 13, 0, .ref ta), (ta, 2, 0, .ref tr_)]) [0, 1, 2, 3, 4, 5, 6, 7, 8, 9, 10, 11, 12, 13, 14] rfl (M1 := [(yb_226, 171, 40, ca 1, gb_240), (ye_226, 172, 40, ca 1, ge_240), (tr_, 197, 4000, ca 0, fa)]) [0, 1, 2] rfl (I1 := [([(2, 0), (2, 1)], jOl (dC, dI) G0 2 [ta] s.heap), (jFy, jYb dC dI G0), (jFs11, jSef dC dI G0)]) [1, 2, 3] rfl
            clear hh_240
            have hh_244 := hh_243.addI (jDcc.ie hF_242)
            clear hh_243
            refine lv_iconst (v := 0) hx hb dX11_batch_95 (by decide) ?_
            have hjz := jEd.z (fe := ge_240) (k := (0 : Int32).toInt) (by omega)
            refine lv_istore_n (lv' := [(3, .int 0), (2, .ref spare_13), (0, .ref r0), (1, .int a1)]) hx hb dX11_batch_96 rfl hl (by decide) rfl (fun ls hl => ?_)
            have L97 : ∀ (N : Nat) (Gx_245 : jT) (zcx_245 : Nat) (zsx_245 : Nat) (v3_245 : Int32) (H_245 : Heap) (locs_245 : List Loc), jSt (dC, dI) B base G0 Gx_245 EX11_batchP s.heap zcx_245 zsx_245 [(spare_13, 3, 4, .int qs_240), (kernel_236, 7, 1, .ref syntax_239), (r0, 13, 5, .ref kernel_236), (spare_13, 3, 11, .null), (spare_13, 3, 10, .int pk_226), (spare_13, 3, 5, .ref yb_226), (spare_13, 3, 6, .ref ye_226), (r0, 13, 18, .int (-2)), (r0, 13, 16, .ref spare_13), (r0, 13, 15, .ref latest_23), (spare_13, 3, 3, .int ql_14), (ta, 2, 1, .int 0), (r0, 13, 0, .ref ta), (ta, 2, 0, .ref tr_)] [(yb_226, 171, 40, ca 1, gb_240), (ye_226, 172, 40, ca 1, ge_240), (tr_, 197, 4000, ca 0, fa)] [(jFdo, jDcc dC dI ca Gx_245 none phn_242), ([(2, 0), (2, 1)], jOl (dC, dI) G0 2 [ta] s.heap), (jFy, jYb dC dI Gx_245), (jFs11, jSef dC dI Gx_245)] H_245 locs_245 → (jNk [0, 1, 2, 4, 6, 7, 8, 9, 10, 12, 13, 14, 15, 16]) G0 Gx_245 → jLe G0 Gx_245 → (0 ≤ v3_245.toInt ∧ v3_245.toInt ≤ qs_240.toInt ∧ zcx_245 ≤ 8 + 24 * v3_245.toInt ∧ zsx_245 ≤ 1720 + 185 * jEd ge_240 v3_245.toInt) → (qs_240.toInt - v3_245.toInt : Int) < N → ∀ ls : Array Slot, lv_has ls 5 [(0, .ref r0), (1, .int a1), (2, .ref spare_13), (3, .int v3_245)] → W p l e R s m ([.ref r0, .int a1] : List Value).toArray below meth c H_245 locs_245 zcx_245 zsx_245 Q (F0 m 97 ls []) := by
              intro N
              induction N with
              | zero => intro Gx_245 zcx_245 zsx_245 v3_245 H_245 locs_245 hh_245 hN_245 hle_245 hi_245 hm; exact absurd hm (by omega)
              | succ N L97 =>
                intro Gx_245 zcx_245 zsx_245 v3_245 H_245 locs_245 hh_245 hN_245 hle_245 hi_245 hm_245 ls hl
                have hg_246 := hle_245 _ _ hg_r0
                have hg_247 := hle_245 _ _ hg_spare_13
                have hg_248 := hle_245 _ _ hg_syntax_239
                have hg_249 := hle_245 _ _ hg_kernel_236
                have hg_250 := hle_245 _ _ hgb_226
                have hg_251 := hle_245 _ _ hge_226
                have hg_252 := hle_245 _ _ hg_latest_23
                have hg_253 := hle_245 _ _ hg_ta
                have hg_254 := hle_245 _ _ hg_tr_
                obtain ⟨hi_245_0, hi_245_1, hi_245_2, hi_245_3⟩ := hi_245
                have hql := jSn.le hr_241_2 (by omega)
                refine lv_iload_n hx hb dX11_batch_97 rfl (lv_at hl 3 rfl) ?_
                refine lv_aload_n hx hb dX11_batch_98 rfl (lv_at hl 2 rfl) ?_
                refine j7_read hx hb hown hK (C := RX1) (T := TX1) (N := 17) rfl hly_3_4 hlk_168 (hh_245.at 0 rfl) dX11_batch_99 ?_
                refine lv_icmp_ge (tgt := 165) hx hb dX11_batch_102 (by decide) (fun c_255 => ?_) (fun c_255 => ?_)
                · skip
                  have c_255' : v3_245.toInt ≥ qs_240.toInt := jb_ge (rfl) (rfl) c_255
                  have hjl := jEd.le hr_241_2 (k := v3_245.toInt) (by omega) (by omega) (by omega)
                  refine lv_aload_n hx hb dX11_batch_165 rfl (lv_at hl 2 rfl) ?_
                  refine j7_read hx hb hown hK (C := RX1) (T := TX1) (N := 17) rfl hly_3_4 hlk_168 (hh_245.at 0 rfl) dX11_batch_166 ?_
                  have hsz_256 := hh_245.2.2.2.2.2.1
                  have htt_256 := hh_245.2.2.2.2.2.2.1
                  refine W.room (fun hrc_256 hrs_256 => ?_)
                  refine W.widen (k := LC - s.heap.size) (n := LS - jTot s.heap) (by omega) (by omega) ?_
                  rw [hQ]
                  exact W.iret (v := qs_240) hx hb hr (fun t ht hW => ⟨⟨qs_240, (0, phn_242, (pt.toInt.toNat - (0 : Int).toNat), Gx_245), rfl, by skip; (try dsimp only); refine ⟨by omega, by omega, by omega, ?_⟩; exact Or.inr ⟨by omega, by omega, jBa.part (hr_15p_3.yes (by omega)).1 (by omega) (hr_15p_3.yes (by omega)).2 hr_241_3⟩, ⟨hh_245.ra (by first | (simp only; omega) | omega) (by first | (simp only; omega) | omega) (M1 := [(ta, 2, 1, .int 0)]) [11] rfl ht, hN_245, by rw [ht]; exact hh_245.iv 1 rfl, by rw [ht]; exact hh_245.2.2.2.2.2.2.2.2.sub (L1 := [(jFy, jYb dC dI Gx_245), (jFs11, jSef dC dI Gx_245), (jFdo, jDcc dC dI ca Gx_245 none phn_242)]) [2, 3, 0] rfl⟩⟩, by rw [ht]; try exact hh_245.1.1, fun q h9 hq => by rw [ht]; try exact hh_245.1.2.1 q h9 hq⟩) hh_245.1.2.2 dX11_batch_169
                · skip
                  have c_255' : v3_245.toInt < qs_240.toInt := jb_ge_n (rfl) (rfl) c_255
                  have hn2 := jEd.nx hr_241_2 (k := v3_245.toInt) (by omega) (by omega)
                  have hnb := jEd.nx (hr_241_2.mono (by omega) : jSn _ _ _ 1500) (k := v3_245.toInt) (by omega) (by omega)
                  refine lv_aload_n hx hb dX11_batch_105 rfl (lv_at hl 2 rfl) ?_
                  obtain ⟨v_257, hv_257, hh_258⟩ := hh_245.pin (C := RX1) (T := TX1) (N := 17) hB3 rfl (by decide) hg_247 (i := 2) (by decide) rfl
                  clear hh_245
                  obtain ⟨text_259, rfl, hg_text_259⟩ := hv_257
                  refine j7_read hx hb hown hK (C := RX1) (T := TX1) (N := 17) rfl hly_3_2 hlk_174 (hh_258.at 0 rfl) dX11_batch_106 ?_
                  refine lv_aload_n hx hb dX11_batch_109 rfl (lv_at hl 2 rfl) ?_
                  refine j7_read hx hb hown hK (C := RX1) (T := TX1) (N := 17) rfl hly_3_5 hlk_182 (hh_258.at 6 rfl) dX11_batch_110 ?_
                  refine lv_iload_n hx hb dX11_batch_113 rfl (lv_at hl 3 rfl) ?_
                  refine j7_ialdM hx hb hK hh_258 hB171 1 rfl (by decide) hg_250 (x := v3_245.toInt) (rfl) (by omega) (j := 0) rfl dX11_batch_114 (fun z_260 ez_260 (hz_260 : 0 ≤ z_260.toInt ∧ z_260.toInt ≤ 1500) => ?_)
                  have hqz_260 : z_260.toInt = jSo gb_240 (v3_245.toInt) := by unfold jSo; rw [ez_260]
                  refine lv_aload_n hx hb dX11_batch_115 rfl (lv_at hl 2 rfl) ?_
                  refine j7_read hx hb hown hK (C := RX1) (T := TX1) (N := 17) rfl hly_3_6 hlk_185 (hh_258.at 7 rfl) dX11_batch_116 ?_
                  refine lv_iload_n hx hb dX11_batch_119 rfl (lv_at hl 3 rfl) ?_
                  refine j7_ialdM hx hb hK hh_258 hB172 1 rfl (by decide) hg_251 (x := v3_245.toInt) (rfl) (by omega) (j := 1) rfl dX11_batch_120 (fun z_261 ez_261 (hz_261 : 0 ≤ z_261.toInt ∧ z_261.toInt ≤ 1500) => ?_)
                  have hqz_261 : z_261.toInt = jSo ge_240 (v3_245.toInt) := by unfold jSo; rw [ez_261]
                  have hsz_262 := hh_258.2.2.2.2.2.1
                  have htt_262 := hh_258.2.2.2.2.2.2.1
                  refine W.room (fun hrc_262 hrs_262 => ?_)
                  refine j_callx (A0 := jA base) (H0 := s.heap) (va_runS (As := [.ref text_259, .int z_260, .int z_261]) (rest := []) ⟨hx, hb, hml, hown, hts⟩ (uJ7_copyOfRange_feeccU l dC dI ca base B hB hAp hB101 hB280 Gx_245 H_245 text_259 z_260 z_261 1500 LC LS) (va_cwS 3 hts (jgS (jWr_77 _ (List.mem_of_getElem? (i := 21) rfl)) (jWr_77 _ (List.mem_of_getElem? (i := 22) rfl)) (jWr_16 _ (List.mem_of_getElem? (i := 7) rfl)) (jWr_77 _ (List.mem_of_getElem? (i := 23) rfl))) rfl rfl rfl (by decide +kernel) ⟨by rw [← hR]; exact Nat.le_of_ble_eq_true rfl, by rw [← hR]; exact Nat.le_of_ble_eq_true rfl⟩) ⟨fun a U g mk q => by obtain ⟨q0, q1, q2, qK, q10, q11, q12, q13⟩ := q; exact ⟨q0, q1, q2, jG.calling g mk a qK, (jK8.calling g mk a q10), q11, q12, q13⟩, fun U hU hW => ⟨rfl, hU, hh_258.2.1, hG.step hW hU hh_258.1, (jK8.warm hW hK8), hg_text_259, jP.nil, ⟨(by first | (with_reducible assumption) | omega | rfl | fail), (by first | (with_reducible assumption) | omega | rfl | fail), (by first | (with_reducible assumption) | omega | rfl | fail), (by first | (with_reducible assumption) | omega | rfl | fail)⟩⟩⟩ rfl rfl hl.1 rfl (lv_room (Nat.le_of_ble_eq_true rfl)) dX11_batch_121 ⟨by rw [hRc]; omega, by rw [hRs]; omega⟩) hh_258.1 (fun q _ h => h) (fun q h => h) (fun r_263 u_262 t_262 H_262 locs_262 ht_262 hvm_262 hr_263 hb_262 hz_262 hk_262 hS_262 => ?_)
                  rw [ht_262] at hb_262
                  obtain ⟨m_ret_262, G_262⟩ := u_262
                  simp only at hb_262
                  obtain ⟨⟨hb_2621, hb_2622, hb_2623, hb_2624, hb_2625, hb_2626⟩, hN_262, hbK_262⟩ := hb_262
                  have hE9_262 := hN_262
                  have hM_262 := hN_262
                  have hN_262 : (jNk [0, 1, 2, 4, 6, 7, 8, 9, 10, 12, 13, 14, 15, 16]) Gx_245 G_262 := hN_262.sub (by decide)
                  have hh_262 : jSt (dC, dI) B base G0 G_262 EX11_batchP s.heap (zcx_245 + (1)) (zsx_245 + (m_ret_262)) [(spare_13, 3, 2, .ref text_259), (spare_13, 3, 4, .int qs_240), (kernel_236, 7, 1, .ref syntax_239), (r0, 13, 5, .ref kernel_236), (spare_13, 3, 11, .null), (spare_13, 3, 10, .int pk_226), (spare_13, 3, 5, .ref yb_226), (spare_13, 3, 6, .ref ye_226), (r0, 13, 18, .int (-2)), (r0, 13, 16, .ref spare_13), (r0, 13, 15, .ref latest_23), (spare_13, 3, 3, .int ql_14), (ta, 2, 1, .int 0), (r0, 13, 0, .ref ta), (ta, 2, 0, .ref tr_)] [(yb_226, 171, 40, ca 1, gb_240), (ye_226, 172, 40, ca 1, ge_240), (tr_, 197, 4000, ca 0, fa)] [(jFdo, jDcc dC dI ca Gx_245 none phn_242), ([(2, 0), (2, 1)], jOl (dC, dI) G0 2 [ta] s.heap), (jFy, jYb dC dI Gx_245), (jFs11, jSef dC dI Gx_245)] H_262 locs_262 := (hh_258.callG hb_2621 hb_2622 hb_2623 hb_2624 hb_2625 hS_262 rfl (L1 := [(spare_13, 3, 2, .ref text_259), (spare_13, 3, 4, .int qs_240), (kernel_236, 7, 1, .ref syntax_239), (r0, 13, 5, .ref kernel_236), (spare_13, 3, 11, .null), (spare_13, 3, 10, .int pk_226), (spare_13, 3, 5, .ref yb_226), (spare_13, 3, 6, .ref ye_226), (r0, 13, 18, .int (-2)), (r0, 13, 16, .ref spare_13), (r0, 13, 15, .ref latest_23), (spare_13, 3, 3, .int ql_14), (ta, 2, 1, .int 0), (r0, 13, 0, .ref ta), (ta, 2, 0, .ref tr_)]) [0, 1, 2, 3, 4, 5, 6, 7, 8, 9, 10, 11, 12, 13, 14] rfl rfl (M1 := [(yb_226, 171, 40, ca 1, gb_240), (ye_226, 172, 40, ca 1, ge_240), (tr_, 197, 4000, ca 0, fa)]) [0, 1, 2] rfl rfl (I1 := [(jFdo, jDcc dC dI ca Gx_245 none phn_242), ([(2, 0), (2, 1)], jOl (dC, dI) G0 2 [ta] s.heap), (jFy, jYb dC dI Gx_245), (jFs11, jSef dC dI Gx_245)]) [0, 1, 2, 3] rfl rfl).more hb_2626
                  have hNn_262 : (jNk [0, 1, 2, 4, 6, 7, 8, 9, 10, 12, 13, 14, 15, 16]) G0 G_262 := (hN_245).tr hN_262
                  have hg_264 := hb_2622 _ _ hg_246
                  have hg_265 := hb_2622 _ _ hg_247
                  have hg_266 := hb_2622 _ _ hg_text_259
                  have hg_267 := hb_2622 _ _ hg_248
                  have hg_268 := hb_2622 _ _ hg_249
                  have hg_269 := hb_2622 _ _ hg_250
                  have hg_270 := hb_2622 _ _ hg_251
                  have hg_271 := hb_2622 _ _ hg_252
                  have hg_272 := hb_2622 _ _ hg_253
                  have hg_273 := hb_2622 _ _ hg_254
                  have hd_274 := jDcc.grow (hh_262.iv 0 rfl) hb_2622 hE9_262 (by decide)
                  have hh_275 := hh_262.sub (L1 := [(spare_13, 3, 2, .ref text_259), (spare_13, 3, 4, .int qs_240), (kernel_236, 7, 1, .ref syntax_239), (r0, 13, 5, .ref kernel_236), (spare_13, 3, 11, .null), (spare_13, 3, 10, .int pk_226), (spare_13, 3, 5, .ref yb_226), (spare_13, 3, 6, .ref ye_226), (r0, 13, 18, .int (-2)), (r0, 13, 16, .ref spare_13), (r0, 13, 15, .ref latest_23), (spare_13, 3, 3, .int ql_14), (ta, 2, 1, .int 0), (r0, 13, 0, .ref ta), (ta, 2, 0, .ref tr_)]) [0, 1, 2, 3, 4, 5, 6, 7, 8, 9, 10, 11, 12, 13, 14] rfl (M1 := [(yb_226, 171, 40, ca 1, gb_240), (ye_226, 172, 40, ca 1, ge_240), (tr_, 197, 4000, ca 0, fa)]) [0, 1, 2] rfl (I1 := [([(2, 0), (2, 1)], jOl (dC, dI) G0 2 [ta] s.heap), (jFy, jYb dC dI Gx_245), (jFs11, jSef dC dI Gx_245)]) [1, 2, 3] rfl
                  clear hh_262
                  have hh_276 := hh_275.addI (jDcc.ie hd_274)
                  clear hh_275
                  have hd_277 := jYb.grow (hh_276.iv 2 rfl) hb_2622 hN_262 (by decide)
                  have hh_278 := hh_276.sub (L1 := [(spare_13, 3, 2, .ref text_259), (spare_13, 3, 4, .int qs_240), (kernel_236, 7, 1, .ref syntax_239), (r0, 13, 5, .ref kernel_236), (spare_13, 3, 11, .null), (spare_13, 3, 10, .int pk_226), (spare_13, 3, 5, .ref yb_226), (spare_13, 3, 6, .ref ye_226), (r0, 13, 18, .int (-2)), (r0, 13, 16, .ref spare_13), (r0, 13, 15, .ref latest_23), (spare_13, 3, 3, .int ql_14), (ta, 2, 1, .int 0), (r0, 13, 0, .ref ta), (ta, 2, 0, .ref tr_)]) [0, 1, 2, 3, 4, 5, 6, 7, 8, 9, 10, 11, 12, 13, 14] rfl (M1 := [(yb_226, 171, 40, ca 1, gb_240), (ye_226, 172, 40, ca 1, ge_240), (tr_, 197, 4000, ca 0, fa)]) [0, 1, 2] rfl (I1 := [(jFdo, jDcc dC dI ca G_262 none phn_242), ([(2, 0), (2, 1)], jOl (dC, dI) G0 2 [ta] s.heap), (jFs11, jSef dC dI Gx_245)]) [0, 1, 3] rfl
                  clear hh_276
                  have hh_279 := hh_278.addI (jYb.ie hd_277)
                  clear hh_278
                  have hd_280 := jSef.grow (hh_279.iv 3 rfl) hb_2622 hM_262 (by decide)
                  have hh_281 := hh_279.sub (L1 := [(spare_13, 3, 2, .ref text_259), (spare_13, 3, 4, .int qs_240), (kernel_236, 7, 1, .ref syntax_239), (r0, 13, 5, .ref kernel_236), (spare_13, 3, 11, .null), (spare_13, 3, 10, .int pk_226), (spare_13, 3, 5, .ref yb_226), (spare_13, 3, 6, .ref ye_226), (r0, 13, 18, .int (-2)), (r0, 13, 16, .ref spare_13), (r0, 13, 15, .ref latest_23), (spare_13, 3, 3, .int ql_14), (ta, 2, 1, .int 0), (r0, 13, 0, .ref ta), (ta, 2, 0, .ref tr_)]) [0, 1, 2, 3, 4, 5, 6, 7, 8, 9, 10, 11, 12, 13, 14] rfl (M1 := [(yb_226, 171, 40, ca 1, gb_240), (ye_226, 172, 40, ca 1, ge_240), (tr_, 197, 4000, ca 0, fa)]) [0, 1, 2] rfl (I1 := [(jFy, jYb dC dI G_262), (jFdo, jDcc dC dI ca G_262 none phn_242), ([(2, 0), (2, 1)], jOl (dC, dI) G0 2 [ta] s.heap)]) [0, 1, 2] rfl
                  clear hh_279
                  have hh_282 := hh_281.addI (jSef.ie hd_280)
                  clear hh_281
                  obtain ⟨hr_263, hr_263n, hr_263p⟩ := hr_263
                  try simp only at hr_263p
                  obtain ⟨ret_283, rfl, hg_ret_283⟩ := hr_263
                  have hsy_262 : s.heap.size ≤ ret_283 := Nat.le_trans hh_258.1.1 hr_263n.le
                  refine lv_astore (lv' := [(4, .ref ret_283), (0, .ref r0), (1, .int a1), (2, .ref spare_13), (3, .int v3_245)]) hx hb dX11_batch_124 hl (by decide) rfl (fun ls hl => ?_)
                  refine lv_aload_n hx hb dX11_batch_126 rfl (lv_at hl 3 rfl) ?_
                  obtain ⟨v_284, hv_284, hh_285⟩ := hh_282.pin (C := RX1) (T := TX1) (N := 17) hB3 rfl (by decide) hg_265 (i := 9) (by decide) rfl
                  clear hh_282
                  obtain ⟨behind_286, rfl, hg_behind_286⟩ := hv_284
                  refine j7_read hx hb hown hK (C := RX1) (T := TX1) (N := 17) rfl hly_3_9 hlk_178 (hh_285.at 0 rfl) dX11_batch_127 ?_
                  refine lv_iload_n hx hb dX11_batch_130 rfl (lv_at hl 4 rfl) ?_
                  refine lv_aload_n hx hb dX11_batch_131 rfl (lv_at hl 1 rfl) ?_
                  refine j7_read hx hb hown hK (C := RX11) (T := TX11) (N := 19) rfl hly_13_5 hlk_41 (hh_285.at 4 rfl) dX11_batch_132 ?_
                  refine lv_aload_n hx hb dX11_batch_135 rfl (lv_at hl 3 rfl) ?_
                  refine lv_iload_n hx hb dX11_batch_136 rfl (lv_at hl 4 rfl) ?_
                  refine lv_aload_n hx hb dX11_batch_137 rfl (lv_at hl 1 rfl) ?_
                  refine j7_read hx hb hown hK (C := RX11) (T := TX11) (N := 19) rfl hly_13_5 hlk_41 (hh_285.at 4 rfl) dX11_batch_138 ?_
                  obtain ⟨v_287, hv_287, hh_288⟩ := hh_285.pin (C := RX5) (T := TX5) (N := 11) hB7 rfl (by decide) hg_268 (i := 2) (by decide) rfl
                  clear hh_285
                  obtain ⟨start_289, rfl, hg_start_289⟩ := hv_287
                  refine j7_read hx hb hown hK (C := RX5) (T := TX5) (N := 11) rfl hly_7_2 hlk_217 (hh_288.at 0 rfl) dX11_batch_141 ?_
                  have hsz_290 := hh_288.2.2.2.2.2.1
                  have htt_290 := hh_288.2.2.2.2.2.2.1
                  refine W.room (fun hrc_290 hrs_290 => ?_)
                  refine j_callx (A0 := jA base) (H0 := s.heap) (va_runV (As := [.int v3_245, .ref start_289]) (rest := [.ref kernel_236, .int v3_245, .ref behind_286]) ⟨hx, hb, hml, hown, hts⟩ (uX1_stateBehind l dC dI ca base B hB hAp hB3 hB11 hB210 G_262 H_262 spare_13 v3_245 start_289 1) (cwV 2 hts (jgV (jWr_30 _ (List.mem_of_getElem? (i := 9) rfl)) (jWr_30 _ (List.mem_of_getElem? (i := 10) rfl)) (jWr_30 _ (List.mem_of_getElem? (i := 11) rfl)) (jWr_2 _ (List.mem_of_getElem? (i := 21) rfl)) (jWr_30 _ (List.mem_of_getElem? (i := 12) rfl))) rfl rfl rfl (by decide +kernel) ⟨by rw [← hR]; exact Nat.le_of_ble_eq_true rfl, by rw [← hR]; exact Nat.le_of_ble_eq_true rfl⟩) ⟨fun a U g mk q => by obtain ⟨q0, q1, q2, qK, q10, q11, q12, q13, q14⟩ := q; exact ⟨q0, q1, q2, jG.calling g mk a qK, (va_K.moved (Vm.Alike.refl U.vm) q10), q11, q12, q13, q14⟩, hh_288.recv (C := RX1) (T := TX1) (N := 17) hB3 rfl (by decide) hg_265 hK, fun U hU hW => ⟨rfl, hU, hh_288.2.1, hG.step hW hU hh_288.1, va_K.moved hW.alike hK2, hg_265, hg_start_289, jP.nil, trivial⟩⟩ rfl rfl hl.1 rfl (lv_room (Nat.le_of_ble_eq_true rfl)) dX11_batch_144 ⟨by rw [hRc]; show _ + 0 ≤ _; omega, by rw [hRs]; show _ + 0 ≤ _; omega⟩) hh_288.1 (fun q _ h => h) (fun q h => h) (fun r_291 u_290 t_290 H_290 locs_290 ht_290 hvm_290 hr_291 hb_290 hz_290 hk_290 hS_290 => ?_)
                  rw [ht_290] at hb_290
                  obtain ⟨hb_2901, hb_2902, hb_2903, hb_2904, hb_2905⟩ := hb_290
                  have hh_290 : jSt (dC, dI) B base G0 G_262 EX11_batchP s.heap (zcx_245 + (1)) (zsx_245 + (m_ret_262)) [(kernel_236, 7, 2, .ref start_289), (spare_13, 3, 9, .ref behind_286), (spare_13, 3, 2, .ref text_259), (spare_13, 3, 4, .int qs_240), (kernel_236, 7, 1, .ref syntax_239), (r0, 13, 5, .ref kernel_236), (spare_13, 3, 11, .null), (spare_13, 3, 10, .int pk_226), (spare_13, 3, 5, .ref yb_226), (spare_13, 3, 6, .ref ye_226), (r0, 13, 18, .int (-2)), (r0, 13, 16, .ref spare_13), (r0, 13, 15, .ref latest_23), (spare_13, 3, 3, .int ql_14), (ta, 2, 1, .int 0), (r0, 13, 0, .ref ta), (ta, 2, 0, .ref tr_)] [(yb_226, 171, 40, ca 1, gb_240), (ye_226, 172, 40, ca 1, ge_240), (tr_, 197, 4000, ca 0, fa)] [(jFs11, jSef dC dI G_262), (jFy, jYb dC dI G_262), (jFdo, jDcc dC dI ca G_262 none phn_242), ([(2, 0), (2, 1)], jOl (dC, dI) G0 2 [ta] s.heap)] H_290 locs_290 := ((hh_288.call hb_2901 hb_2902 hb_2903 hb_2904 hS_290 rfl (L1 := [(kernel_236, 7, 2, .ref start_289), (spare_13, 3, 9, .ref behind_286), (spare_13, 3, 2, .ref text_259), (spare_13, 3, 4, .int qs_240), (kernel_236, 7, 1, .ref syntax_239), (r0, 13, 5, .ref kernel_236), (spare_13, 3, 11, .null), (spare_13, 3, 10, .int pk_226), (spare_13, 3, 5, .ref yb_226), (spare_13, 3, 6, .ref ye_226), (r0, 13, 18, .int (-2)), (r0, 13, 16, .ref spare_13), (r0, 13, 15, .ref latest_23), (spare_13, 3, 3, .int ql_14), (ta, 2, 1, .int 0), (r0, 13, 0, .ref ta), (ta, 2, 0, .ref tr_)]) [0, 1, 2, 3, 4, 5, 6, 7, 8, 9, 10, 11, 12, 13, 14, 15, 16] rfl rfl (M1 := [(yb_226, 171, 40, ca 1, gb_240), (ye_226, 172, 40, ca 1, ge_240), (tr_, 197, 4000, ca 0, fa)]) [0, 1, 2] rfl rfl (I1 := [(jFs11, jSef dC dI G_262), (jFy, jYb dC dI G_262), (jFdo, jDcc dC dI ca G_262 none phn_242), ([(2, 0), (2, 1)], jOl (dC, dI) G0 2 [ta] s.heap)]) [0, 1, 2, 3] rfl rfl).more hb_2905)
                  clear hh_288 ht_290 hvm_290 hz_290 hk_290 hS_290 hb_2901 hb_2902 hb_2903 hb_2904 hb_2905
                  obtain ⟨ret_292, rfl, hg_ret_292⟩ := hr_291
                  refine lv_aload hx hb dX11_batch_147 (lv_at hl 0 rfl) ?_
                  refine lv_aload_n hx hb dX11_batch_149 rfl (lv_at hl 3 rfl) ?_
                  obtain ⟨v_293, hv_293, hh_294⟩ := hh_290.pin (C := RX1) (T := TX1) (N := 17) hB3 rfl (by decide) hg_265 (i := 8) (by decide) rfl
                  clear hh_290
                  obtain ⟨early_295, rfl, hg_early_295⟩ := hv_293
                  refine j7_read hx hb hown hK (C := RX1) (T := TX1) (N := 17) rfl hly_3_8 hlk_225 (hh_294.at 0 rfl) dX11_batch_150 ?_
                  refine lv_iload_n hx hb dX11_batch_153 rfl (lv_at hl 4 rfl) ?_
                  refine j7_iald hx hb hK hh_294 hB101 1 rfl (by decide) hg_early_295 (x := v3_245.toInt) (rfl) (by omega) dX11_batch_154 (fun z_296 (hz_296 : True) => ?_)
                  have hsz_297 := hh_294.2.2.2.2.2.1
                  have htt_297 := hh_294.2.2.2.2.2.2.1
                  refine W.room (fun hrc_297 hrs_297 => ?_)
                  refine j_callx (A0 := jA base) (H0 := s.heap) (va_runV (As := [.ref ret_292, .ref ret_283, .int z_296]) (rest := [.int v3_245, .ref behind_286]) ⟨hx, hb, hml, hown, hts⟩ (uX5_checkS l dC dI ca base B hB hAp hB5 hB7 hB8 hB11 hB12 hB101 hB102 hB132 hB133 hB211 hB214 hB280 hB290 hB291 hB292 hB293 hB313 hB315 G_262 H_290 kernel_236 ret_292 ret_283 z_296 m_ret_262 (min 1 (m_ret_262 / 3)) LC LS) (cwV 3 hts (jgV (jWr_78 _ (List.mem_of_getElem? (i := 14) rfl)) (jWr_78 _ (List.mem_of_getElem? (i := 15) rfl)) (jWr_78 _ (List.mem_of_getElem? (i := 16) rfl)) (jWr_2 _ (List.mem_of_getElem? (i := 4) rfl)) (jWr_78 _ (List.mem_of_getElem? (i := 17) rfl))) rfl rfl rfl (by decide +kernel) ⟨by rw [← hR]; exact Nat.le_of_ble_eq_true rfl, by rw [← hR]; exact Nat.le_of_ble_eq_true rfl⟩) ⟨fun a U g mk q => by obtain ⟨q0, q1, q2, qK, q10, q11, q12, q13, q14, q15, q16, q17, q18⟩ := q; exact ⟨q0, q1, q2, jG.calling g mk a qK, (va_K.moved (Vm.Alike.refl U.vm) q10), (jK5.moved (Vm.Alike.refl U.vm) q11), (jK6.moved (Vm.Alike.refl U.vm) q12), q13, q14, q15, q16, q17, q18⟩, hh_294.recv (C := RX5) (T := TX5) (N := 11) hB7 rfl (by decide) hg_268 hK, fun U hU hW => ⟨rfl, hU, hh_294.2.1, hG.step hW hU hh_294.1, va_K.moved hW.alike hK2, jK5.moved hW.alike hK5, jK6.moved hW.alike hK6, hg_268, hg_ret_292, hg_ret_283, jP.nil, (hh_294.2.2.2.2.2.2.2.2.sub (L1 := [(jFs11, jSef dC dI G_262)]) [0] rfl), ⟨(by first | (with_reducible assumption) | omega | rfl | fail), (by first | (with_reducible assumption) | assumption | omega | rfl | fail)⟩⟩⟩ rfl rfl hl.1 rfl (lv_room (Nat.le_of_ble_eq_true rfl)) dX11_batch_155 ⟨by rw [hRc]; omega, by rw [hRs]; omega⟩) hh_294.1 (fun q _ h => h) (fun q h => h) (fun r_298 u_297 t_297 H_297 locs_297 ht_297 hvm_297 hr_298 hb_297 hz_297 hk_297 hS_297 => ?_)
                  rw [ht_297] at hb_297
                  obtain ⟨G_297, rfl⟩ : ∃ z, z = u_297 := ⟨_, rfl⟩
                  try simp only at hb_297
                  obtain ⟨⟨hb_2971, hb_2972, hb_2973, hb_2974, hb_2975, hb_2976⟩, hN_297, hbE_297⟩ := hb_297
                  have hE9_297 := hN_297
                  have hN_297 : (jNk [0, 1, 2, 4, 6, 7, 8, 9, 10, 12, 13, 14, 15, 16]) G_262 G_297 := hN_297.sub (by decide)
                  have hh_297 : jSt (dC, dI) B base G0 G_297 EX11_batchP s.heap ((zcx_245 + (1)) + (23)) ((zsx_245 + (m_ret_262)) + ((183 + 336 * (min 1 (m_ret_262 / 3))))) [(spare_13, 3, 8, .ref early_295), (kernel_236, 7, 2, .ref start_289), (spare_13, 3, 9, .ref behind_286), (spare_13, 3, 2, .ref text_259), (spare_13, 3, 4, .int qs_240), (kernel_236, 7, 1, .ref syntax_239), (r0, 13, 5, .ref kernel_236), (spare_13, 3, 11, .null), (spare_13, 3, 10, .int pk_226), (spare_13, 3, 5, .ref yb_226), (spare_13, 3, 6, .ref ye_226), (r0, 13, 18, .int (-2)), (r0, 13, 16, .ref spare_13), (r0, 13, 15, .ref latest_23), (spare_13, 3, 3, .int ql_14), (ta, 2, 1, .int 0), (r0, 13, 0, .ref ta), (ta, 2, 0, .ref tr_)] [(yb_226, 171, 40, ca 1, gb_240), (ye_226, 172, 40, ca 1, ge_240), (tr_, 197, 4000, ca 0, fa)] [(jFy, jYb dC dI G_262), (jFdo, jDcc dC dI ca G_262 none phn_242), ([(2, 0), (2, 1)], jOl (dC, dI) G0 2 [ta] s.heap)] H_297 locs_297 := (hh_294.callG hb_2971 hb_2972 hb_2973 hb_2974 hb_2975 hS_297 rfl (L1 := [(spare_13, 3, 8, .ref early_295), (kernel_236, 7, 2, .ref start_289), (spare_13, 3, 9, .ref behind_286), (spare_13, 3, 2, .ref text_259), (spare_13, 3, 4, .int qs_240), (kernel_236, 7, 1, .ref syntax_239), (r0, 13, 5, .ref kernel_236), (spare_13, 3, 11, .null), (spare_13, 3, 10, .int pk_226), (spare_13, 3, 5, .ref yb_226), (spare_13, 3, 6, .ref ye_226), (r0, 13, 18, .int (-2)), (r0, 13, 16, .ref spare_13), (r0, 13, 15, .ref latest_23), (spare_13, 3, 3, .int ql_14), (ta, 2, 1, .int 0), (r0, 13, 0, .ref ta), (ta, 2, 0, .ref tr_)]) [0, 1, 2, 3, 4, 5, 6, 7, 8, 9, 10, 11, 12, 13, 14, 15, 16, 17] rfl rfl (M1 := [(yb_226, 171, 40, ca 1, gb_240), (ye_226, 172, 40, ca 1, ge_240), (tr_, 197, 4000, ca 0, fa)]) [0, 1, 2] rfl rfl (I1 := [(jFy, jYb dC dI G_262), (jFdo, jDcc dC dI ca G_262 none phn_242), ([(2, 0), (2, 1)], jOl (dC, dI) G0 2 [ta] s.heap)]) [1, 2, 3] rfl rfl).more hb_2976
                  have hNn_297 : (jNk [0, 1, 2, 4, 6, 7, 8, 9, 10, 12, 13, 14, 15, 16]) G0 G_297 := (hNn_262).tr hN_297
                  have hg_299 := hb_2972 _ _ hg_ret_283
                  have hg_300 := hb_2972 _ _ hg_264
                  have hg_301 := hb_2972 _ _ hg_265
                  have hg_302 := hb_2972 _ _ hg_behind_286
                  have hg_303 := hb_2972 _ _ hg_early_295
                  have hg_304 := hb_2972 _ _ hg_start_289
                  have hg_305 := hb_2972 _ _ hg_266
                  have hg_306 := hb_2972 _ _ hg_267
                  have hg_307 := hb_2972 _ _ hg_268
                  have hg_308 := hb_2972 _ _ hg_269
                  have hg_309 := hb_2972 _ _ hg_270
                  have hg_310 := hb_2972 _ _ hg_271
                  have hg_311 := hb_2972 _ _ hg_272
                  have hg_312 := hb_2972 _ _ hg_273
                  have hd_313 := jYb.grow (hh_297.iv 0 rfl) hb_2972 hN_297 (by decide)
                  have hh_314 := hh_297.sub (L1 := [(spare_13, 3, 8, .ref early_295), (kernel_236, 7, 2, .ref start_289), (spare_13, 3, 9, .ref behind_286), (spare_13, 3, 2, .ref text_259), (spare_13, 3, 4, .int qs_240), (kernel_236, 7, 1, .ref syntax_239), (r0, 13, 5, .ref kernel_236), (spare_13, 3, 11, .null), (spare_13, 3, 10, .int pk_226), (spare_13, 3, 5, .ref yb_226), (spare_13, 3, 6, .ref ye_226), (r0, 13, 18, .int (-2)), (r0, 13, 16, .ref spare_13), (r0, 13, 15, .ref latest_23), (spare_13, 3, 3, .int ql_14), (ta, 2, 1, .int 0), (r0, 13, 0, .ref ta), (ta, 2, 0, .ref tr_)]) [0, 1, 2, 3, 4, 5, 6, 7, 8, 9, 10, 11, 12, 13, 14, 15, 16, 17] rfl (M1 := [(yb_226, 171, 40, ca 1, gb_240), (ye_226, 172, 40, ca 1, ge_240), (tr_, 197, 4000, ca 0, fa)]) [0, 1, 2] rfl (I1 := [(jFdo, jDcc dC dI ca G_262 none phn_242), ([(2, 0), (2, 1)], jOl (dC, dI) G0 2 [ta] s.heap)]) [1, 2] rfl
                  clear hh_297
                  have hh_315 := hh_314.addI (jYb.ie hd_313)
                  clear hh_314
                  have hd_316 := jDcc.grow (hh_315.iv 1 rfl) hb_2972 hE9_297 (by decide)
                  have hh_317 := hh_315.sub (L1 := [(spare_13, 3, 8, .ref early_295), (kernel_236, 7, 2, .ref start_289), (spare_13, 3, 9, .ref behind_286), (spare_13, 3, 2, .ref text_259), (spare_13, 3, 4, .int qs_240), (kernel_236, 7, 1, .ref syntax_239), (r0, 13, 5, .ref kernel_236), (spare_13, 3, 11, .null), (spare_13, 3, 10, .int pk_226), (spare_13, 3, 5, .ref yb_226), (spare_13, 3, 6, .ref ye_226), (r0, 13, 18, .int (-2)), (r0, 13, 16, .ref spare_13), (r0, 13, 15, .ref latest_23), (spare_13, 3, 3, .int ql_14), (ta, 2, 1, .int 0), (r0, 13, 0, .ref ta), (ta, 2, 0, .ref tr_)]) [0, 1, 2, 3, 4, 5, 6, 7, 8, 9, 10, 11, 12, 13, 14, 15, 16, 17] rfl (M1 := [(yb_226, 171, 40, ca 1, gb_240), (ye_226, 172, 40, ca 1, ge_240), (tr_, 197, 4000, ca 0, fa)]) [0, 1, 2] rfl (I1 := [(jFy, jYb dC dI G_297), ([(2, 0), (2, 1)], jOl (dC, dI) G0 2 [ta] s.heap)]) [0, 2] rfl
                  clear hh_315
                  have hh_318 := hh_317.addI (jDcc.ie hd_316)
                  clear hh_317
                  have hh_319 := hh_318.addIs hbE_297
                  obtain ⟨hr_298, hr_298p⟩ := hr_298
                  try simp only at hr_298p
                  obtain ⟨ret_320, rfl, hg_ret_320⟩ := hr_298
                  refine j7_qast hx hb hK2 hh_319 hB hB210 2 rfl (by decide) (by decide) rfl rfl rfl hg_302 (x := v3_245.toInt) (rfl) (by omega) hB11 (T := TX9) (N := 9) rfl (by decide) hg_ret_320 (Or.inr ⟨_, rfl, hg_ret_320⟩) dX11_batch_158 (fun H_321 locs_321 hh_321 => ?_)
                  clear hh_319
                  obtain ⟨z_322, ez_322⟩ : ∃ y : Int32, y = v3_245 + 1 := ⟨_, rfl⟩
                  refine lv_iinc (v := z_322) (lv' := [(3, .int z_322), (4, .ref ret_283), (0, .ref r0), (1, .int a1), (2, .ref spare_13)]) hx hb dX11_batch_159 hl (k := 4) rfl (by rw [ez_322]; rfl) (by decide) rfl (fun ls hl => ?_)
                  have hz_322 : z_322.toInt = v3_245.toInt + 1 := by rw [ez_322]; exact jb_iadd2 (rfl) (by decide) (by omega)
                  have hje := jEd.to hnb.2.2.1 (k1 := z_322.toInt) (by omega)
                  refine lv_goto (tgt := 97) hx hb dX11_batch_162 (by decide) ?_
                  refine W.tight (c2 := ((zcx_245 + (1)) + (23))) (n2 := ((zsx_245 + (m_ret_262)) + ((183 + 336 * (min 1 (m_ret_262 / 3)))))) hh_321.2.2.2.2.2.1 hh_321.2.2.2.2.2.2.1 ?_
                  exact L97 G_297 ((zcx_245 + (1)) + (23)) ((zsx_245 + (m_ret_262)) + ((183 + 336 * (min 1 (m_ret_262 / 3))))) z_322 _ _ (hh_321.sub (L1 := [(spare_13, 3, 4, .int qs_240), (kernel_236, 7, 1, .ref syntax_239), (r0, 13, 5, .ref kernel_236), (spare_13, 3, 11, .null), (spare_13, 3, 10, .int pk_226), (spare_13, 3, 5, .ref yb_226), (spare_13, 3, 6, .ref ye_226), (r0, 13, 18, .int (-2)), (r0, 13, 16, .ref spare_13), (r0, 13, 15, .ref latest_23), (spare_13, 3, 3, .int ql_14), (ta, 2, 1, .int 0), (r0, 13, 0, .ref ta), (ta, 2, 0, .ref tr_)]) [4, 5, 6, 7, 8, 9, 10, 11, 12, 13, 14, 15, 16, 17] rfl (M1 := [(yb_226, 171, 40, ca 1, gb_240), (ye_226, 172, 40, ca 1, ge_240), (tr_, 197, 4000, ca 0, fa)]) [0, 1, 2] rfl (I1 := [(jFdo, jDcc dC dI ca G_297 none phn_242), ([(2, 0), (2, 1)], jOl (dC, dI) G0 2 [ta] s.heap), (jFy, jYb dC dI G_297), (jFs11, jSef dC dI G_297)]) [1, 3, 2, 0] rfl) (hNn_297) (((hle_245).tr hb_2622).tr hb_2972) (⟨(by first | (with_reducible assumption) | omega | rfl | fail), (by first | (with_reducible assumption) | omega | rfl | fail), (by first | (with_reducible assumption) | omega | rfl | fail), (by first | (with_reducible assumption) | omega | rfl | fail)⟩) (by omega) _ (lv_sub hl [2, 3, 4, 0] rfl)
            refine W.tight (c2 := 0) (n2 := 0) hh_244.2.2.2.2.2.1 hh_244.2.2.2.2.2.2.1 ?_
            exact L97 (qs_240.toInt - (0 : Int32).toInt : Int).toNat.succ G0 0 0 0 _ _ (hh_244.sub (L1 := [(spare_13, 3, 4, .int qs_240), (kernel_236, 7, 1, .ref syntax_239), (r0, 13, 5, .ref kernel_236), (spare_13, 3, 11, .null), (spare_13, 3, 10, .int pk_226), (spare_13, 3, 5, .ref yb_226), (spare_13, 3, 6, .ref ye_226), (r0, 13, 18, .int (-2)), (r0, 13, 16, .ref spare_13), (r0, 13, 15, .ref latest_23), (spare_13, 3, 3, .int ql_14), (ta, 2, 1, .int 0), (r0, 13, 0, .ref ta), (ta, 2, 0, .ref tr_)]) [0, 1, 2, 3, 4, 5, 6, 7, 8, 9, 10, 12, 13, 14] rfl (M1 := [(yb_226, 171, 40, ca 1, gb_240), (ye_226, 172, 40, ca 1, ge_240), (tr_, 197, 4000, ca 0, fa)]) [0, 1, 2] rfl (I1 := [(jFdo, jDcc dC dI ca G0 none phn_242), ([(2, 0), (2, 1)], jOl (dC, dI) G0 2 [ta] s.heap), (jFy, jYb dC dI G0), (jFs11, jSef dC dI G0)]) [0, 1, 2, 3] rfl) (jNk.rf) (jLe.rf) (⟨(by first | (with_reducible assumption) | omega | rfl | fail), (by first | (with_reducible assumption) | omega | rfl | fail), (by first | (with_reducible assumption) | omega | rfl | fail), (by first | (with_reducible assumption) | omega | rfl | fail)⟩) (by omega) _ (lv_sub hl [2, 3, 1, 0] rfl)
          · skip
            refine lv_aload_n hx hb dX11_batch_84 rfl (lv_at hl 0 rfl) ?_
            refine lv_aload_n hx hb dX11_batch_85 rfl (lv_at hl 1 rfl) ?_
            obtain ⟨v_324, hv_324, hh_325⟩ := hh_226.pin (C := RX11) (T := TX11) (N := 19) hB13 rfl (by decide) hg_r0 (i := 5) (by decide) rfl
            clear hh_226
            obtain ⟨kernel_326, rfl, hg_kernel_326⟩ := hv_324
            refine j7_read hx hb hown hK (C := RX11) (T := TX11) (N := 19) rfl hly_13_5 hlk_41 (hh_325.at 0 rfl) dX11_batch_86 ?_
            obtain ⟨v_327, hv_327, hh_328⟩ := hh_325.pin (C := RX5) (T := TX5) (N := 11) hB7 rfl (by decide) hg_kernel_326 (i := 1) (by decide) rfl
            clear hh_325
            obtain ⟨syntax_329, rfl, hg_syntax_329⟩ := hv_327
            refine j7_read hx hb hown hK (C := RX5) (T := TX5) (N := 11) rfl hly_7_1 hlk_203 (hh_328.at 0 rfl) dX11_batch_89 ?_
            have hsz_330 := hh_328.2.2.2.2.2.1
            have htt_330 := hh_328.2.2.2.2.2.2.1
            refine W.room (fun hrc_330 hrs_330 => ?_)
            refine va_callv (A0 := jA base) (H0 := s.heap) (va_runV (As := [.ref syntax_329]) (rest := []) ⟨hx, hb, hml, hown, hts⟩ (uX1_partP l dC dI ca base B hB hAp hB3 hB8 hB12 hB101 hB102 hB132 hB133 hB171 hB172 hB293 G0 H_225 spare_13 syntax_329 1 ql_14 yb_226 ye_226 text_18 (pho_226) fb_226 fe_226 gt_14) (cwV 1 hts (jgV (jWr_36 _ (List.mem_of_getElem? (i := 2) rfl)) (jWr_36 _ (List.mem_of_getElem? (i := 3) rfl)) (jWr_36 _ (List.mem_of_getElem? (i := 4) rfl)) (jWr_2 _ (List.mem_of_getElem? (i := 21) rfl)) (jWr_36 _ (List.mem_of_getElem? (i := 5) rfl))) rfl rfl rfl (by decide +kernel) ⟨by rw [← hR]; exact Nat.le_of_ble_eq_true rfl, by rw [← hR]; exact Nat.le_of_ble_eq_true rfl⟩) ⟨fun a U g mk q => by obtain ⟨q0, q1, q2, qK, q10, q11, q12, q13, q14, q15, q16, q17, q18⟩ := q; exact ⟨q0, q1, q2, jG.calling g mk a qK, q10, q11, q12, q13, q14, q15, q16, q17, q18⟩, hh_328.recv (C := RX1) (T := TX1) (N := 17) hB3 rfl (by decide) hg_spare_13 hK, fun U hU hW => ⟨rfl, hU, hh_328.2.1, hG.step hW hU hh_328.1, hg_spare_13, hg_syntax_329, hgb_226, hge_226, hg_text_18, (hh_328.2.2.1.sub (L1 := [(spare_13, 3, 3, .int ql_14), (spare_13, 3, 5, .ref yb_226), (spare_13, 3, 6, .ref ye_226), (spare_13, 3, 2, .ref text_18)]) [10, 5, 6, 11] rfl), (hh_328.2.2.2.2.2.2.2.1.sub (L1 := [(yb_226, 171, 40, ca 1, fb_226), (ye_226, 172, 40, ca 1, fe_226), (text_18, 101, 1500, ca 1, gt_14)]) [0, 1, 2] rfl), (hh_328.2.2.2.2.2.2.2.2.sub (L1 := [(jFdo, jDcc dC dI ca G0 (some spare_13) pho_226)]) [0] rfl), ⟨(by first | (with_reducible assumption) | omega | rfl | fail), (by first | (with_reducible assumption) | omega | rfl | fail)⟩⟩⟩ rfl rfl hl.1 rfl (lv_room (Nat.le_of_ble_eq_true rfl)) dX11_batch_92 ⟨by rw [hRc]; show _ + 0 ≤ _; omega, by rw [hRs]; show _ + 0 ≤ _; omega⟩) hh_328.1 (fun q _ h => h) (fun q h => h) (fun u_330 t_330 H_330 locs_330 ht_330 hvm_330 hr_331 hb_330 hz_330 hk_330 hS_330 => ?_)
            obtain ⟨qs_330, gb_330, ge_330⟩ := u_330
            rw [ht_330] at hb_330
            obtain ⟨hb_330, hbE_330⟩ := hb_330
            obtain ⟨hb_330, hbO_330⟩ := hb_330
            obtain ⟨⟨hb_3301, hb_3302, hb_3303, hb_3304, hb_3305⟩, hb_3306⟩ := hb_330
            have hh_330 : jSt (dC, dI) B base G0 G0 EX11_batchP s.heap 0 0 [(spare_13, 3, 4, .int qs_330), (kernel_326, 7, 1, .ref syntax_329), (r0, 13, 5, .ref kernel_326), (spare_13, 3, 11, .ref chk_232), (spare_13, 3, 10, .int pk_226), (spare_13, 3, 5, .ref yb_226), (spare_13, 3, 6, .ref ye_226), (r0, 13, 18, .int (-2)), (r0, 13, 16, .ref spare_13), (r0, 13, 15, .ref latest_23), (spare_13, 3, 3, .int ql_14), (spare_13, 3, 2, .ref text_18), (ta, 2, 1, .int 0), (r0, 13, 0, .ref ta), (ta, 2, 0, .ref tr_)] [(yb_226, 171, 40, ca 1, gb_330), (ye_226, 172, 40, ca 1, ge_330), (tr_, 197, 4000, ca 0, fa)] [(jFdo, jDcc dC dI ca G0 (some spare_13) pho_226), ([(2, 0), (2, 1)], jOl (dC, dI) G0 2 [ta] s.heap), (jFy, jYb dC dI G0), (jFs11, jSef dC dI G0)] H_330 locs_330 := (((hh_328.call hb_3301 hb_3302 hb_3303 hb_3304 hS_330 rfl (L1 := [(kernel_326, 7, 1, .ref syntax_329), (r0, 13, 5, .ref kernel_326), (spare_13, 3, 11, .ref chk_232), (spare_13, 3, 10, .int pk_226), (spare_13, 3, 5, .ref yb_226), (spare_13, 3, 6, .ref ye_226), (r0, 13, 18, .int (-2)), (r0, 13, 16, .ref spare_13), (r0, 13, 15, .ref latest_23), (spare_13, 3, 3, .int ql_14), (spare_13, 3, 2, .ref text_18), (ta, 2, 1, .int 0), (r0, 13, 0, .ref ta), (ta, 2, 0, .ref tr_)]) [0, 1, 2, 4, 5, 6, 7, 8, 9, 10, 11, 12, 13, 14] rfl rfl (M1 := [(tr_, 197, 4000, ca 0, fa)]) [3] rfl rfl (I1 := [([(2, 0), (2, 1)], jOl (dC, dI) G0 2 [ta] s.heap), (jFy, jYb dC dI G0), (jFs11, jSef dC dI G0)]) [1, 2, 3] rfl rfl).more hb_3305).moreM hb_3306).addIs hbE_330
            clear hh_328 ht_330 hvm_330 hz_330 hk_330 hS_330 hb_3301 hb_3302 hb_3303 hb_3304 hb_3305
            clear hb_3306
            clear  hbE_330
            try simp only at hr_331
            obtain ⟨hr_331_0, hr_331_1, hr_331_2, hr_331_3⟩ := hr_331
            obtain ⟨phn_332, hphn_332⟩ : ∃ q : Nat, q = pho_226 := ⟨_, rfl⟩
            have hF_332 := jDcc.full (ph1 := phn_332) (hh_330.iv 0 rfl) hg_spare_13 (hh_330.at 5 rfl) (hh_330.at 6 rfl) ⟨(hh_330.2.2.1.sub (L1 := [(spare_13, 3, 4, .int qs_330), (spare_13, 3, 10, .int pk_226), (spare_13, 3, 11, .ref chk_232)]) [0, 4, 3] rfl), (hh_330.2.2.2.2.2.2.2.1.sub (L1 := [(yb_226, 171, 40, ca 1, gb_330), (ye_226, 172, 40, ca 1, ge_330)]) [0, 1] rfl), (hr_331_2.mono (by omega)), by omega⟩ (w := (575 * (qs_330.toInt - pk_226.toInt) - 16 + (1500 - jSo ge_330 pk_226.toInt)).toNat) (fun h9 => absurd h9 (by decide)) (by omega) (fun h9 => absurd h9 (by decide))
            have hh_333 := hh_330.sub (L1 := [(spare_13, 3, 4, .int qs_330), (kernel_326, 7, 1, .ref syntax_329), (r0, 13, 5, .ref kernel_326), (spare_13, 3, 11, .ref chk_232), (spare_13, 3, 10, .int pk_226), (spare_13, 3, 5, .ref yb_226), (spare_13, 3, 6, .ref ye_226), (r0, 13, 18, .int (-2)), (r0, 13, 16, .ref spare_13), (r0, 13, 15, .ref latest_23), (spare_13, 3, 3, .int ql_14), (spare_13, 3, 2, .ref text_18), (ta, 2, 1, .int 0), (r0, 13, 0, .ref ta), (ta, 2, 0, .ref tr_)]) [0, 1, 2, 3, 4, 5, 6, 7, 8, 9, 10, 11, 12, 13, 14] rfl (M1 := [(yb_226, 171, 40, ca 1, gb_330), (ye_226, 172, 40, ca 1, ge_330), (tr_, 197, 4000, ca 0, fa)]) [0, 1, 2] rfl (I1 := [([(2, 0), (2, 1)], jOl (dC, dI) G0 2 [ta] s.heap), (jFy, jYb dC dI G0), (jFs11, jSef dC dI G0)]) [1, 2, 3] rfl
            clear hh_330
            have hh_334 := hh_333.addI (jDcc.ie hF_332)
            clear hh_333
            refine lv_iconst (v := 0) hx hb dX11_batch_95 (by decide) ?_
            have hjz := jEd.z (fe := ge_330) (k := (0 : Int32).toInt) (by omega)
            refine lv_istore_n (lv' := [(3, .int 0), (2, .ref spare_13), (0, .ref r0), (1, .int a1)]) hx hb dX11_batch_96 rfl hl (by decide) rfl (fun ls hl => ?_)
            have L97 : ∀ (N : Nat) (Gx_335 : jT) (zcx_335 : Nat) (zsx_335 : Nat) (v3_335 : Int32) (H_335 : Heap) (locs_335 : List Loc), jSt (dC, dI) B base G0 Gx_335 EX11_batchP s.heap zcx_335 zsx_335 [(spare_13, 3, 4, .int qs_330), (kernel_326, 7, 1, .ref syntax_329), (r0, 13, 5, .ref kernel_326), (spare_13, 3, 11, .ref chk_232), (spare_13, 3, 10, .int pk_226), (spare_13, 3, 5, .ref yb_226), (spare_13, 3, 6, .ref ye_226), (r0, 13, 18, .int (-2)), (r0, 13, 16, .ref spare_13), (r0, 13, 15, .ref latest_23), (spare_13, 3, 3, .int ql_14), (ta, 2, 1, .int 0), (r0, 13, 0, .ref ta), (ta, 2, 0, .ref tr_)] [(yb_226, 171, 40, ca 1, gb_330), (ye_226, 172, 40, ca 1, ge_330), (tr_, 197, 4000, ca 0, fa)] [(jFdo, jDcc dC dI ca Gx_335 none phn_332), ([(2, 0), (2, 1)], jOl (dC, dI) G0 2 [ta] s.heap), (jFy, jYb dC dI Gx_335), (jFs11, jSef dC dI Gx_335)] H_335 locs_335 → (jNk [0, 1, 2, 4, 6, 7, 8, 9, 10, 12, 13, 14, 15, 16]) G0 Gx_335 → jLe G0 Gx_335 → (0 ≤ v3_335.toInt ∧ v3_335.toInt ≤ qs_330.toInt ∧ zcx_335 ≤ 8 + 24 * v3_335.toInt ∧ zsx_335 ≤ 1720 + 185 * jEd ge_330 v3_335.toInt) → (qs_330.toInt - v3_335.toInt : Int) < N → ∀ ls : Array Slot, lv_has ls 5 [(0, .ref r0), (1, .int a1), (2, .ref spare_13), (3, .int v3_335)] → W p l e R s m ([.ref r0, .int a1] : List Value).toArray below meth c H_335 locs_335 zcx_335 zsx_335 Q (F0 m 97 ls []) := by
              intro N
              induction N with
              | zero => intro Gx_335 zcx_335 zsx_335 v3_335 H_335 locs_335 hh_335 hN_335 hle_335 hi_335 hm; exact absurd hm (by omega)
              | succ N L97 =>
                intro Gx_335 zcx_335 zsx_335 v3_335 H_335 locs_335 hh_335 hN_335 hle_335 hi_335 hm_335 ls hl
                have hg_336 := hle_335 _ _ hg_r0
                have hg_337 := hle_335 _ _ hg_spare_13
                have hg_338 := hle_335 _ _ hg_syntax_329
                have hg_339 := hle_335 _ _ hg_kernel_326
                have hg_340 := hle_335 _ _ hg_chk_232
                have hg_341 := hle_335 _ _ hgb_226
                have hg_342 := hle_335 _ _ hge_226
                have hg_343 := hle_335 _ _ hg_latest_23
                have hg_344 := hle_335 _ _ hg_ta
                have hg_345 := hle_335 _ _ hg_tr_
                obtain ⟨hi_335_0, hi_335_1, hi_335_2, hi_335_3⟩ := hi_335
                have hql := jSn.le hr_331_2 (by omega)
                refine lv_iload_n hx hb dX11_batch_97 rfl (lv_at hl 3 rfl) ?_
                refine lv_aload_n hx hb dX11_batch_98 rfl (lv_at hl 2 rfl) ?_
                refine j7_read hx hb hown hK (C := RX1) (T := TX1) (N := 17) rfl hly_3_4 hlk_168 (hh_335.at 0 rfl) dX11_batch_99 ?_
                refine lv_icmp_ge (tgt := 165) hx hb dX11_batch_102 (by decide) (fun c_346 => ?_) (fun c_346 => ?_)
                · skip
                  have c_346' : v3_335.toInt ≥ qs_330.toInt := jb_ge (rfl) (rfl) c_346
                  have hjl := jEd.le hr_331_2 (k := v3_335.toInt) (by omega) (by omega) (by omega)
                  refine lv_aload_n hx hb dX11_batch_165 rfl (lv_at hl 2 rfl) ?_
                  refine j7_read hx hb hown hK (C := RX1) (T := TX1) (N := 17) rfl hly_3_4 hlk_168 (hh_335.at 0 rfl) dX11_batch_166 ?_
                  have hsz_347 := hh_335.2.2.2.2.2.1
                  have htt_347 := hh_335.2.2.2.2.2.2.1
                  refine W.room (fun hrc_347 hrs_347 => ?_)
                  refine W.widen (k := LC - s.heap.size) (n := LS - jTot s.heap) (by omega) (by omega) ?_
                  rw [hQ]
                  exact W.iret (v := qs_330) hx hb hr (fun t ht hW => ⟨⟨qs_330, (0, phn_332, (pt.toInt.toNat - (0 : Int).toNat), Gx_335), rfl, by skip; (try dsimp only); refine ⟨by omega, by omega, by omega, ?_⟩; exact Or.inr ⟨by omega, by omega, jBa.part (hr_15p_3.yes (by omega)).1 (by omega) (hr_15p_3.yes (by omega)).2 hr_331_3⟩, ⟨hh_335.ra (by first | (simp only; omega) | omega) (by first | (simp only; omega) | omega) (M1 := [(ta, 2, 1, .int 0)]) [11] rfl ht, hN_335, by rw [ht]; exact hh_335.iv 1 rfl, by rw [ht]; exact hh_335.2.2.2.2.2.2.2.2.sub (L1 := [(jFy, jYb dC dI Gx_335), (jFs11, jSef dC dI Gx_335), (jFdo, jDcc dC dI ca Gx_335 none phn_332)]) [2, 3, 0] rfl⟩⟩, by rw [ht]; try exact hh_335.1.1, fun q h9 hq => by rw [ht]; try exact hh_335.1.2.1 q h9 hq⟩) hh_335.1.2.2 dX11_batch_169
                · skip
                  have c_346' : v3_335.toInt < qs_330.toInt := jb_ge_n (rfl) (rfl) c_346
                  have hn2 := jEd.nx hr_331_2 (k := v3_335.toInt) (by omega) (by omega)
                  have hnb := jEd.nx (hr_331_2.mono (by omega) : jSn _ _ _ 1500) (k := v3_335.toInt) (by omega) (by omega)
                  refine lv_aload_n hx hb dX11_batch_105 rfl (lv_at hl 2 rfl) ?_
                  obtain ⟨v_348, hv_348, hh_349⟩ := hh_335.pin (C := RX1) (T := TX1) (N := 17) hB3 rfl (by decide) hg_337 (i := 2) (by decide) rfl
                  clear hh_335
                  obtain ⟨text_350, rfl, hg_text_350⟩ := hv_348
                  refine j7_read hx hb hown hK (C := RX1) (T := TX1) (N := 17) rfl hly_3_2 hlk_174 (hh_349.at 0 rfl) dX11_batch_106 ?_
                  refine lv_aload_n hx hb dX11_batch_109 rfl (lv_at hl 2 rfl) ?_
                  refine j7_read hx hb hown hK (C := RX1) (T := TX1) (N := 17) rfl hly_3_5 hlk_182 (hh_349.at 6 rfl) dX11_batch_110 ?_
                  refine lv_iload_n hx hb dX11_batch_113 rfl (lv_at hl 3 rfl) ?_
                  refine j7_ialdM hx hb hK hh_349 hB171 1 rfl (by decide) hg_341 (x := v3_335.toInt) (rfl) (by omega) (j := 0) rfl dX11_batch_114 (fun z_351 ez_351 (hz_351 : 0 ≤ z_351.toInt ∧ z_351.toInt ≤ 1500) => ?_)
                  have hqz_351 : z_351.toInt = jSo gb_330 (v3_335.toInt) := by unfold jSo; rw [ez_351]
                  refine lv_aload_n hx hb dX11_batch_115 rfl (lv_at hl 2 rfl) ?_
                  refine j7_read hx hb hown hK (C := RX1) (T := TX1) (N := 17) rfl hly_3_6 hlk_185 (hh_349.at 7 rfl) dX11_batch_116 ?_
                  refine lv_iload_n hx hb dX11_batch_119 rfl (lv_at hl 3 rfl) ?_
                  refine j7_ialdM hx hb hK hh_349 hB172 1 rfl (by decide) hg_342 (x := v3_335.toInt) (rfl) (by omega) (j := 1) rfl dX11_batch_120 (fun z_352 ez_352 (hz_352 : 0 ≤ z_352.toInt ∧ z_352.toInt ≤ 1500) => ?_)
                  have hqz_352 : z_352.toInt = jSo ge_330 (v3_335.toInt) := by unfold jSo; rw [ez_352]
                  have hsz_353 := hh_349.2.2.2.2.2.1
                  have htt_353 := hh_349.2.2.2.2.2.2.1
                  refine W.room (fun hrc_353 hrs_353 => ?_)
                  refine j_callx (A0 := jA base) (H0 := s.heap) (va_runS (As := [.ref text_350, .int z_351, .int z_352]) (rest := []) ⟨hx, hb, hml, hown, hts⟩ (uJ7_copyOfRange_feeccU l dC dI ca base B hB hAp hB101 hB280 Gx_335 H_335 text_350 z_351 z_352 1500 LC LS) (va_cwS 3 hts (jgS (jWr_77 _ (List.mem_of_getElem? (i := 21) rfl)) (jWr_77 _ (List.mem_of_getElem? (i := 22) rfl)) (jWr_16 _ (List.mem_of_getElem? (i := 7) rfl)) (jWr_77 _ (List.mem_of_getElem? (i := 23) rfl))) rfl rfl rfl (by decide +kernel) ⟨by rw [← hR]; exact Nat.le_of_ble_eq_true rfl, by rw [← hR]; exact Nat.le_of_ble_eq_true rfl⟩) ⟨fun a U g mk q => by obtain ⟨q0, q1, q2, qK, q10, q11, q12, q13⟩ := q; exact ⟨q0, q1, q2, jG.calling g mk a qK, (jK8.calling g mk a q10), q11, q12, q13⟩, fun U hU hW => ⟨rfl, hU, hh_349.2.1, hG.step hW hU hh_349.1, (jK8.warm hW hK8), hg_text_350, jP.nil, ⟨(by first | (with_reducible assumption) | omega | rfl | fail), (by first | (with_reducible assumption) | omega | rfl | fail), (by first | (with_reducible assumption) | omega | rfl | fail), (by first | (with_reducible assumption) | omega | rfl | fail)⟩⟩⟩ rfl rfl hl.1 rfl (lv_room (Nat.le_of_ble_eq_true rfl)) dX11_batch_121 ⟨by rw [hRc]; omega, by rw [hRs]; omega⟩) hh_349.1 (fun q _ h => h) (fun q h => h) (fun r_354 u_353 t_353 H_353 locs_353 ht_353 hvm_353 hr_354 hb_353 hz_353 hk_353 hS_353 => ?_)
                  rw [ht_353] at hb_353
                  obtain ⟨m_ret_353, G_353⟩ := u_353
                  simp only at hb_353
                  obtain ⟨⟨hb_3531, hb_3532, hb_3533, hb_3534, hb_3535, hb_3536⟩, hN_353, hbK_353⟩ := hb_353
                  have hE9_353 := hN_353
                  have hM_353 := hN_353
                  have hN_353 : (jNk [0, 1, 2, 4, 6, 7, 8, 9, 10, 12, 13, 14, 15, 16]) Gx_335 G_353 := hN_353.sub (by decide)
                  have hh_353 : jSt (dC, dI) B base G0 G_353 EX11_batchP s.heap (zcx_335 + (1)) (zsx_335 + (m_ret_353)) [(spare_13, 3, 2, .ref text_350), (spare_13, 3, 4, .int qs_330), (kernel_326, 7, 1, .ref syntax_329), (r0, 13, 5, .ref kernel_326), (spare_13, 3, 11, .ref chk_232), (spare_13, 3, 10, .int pk_226), (spare_13, 3, 5, .ref yb_226), (spare_13, 3, 6, .ref ye_226), (r0, 13, 18, .int (-2)), (r0, 13, 16, .ref spare_13), (r0, 13, 15, .ref latest_23), (spare_13, 3, 3, .int ql_14), (ta, 2, 1, .int 0), (r0, 13, 0, .ref ta), (ta, 2, 0, .ref tr_)] [(yb_226, 171, 40, ca 1, gb_330), (ye_226, 172, 40, ca 1, ge_330), (tr_, 197, 4000, ca 0, fa)] [(jFdo, jDcc dC dI ca Gx_335 none phn_332), ([(2, 0), (2, 1)], jOl (dC, dI) G0 2 [ta] s.heap), (jFy, jYb dC dI Gx_335), (jFs11, jSef dC dI Gx_335)] H_353 locs_353 := (hh_349.callG hb_3531 hb_3532 hb_3533 hb_3534 hb_3535 hS_353 rfl (L1 := [(spare_13, 3, 2, .ref text_350), (spare_13, 3, 4, .int qs_330), (kernel_326, 7, 1, .ref syntax_329), (r0, 13, 5, .ref kernel_326), (spare_13, 3, 11, .ref chk_232), (spare_13, 3, 10, .int pk_226), (spare_13, 3, 5, .ref yb_226), (spare_13, 3, 6, .ref ye_226), (r0, 13, 18, .int (-2)), (r0, 13, 16, .ref spare_13), (r0, 13, 15, .ref latest_23), (spare_13, 3, 3, .int ql_14), (ta, 2, 1, .int 0), (r0, 13, 0, .ref ta), (ta, 2, 0, .ref tr_)]) [0, 1, 2, 3, 4, 5, 6, 7, 8, 9, 10, 11, 12, 13, 14] rfl rfl (M1 := [(yb_226, 171, 40, ca 1, gb_330), (ye_226, 172, 40, ca 1, ge_330), (tr_, 197, 4000, ca 0, fa)]) [0, 1, 2] rfl rfl (I1 := [(jFdo, jDcc dC dI ca Gx_335 none phn_332), ([(2, 0), (2, 1)], jOl (dC, dI) G0 2 [ta] s.heap), (jFy, jYb dC dI Gx_335), (jFs11, jSef dC dI Gx_335)]) [0, 1, 2, 3] rfl rfl).more hb_3536
                  have hNn_353 : (jNk [0, 1, 2, 4, 6, 7, 8, 9, 10, 12, 13, 14, 15, 16]) G0 G_353 := (hN_335).tr hN_353
                  have hg_355 := hb_3532 _ _ hg_336
                  have hg_356 := hb_3532 _ _ hg_337
                  have hg_357 := hb_3532 _ _ hg_text_350
                  have hg_358 := hb_3532 _ _ hg_338
                  have hg_359 := hb_3532 _ _ hg_339
                  have hg_360 := hb_3532 _ _ hg_340
                  have hg_361 := hb_3532 _ _ hg_341
                  have hg_362 := hb_3532 _ _ hg_342
                  have hg_363 := hb_3532 _ _ hg_343
                  have hg_364 := hb_3532 _ _ hg_344
                  have hg_365 := hb_3532 _ _ hg_345
                  have hd_366 := jDcc.grow (hh_353.iv 0 rfl) hb_3532 hE9_353 (by decide)
                  have hh_367 := hh_353.sub (L1 := [(spare_13, 3, 2, .ref text_350), (spare_13, 3, 4, .int qs_330), (kernel_326, 7, 1, .ref syntax_329), (r0, 13, 5, .ref kernel_326), (spare_13, 3, 11, .ref chk_232), (spare_13, 3, 10, .int pk_226), (spare_13, 3, 5, .ref yb_226), (spare_13, 3, 6, .ref ye_226), (r0, 13, 18, .int (-2)), (r0, 13, 16, .ref spare_13), (r0, 13, 15, .ref latest_23), (spare_13, 3, 3, .int ql_14), (ta, 2, 1, .int 0), (r0, 13, 0, .ref ta), (ta, 2, 0, .ref tr_)]) [0, 1, 2, 3, 4, 5, 6, 7, 8, 9, 10, 11, 12, 13, 14] rfl (M1 := [(yb_226, 171, 40, ca 1, gb_330), (ye_226, 172, 40, ca 1, ge_330), (tr_, 197, 4000, ca 0, fa)]) [0, 1, 2] rfl (I1 := [([(2, 0), (2, 1)], jOl (dC, dI) G0 2 [ta] s.heap), (jFy, jYb dC dI Gx_335), (jFs11, jSef dC dI Gx_335)]) [1, 2, 3] rfl
                  clear hh_353
                  have hh_368 := hh_367.addI (jDcc.ie hd_366)
                  clear hh_367
                  have hd_369 := jYb.grow (hh_368.iv 2 rfl) hb_3532 hN_353 (by decide)
                  have hh_370 := hh_368.sub (L1 := [(spare_13, 3, 2, .ref text_350), (spare_13, 3, 4, .int qs_330), (kernel_326, 7, 1, .ref syntax_329), (r0, 13, 5, .ref kernel_326), (spare_13, 3, 11, .ref chk_232), (spare_13, 3, 10, .int pk_226), (spare_13, 3, 5, .ref yb_226), (spare_13, 3, 6, .ref ye_226), (r0, 13, 18, .int (-2)), (r0, 13, 16, .ref spare_13), (r0, 13, 15, .ref latest_23), (spare_13, 3, 3, .int ql_14), (ta, 2, 1, .int 0), (r0, 13, 0, .ref ta), (ta, 2, 0, .ref tr_)]) [0, 1, 2, 3, 4, 5, 6, 7, 8, 9, 10, 11, 12, 13, 14] rfl (M1 := [(yb_226, 171, 40, ca 1, gb_330), (ye_226, 172, 40, ca 1, ge_330), (tr_, 197, 4000, ca 0, fa)]) [0, 1, 2] rfl (I1 := [(jFdo, jDcc dC dI ca G_353 none phn_332), ([(2, 0), (2, 1)], jOl (dC, dI) G0 2 [ta] s.heap), (jFs11, jSef dC dI Gx_335)]) [0, 1, 3] rfl
                  clear hh_368
                  have hh_371 := hh_370.addI (jYb.ie hd_369)
                  clear hh_370
                  have hd_372 := jSef.grow (hh_371.iv 3 rfl) hb_3532 hM_353 (by decide)
                  have hh_373 := hh_371.sub (L1 := [(spare_13, 3, 2, .ref text_350), (spare_13, 3, 4, .int qs_330), (kernel_326, 7, 1, .ref syntax_329), (r0, 13, 5, .ref kernel_326), (spare_13, 3, 11, .ref chk_232), (spare_13, 3, 10, .int pk_226), (spare_13, 3, 5, .ref yb_226), (spare_13, 3, 6, .ref ye_226), (r0, 13, 18, .int (-2)), (r0, 13, 16, .ref spare_13), (r0, 13, 15, .ref latest_23), (spare_13, 3, 3, .int ql_14), (ta, 2, 1, .int 0), (r0, 13, 0, .ref ta), (ta, 2, 0, .ref tr_)]) [0, 1, 2, 3, 4, 5, 6, 7, 8, 9, 10, 11, 12, 13, 14] rfl (M1 := [(yb_226, 171, 40, ca 1, gb_330), (ye_226, 172, 40, ca 1, ge_330), (tr_, 197, 4000, ca 0, fa)]) [0, 1, 2] rfl (I1 := [(jFy, jYb dC dI G_353), (jFdo, jDcc dC dI ca G_353 none phn_332), ([(2, 0), (2, 1)], jOl (dC, dI) G0 2 [ta] s.heap)]) [0, 1, 2] rfl
                  clear hh_371
                  have hh_374 := hh_373.addI (jSef.ie hd_372)
                  clear hh_373
                  obtain ⟨hr_354, hr_354n, hr_354p⟩ := hr_354
                  try simp only at hr_354p
                  obtain ⟨ret_375, rfl, hg_ret_375⟩ := hr_354
                  have hsy_353 : s.heap.size ≤ ret_375 := Nat.le_trans hh_349.1.1 hr_354n.le
                  refine lv_astore (lv' := [(4, .ref ret_375), (0, .ref r0), (1, .int a1), (2, .ref spare_13), (3, .int v3_335)]) hx hb dX11_batch_124 hl (by decide) rfl (fun ls hl => ?_)
                  refine lv_aload_n hx hb dX11_batch_126 rfl (lv_at hl 3 rfl) ?_
                  obtain ⟨v_376, hv_376, hh_377⟩ := hh_374.pin (C := RX1) (T := TX1) (N := 17) hB3 rfl (by decide) hg_356 (i := 9) (by decide) rfl
                  clear hh_374
                  obtain ⟨behind_378, rfl, hg_behind_378⟩ := hv_376
                  refine j7_read hx hb hown hK (C := RX1) (T := TX1) (N := 17) rfl hly_3_9 hlk_178 (hh_377.at 0 rfl) dX11_batch_127 ?_
                  refine lv_iload_n hx hb dX11_batch_130 rfl (lv_at hl 4 rfl) ?_
                  refine lv_aload_n hx hb dX11_batch_131 rfl (lv_at hl 1 rfl) ?_
                  refine j7_read hx hb hown hK (C := RX11) (T := TX11) (N := 19) rfl hly_13_5 hlk_41 (hh_377.at 4 rfl) dX11_batch_132 ?_
                  refine lv_aload_n hx hb dX11_batch_135 rfl (lv_at hl 3 rfl) ?_
                  refine lv_iload_n hx hb dX11_batch_136 rfl (lv_at hl 4 rfl) ?_
                  refine lv_aload_n hx hb dX11_batch_137 rfl (lv_at hl 1 rfl) ?_
                  refine j7_read hx hb hown hK (C := RX11) (T := TX11) (N := 19) rfl hly_13_5 hlk_41 (hh_377.at 4 rfl) dX11_batch_138 ?_
                  obtain ⟨v_379, hv_379, hh_380⟩ := hh_377.pin (C := RX5) (T := TX5) (N := 11) hB7 rfl (by decide) hg_359 (i := 2) (by decide) rfl
                  clear hh_377
                  obtain ⟨start_381, rfl, hg_start_381⟩ := hv_379
                  refine j7_read hx hb hown hK (C := RX5) (T := TX5) (N := 11) rfl hly_7_2 hlk_217 (hh_380.at 0 rfl) dX11_batch_141 ?_
                  have hsz_382 := hh_380.2.2.2.2.2.1
                  have htt_382 := hh_380.2.2.2.2.2.2.1
                  refine W.room (fun hrc_382 hrs_382 => ?_)
                  refine j_callx (A0 := jA base) (H0 := s.heap) (va_runV (As := [.int v3_335, .ref start_381]) (rest := [.ref kernel_326, .int v3_335, .ref behind_378]) ⟨hx, hb, hml, hown, hts⟩ (uX1_stateBehind l dC dI ca base B hB hAp hB3 hB11 hB210 G_353 H_353 spare_13 v3_335 start_381 1) (cwV 2 hts (jgV (jWr_30 _ (List.mem_of_getElem? (i := 9) rfl)) (jWr_30 _ (List.mem_of_getElem? (i := 10) rfl)) (jWr_30 _ (List.mem_of_getElem? (i := 11) rfl)) (jWr_2 _ (List.mem_of_getElem? (i := 21) rfl)) (jWr_30 _ (List.mem_of_getElem? (i := 12) rfl))) rfl rfl rfl (by decide +kernel) ⟨by rw [← hR]; exact Nat.le_of_ble_eq_true rfl, by rw [← hR]; exact Nat.le_of_ble_eq_true rfl⟩) ⟨fun a U g mk q => by obtain ⟨q0, q1, q2, qK, q10, q11, q12, q13, q14⟩ := q; exact ⟨q0, q1, q2, jG.calling g mk a qK, (va_K.moved (Vm.Alike.refl U.vm) q10), q11, q12, q13, q14⟩, hh_380.recv (C := RX1) (T := TX1) (N := 17) hB3 rfl (by decide) hg_356 hK, fun U hU hW => ⟨rfl, hU, hh_380.2.1, hG.step hW hU hh_380.1, va_K.moved hW.alike hK2, hg_356, hg_start_381, jP.nil, trivial⟩⟩ rfl rfl hl.1 rfl (lv_room (Nat.le_of_ble_eq_true rfl)) dX11_batch_144 ⟨by rw [hRc]; show _ + 0 ≤ _; omega, by rw [hRs]; show _ + 0 ≤ _; omega⟩) hh_380.1 (fun q _ h => h) (fun q h => h) (fun r_383 u_382 t_382 H_382 locs_382 ht_382 hvm_382 hr_383 hb_382 hz_382 hk_382 hS_382 => ?_)
                  rw [ht_382] at hb_382
                  obtain ⟨hb_3821, hb_3822, hb_3823, hb_3824, hb_3825⟩ := hb_382
                  have hh_382 : jSt (dC, dI) B base G0 G_353 EX11_batchP s.heap (zcx_335 + (1)) (zsx_335 + (m_ret_353)) [(kernel_326, 7, 2, .ref start_381), (spare_13, 3, 9, .ref behind_378), (spare_13, 3, 2, .ref text_350), (spare_13, 3, 4, .int qs_330), (kernel_326, 7, 1, .ref syntax_329), (r0, 13, 5, .ref kernel_326), (spare_13, 3, 11, .ref chk_232), (spare_13, 3, 10, .int pk_226), (spare_13, 3, 5, .ref yb_226), (spare_13, 3, 6, .ref ye_226), (r0, 13, 18, .int (-2)), (r0, 13, 16, .ref spare_13), (r0, 13, 15, .ref latest_23), (spare_13, 3, 3, .int ql_14), (ta, 2, 1, .int 0), (r0, 13, 0, .ref ta), (ta, 2, 0, .ref tr_)] [(yb_226, 171, 40, ca 1, gb_330), (ye_226, 172, 40, ca 1, ge_330), (tr_, 197, 4000, ca 0, fa)] [(jFs11, jSef dC dI G_353), (jFy, jYb dC dI G_353), (jFdo, jDcc dC dI ca G_353 none phn_332), ([(2, 0), (2, 1)], jOl (dC, dI) G0 2 [ta] s.heap)] H_382 locs_382 := ((hh_380.call hb_3821 hb_3822 hb_3823 hb_3824 hS_382 rfl (L1 := [(kernel_326, 7, 2, .ref start_381), (spare_13, 3, 9, .ref behind_378), (spare_13, 3, 2, .ref text_350), (spare_13, 3, 4, .int qs_330), (kernel_326, 7, 1, .ref syntax_329), (r0, 13, 5, .ref kernel_326), (spare_13, 3, 11, .ref chk_232), (spare_13, 3, 10, .int pk_226), (spare_13, 3, 5, .ref yb_226), (spare_13, 3, 6, .ref ye_226), (r0, 13, 18, .int (-2)), (r0, 13, 16, .ref spare_13), (r0, 13, 15, .ref latest_23), (spare_13, 3, 3, .int ql_14), (ta, 2, 1, .int 0), (r0, 13, 0, .ref ta), (ta, 2, 0, .ref tr_)]) [0, 1, 2, 3, 4, 5, 6, 7, 8, 9, 10, 11, 12, 13, 14, 15, 16] rfl rfl (M1 := [(yb_226, 171, 40, ca 1, gb_330), (ye_226, 172, 40, ca 1, ge_330), (tr_, 197, 4000, ca 0, fa)]) [0, 1, 2] rfl rfl (I1 := [(jFs11, jSef dC dI G_353), (jFy, jYb dC dI G_353), (jFdo, jDcc dC dI ca G_353 none phn_332), ([(2, 0), (2, 1)], jOl (dC, dI) G0 2 [ta] s.heap)]) [0, 1, 2, 3] rfl rfl).more hb_3825)
                  clear hh_380 ht_382 hvm_382 hz_382 hk_382 hS_382 hb_3821 hb_3822 hb_3823 hb_3824 hb_3825
                  obtain ⟨ret_384, rfl, hg_ret_384⟩ := hr_383
                  refine lv_aload hx hb dX11_batch_147 (lv_at hl 0 rfl) ?_
                  refine lv_aload_n hx hb dX11_batch_149 rfl (lv_at hl 3 rfl) ?_
                  obtain ⟨v_385, hv_385, hh_386⟩ := hh_382.pin (C := RX1) (T := TX1) (N := 17) hB3 rfl (by decide) hg_356 (i := 8) (by decide) rfl
                  clear hh_382
                  obtain ⟨early_387, rfl, hg_early_387⟩ := hv_385
                  refine j7_read hx hb hown hK (C := RX1) (T := TX1) (N := 17) rfl hly_3_8 hlk_225 (hh_386.at 0 rfl) dX11_batch_150 ?_
                  refine lv_iload_n hx hb dX11_batch_153 rfl (lv_at hl 4 rfl) ?_
                  refine j7_iald hx hb hK hh_386 hB101 1 rfl (by decide) hg_early_387 (x := v3_335.toInt) (rfl) (by omega) dX11_batch_154 (fun z_388 (hz_388 : True) => ?_)
                  have hsz_389 := hh_386.2.2.2.2.2.1
                  have htt_389 := hh_386.2.2.2.2.2.2.1
                  refine W.room (fun hrc_389 hrs_389 => ?_)
                  refine j_callx (A0 := jA base) (H0 := s.heap) (va_runV (As := [.ref ret_384, .ref ret_375, .int z_388]) (rest := [.int v3_335, .ref behind_378]) ⟨hx, hb, hml, hown, hts⟩ (uX5_checkS l dC dI ca base B hB hAp hB5 hB7 hB8 hB11 hB12 hB101 hB102 hB132 hB133 hB211 hB214 hB280 hB290 hB291 hB292 hB293 hB313 hB315 G_353 H_382 kernel_326 ret_384 ret_375 z_388 m_ret_353 (min 1 (m_ret_353 / 3)) LC LS) (cwV 3 hts (jgV (jWr_78 _ (List.mem_of_getElem? (i := 14) rfl)) (jWr_78 _ (List.mem_of_getElem? (i := 15) rfl)) (jWr_78 _ (List.mem_of_getElem? (i := 16) rfl)) (jWr_2 _ (List.mem_of_getElem? (i := 4) rfl)) (jWr_78 _ (List.mem_of_getElem? (i := 17) rfl))) rfl rfl rfl (by decide +kernel) ⟨by rw [← hR]; exact Nat.le_of_ble_eq_true rfl, by rw [← hR]; exact Nat.le_of_ble_eq_true rfl⟩) ⟨fun a U g mk q => by obtain ⟨q0, q1, q2, qK, q10, q11, q12, q13, q14, q15, q16, q17, q18⟩ := q; exact ⟨q0, q1, q2, jG.calling g mk a qK, (va_K.moved (Vm.Alike.refl U.vm) q10), (jK5.moved (Vm.Alike.refl U.vm) q11), (jK6.moved (Vm.Alike.refl U.vm) q12), q13, q14, q15, q16, q17, q18⟩, hh_386.recv (C := RX5) (T := TX5) (N := 11) hB7 rfl (by decide) hg_359 hK, fun U hU hW => ⟨rfl, hU, hh_386.2.1, hG.step hW hU hh_386.1, va_K.moved hW.alike hK2, jK5.moved hW.alike hK5, jK6.moved hW.alike hK6, hg_359, hg_ret_384, hg_ret_375, jP.nil, (hh_386.2.2.2.2.2.2.2.2.sub (L1 := [(jFs11, jSef dC dI G_353)]) [0] rfl), ⟨(by first | (with_reducible assumption) | omega | rfl | fail), (by first | (with_reducible assumption) | assumption | omega | rfl | fail)⟩⟩⟩ rfl rfl hl.1 rfl (lv_room (Nat.le_of_ble_eq_true rfl)) dX11_batch_155 ⟨by rw [hRc]; omega, by rw [hRs]; omega⟩) hh_386.1 (fun q _ h => h) (fun q h => h) (fun r_390 u_389 t_389 H_389 locs_389 ht_389 hvm_389 hr_390 hb_389 hz_389 hk_389 hS_389 => ?_)
                  rw [ht_389] at hb_389
                  obtain ⟨G_389, rfl⟩ : ∃ z, z = u_389 := ⟨_, rfl⟩
                  try simp only at hb_389
                  obtain ⟨⟨hb_3891, hb_3892, hb_3893, hb_3894, hb_3895, hb_3896⟩, hN_389, hbE_389⟩ := hb_389
                  have hE9_389 := hN_389
                  have hN_389 : (jNk [0, 1, 2, 4, 6, 7, 8, 9, 10, 12, 13, 14, 15, 16]) G_353 G_389 := hN_389.sub (by decide)
                  have hh_389 : jSt (dC, dI) B base G0 G_389 EX11_batchP s.heap ((zcx_335 + (1)) + (23)) ((zsx_335 + (m_ret_353)) + ((183 + 336 * (min 1 (m_ret_353 / 3))))) [(spare_13, 3, 8, .ref early_387), (kernel_326, 7, 2, .ref start_381), (spare_13, 3, 9, .ref behind_378), (spare_13, 3, 2, .ref text_350), (spare_13, 3, 4, .int qs_330), (kernel_326, 7, 1, .ref syntax_329), (r0, 13, 5, .ref kernel_326), (spare_13, 3, 11, .ref chk_232), (spare_13, 3, 10, .int pk_226), (spare_13, 3, 5, .ref yb_226), (spare_13, 3, 6, .ref ye_226), (r0, 13, 18, .int (-2)), (r0, 13, 16, .ref spare_13), (r0, 13, 15, .ref latest_23), (spare_13, 3, 3, .int ql_14), (ta, 2, 1, .int 0), (r0, 13, 0, .ref ta), (ta, 2, 0, .ref tr_)] [(yb_226, 171, 40, ca 1, gb_330), (ye_226, 172, 40, ca 1, ge_330), (tr_, 197, 4000, ca 0, fa)] [(jFy, jYb dC dI G_353), (jFdo, jDcc dC dI ca G_353 none phn_332), ([(2, 0), (2, 1)], jOl (dC, dI) G0 2 [ta] s.heap)] H_389 locs_389 := (hh_386.callG hb_3891 hb_3892 hb_3893 hb_3894 hb_3895 hS_389 rfl (L1 := [(spare_13, 3, 8, .ref early_387), (kernel_326, 7, 2, .ref start_381), (spare_13, 3, 9, .ref behind_378), (spare_13, 3, 2, .ref text_350), (spare_13, 3, 4, .int qs_330), (kernel_326, 7, 1, .ref syntax_329), (r0, 13, 5, .ref kernel_326), (spare_13, 3, 11, .ref chk_232), (spare_13, 3, 10, .int pk_226), (spare_13, 3, 5, .ref yb_226), (spare_13, 3, 6, .ref ye_226), (r0, 13, 18, .int (-2)), (r0, 13, 16, .ref spare_13), (r0, 13, 15, .ref latest_23), (spare_13, 3, 3, .int ql_14), (ta, 2, 1, .int 0), (r0, 13, 0, .ref ta), (ta, 2, 0, .ref tr_)]) [0, 1, 2, 3, 4, 5, 6, 7, 8, 9, 10, 11, 12, 13, 14, 15, 16, 17] rfl rfl (M1 := [(yb_226, 171, 40, ca 1, gb_330), (ye_226, 172, 40, ca 1, ge_330), (tr_, 197, 4000, ca 0, fa)]) [0, 1, 2] rfl rfl (I1 := [(jFy, jYb dC dI G_353), (jFdo, jDcc dC dI ca G_353 none phn_332), ([(2, 0), (2, 1)], jOl (dC, dI) G0 2 [ta] s.heap)]) [1, 2, 3] rfl rfl).more hb_3896
                  have hNn_389 : (jNk [0, 1, 2, 4, 6, 7, 8, 9, 10, 12, 13, 14, 15, 16]) G0 G_389 := (hNn_353).tr hN_389
                  have hg_391 := hb_3892 _ _ hg_ret_375
                  have hg_392 := hb_3892 _ _ hg_355
                  have hg_393 := hb_3892 _ _ hg_356
                  have hg_394 := hb_3892 _ _ hg_behind_378
                  have hg_395 := hb_3892 _ _ hg_early_387
                  have hg_396 := hb_3892 _ _ hg_start_381
                  have hg_397 := hb_3892 _ _ hg_357
                  have hg_398 := hb_3892 _ _ hg_358
                  have hg_399 := hb_3892 _ _ hg_359
                  have hg_400 := hb_3892 _ _ hg_360
                  have hg_401 := hb_3892 _ _ hg_361
                  have hg_402 := hb_3892 _ _ hg_362
                  have hg_403 := hb_3892 _ _ hg_363
                  have hg_404 := hb_3892 _ _ hg_364
                  have hg_405 := hb_3892 _ _ hg_365
                  have hd_406 := jYb.grow (hh_389.iv 0 rfl) hb_3892 hN_389 (by decide)
                  have hh_407 := hh_389.sub (L1 := [(spare_13, 3, 8, .ref early_387), (kernel_326, 7, 2, .ref start_381), (spare_13, 3, 9, .ref behind_378), (spare_13, 3, 2, .ref text_350), (spare_13, 3, 4, .int qs_330), (kernel_326, 7, 1, .ref syntax_329), (r0, 13, 5, .ref kernel_326), (spare_13, 3, 11, .ref chk_232), (spare_13, 3, 10, .int pk_226), (spare_13, 3, 5, .ref yb_226), (spare_13, 3, 6, .ref ye_226), (r0, 13, 18, .int (-2)), (r0, 13, 16, .ref spare_13), (r0, 13, 15, .ref latest_23), (spare_13, 3, 3, .int ql_14), (ta, 2, 1, .int 0), (r0, 13, 0, .ref ta), (ta, 2, 0, .ref tr_)]) [0, 1, 2, 3, 4, 5, 6, 7, 8, 9, 10, 11, 12, 13, 14, 15, 16, 17] rfl (M1 := [(yb_226, 171, 40, ca 1, gb_330), (ye_226, 172, 40, ca 1, ge_330), (tr_, 197, 4000, ca 0, fa)]) [0, 1, 2] rfl (I1 := [(jFdo, jDcc dC dI ca G_353 none phn_332), ([(2, 0), (2, 1)], jOl (dC, dI) G0 2 [ta] s.heap)]) [1, 2] rfl
                  clear hh_389
                  have hh_408 := hh_407.addI (jYb.ie hd_406)
                  clear hh_407
                  have hd_409 := jDcc.grow (hh_408.iv 1 rfl) hb_3892 hE9_389 (by decide)
                  have hh_410 := hh_408.sub (L1 := [(spare_13, 3, 8, .ref early_387), (kernel_326, 7, 2, .ref start_381), (spare_13, 3, 9, .ref behind_378), (spare_13, 3, 2, .ref text_350), (spare_13, 3, 4, .int qs_330), (kernel_326, 7, 1, .ref syntax_329), (r0, 13, 5, .ref kernel_326), (spare_13, 3, 11, .ref chk_232), (spare_13, 3, 10, .int pk_226), (spare_13, 3, 5, .ref yb_226), (spare_13, 3, 6, .ref ye_226), (r0, 13, 18, .int (-2)), (r0, 13, 16, .ref spare_13), (r0, 13, 15, .ref latest_23), (spare_13, 3, 3, .int ql_14), (ta, 2, 1, .int 0), (r0, 13, 0, .ref ta), (ta, 2, 0, .ref tr_)]) [0, 1, 2, 3, 4, 5, 6, 7, 8, 9, 10, 11, 12, 13, 14, 15, 16, 17] rfl (M1 := [(yb_226, 171, 40, ca 1, gb_330), (ye_226, 172, 40, ca 1, ge_330), (tr_, 197, 4000, ca 0, fa)]) [0, 1, 2] rfl (I1 := [(jFy, jYb dC dI G_389), ([(2, 0), (2, 1)], jOl (dC, dI) G0 2 [ta] s.heap)]) [0, 2] rfl
                  clear hh_408
                  have hh_411 := hh_410.addI (jDcc.ie hd_409)
                  clear hh_410
                  have hh_412 := hh_411.addIs hbE_389
                  obtain ⟨hr_390, hr_390p⟩ := hr_390
                  try simp only at hr_390p
                  obtain ⟨ret_413, rfl, hg_ret_413⟩ := hr_390
                  refine j7_qast hx hb hK2 hh_412 hB hB210 2 rfl (by decide) (by decide) rfl rfl rfl hg_394 (x := v3_335.toInt) (rfl) (by omega) hB11 (T := TX9) (N := 9) rfl (by decide) hg_ret_413 (Or.inr ⟨_, rfl, hg_ret_413⟩) dX11_batch_158 (fun H_414 locs_414 hh_414 => ?_)
                  clear hh_412
                  obtain ⟨z_415, ez_415⟩ : ∃ y : Int32, y = v3_335 + 1 := ⟨_, rfl⟩
                  refine lv_iinc (v := z_415) (lv' := [(3, .int z_415), (4, .ref ret_375), (0, .ref r0), (1, .int a1), (2, .ref spare_13)]) hx hb dX11_batch_159 hl (k := 4) rfl (by rw [ez_415]; rfl) (by decide) rfl (fun ls hl => ?_)
                  have hz_415 : z_415.toInt = v3_335.toInt + 1 := by rw [ez_415]; exact jb_iadd2 (rfl) (by decide) (by omega)
                  have hje := jEd.to hnb.2.2.1 (k1 := z_415.toInt) (by omega)
                  refine lv_goto (tgt := 97) hx hb dX11_batch_162 (by decide) ?_
                  refine W.tight (c2 := ((zcx_335 + (1)) + (23))) (n2 := ((zsx_335 + (m_ret_353)) + ((183 + 336 * (min 1 (m_ret_353 / 3)))))) hh_414.2.2.2.2.2.1 hh_414.2.2.2.2.2.2.1 ?_
                  exact L97 G_389 ((zcx_335 + (1)) + (23)) ((zsx_335 + (m_ret_353)) + ((183 + 336 * (min 1 (m_ret_353 / 3))))) z_415 _ _ (hh_414.sub (L1 := [(spare_13, 3, 4, .int qs_330), (kernel_326, 7, 1, .ref syntax_329), (r0, 13, 5, .ref kernel_326), (spare_13, 3, 11, .ref chk_232), (spare_13, 3, 10, .int pk_226), (spare_13, 3, 5, .ref yb_226), (spare_13, 3, 6, .ref ye_226), (r0, 13, 18, .int (-2)), (r0, 13, 16, .ref spare_13), (r0, 13, 15, .ref latest_23), (spare_13, 3, 3, .int ql_14), (ta, 2, 1, .int 0), (r0, 13, 0, .ref ta), (ta, 2, 0, .ref tr_)]) [4, 5, 6, 7, 8, 9, 10, 11, 12, 13, 14, 15, 16, 17] rfl (M1 := [(yb_226, 171, 40, ca 1, gb_330), (ye_226, 172, 40, ca 1, ge_330), (tr_, 197, 4000, ca 0, fa)]) [0, 1, 2] rfl (I1 := [(jFdo, jDcc dC dI ca G_389 none phn_332), ([(2, 0), (2, 1)], jOl (dC, dI) G0 2 [ta] s.heap), (jFy, jYb dC dI G_389), (jFs11, jSef dC dI G_389)]) [1, 3, 2, 0] rfl) (hNn_389) (((hle_335).tr hb_3532).tr hb_3892) (⟨(by first | (with_reducible assumption) | omega | rfl | fail), (by first | (with_reducible assumption) | omega | rfl | fail), (by first | (with_reducible assumption) | omega | rfl | fail), (by first | (with_reducible assumption) | omega | rfl | fail)⟩) (by omega) _ (lv_sub hl [2, 3, 4, 0] rfl)
            refine W.tight (c2 := 0) (n2 := 0) hh_334.2.2.2.2.2.1 hh_334.2.2.2.2.2.2.1 ?_
            exact L97 (qs_330.toInt - (0 : Int32).toInt : Int).toNat.succ G0 0 0 0 _ _ (hh_334.sub (L1 := [(spare_13, 3, 4, .int qs_330), (kernel_326, 7, 1, .ref syntax_329), (r0, 13, 5, .ref kernel_326), (spare_13, 3, 11, .ref chk_232), (spare_13, 3, 10, .int pk_226), (spare_13, 3, 5, .ref yb_226), (spare_13, 3, 6, .ref ye_226), (r0, 13, 18, .int (-2)), (r0, 13, 16, .ref spare_13), (r0, 13, 15, .ref latest_23), (spare_13, 3, 3, .int ql_14), (ta, 2, 1, .int 0), (r0, 13, 0, .ref ta), (ta, 2, 0, .ref tr_)]) [0, 1, 2, 3, 4, 5, 6, 7, 8, 9, 10, 12, 13, 14] rfl (M1 := [(yb_226, 171, 40, ca 1, gb_330), (ye_226, 172, 40, ca 1, ge_330), (tr_, 197, 4000, ca 0, fa)]) [0, 1, 2] rfl (I1 := [(jFdo, jDcc dC dI ca G0 none phn_332), ([(2, 0), (2, 1)], jOl (dC, dI) G0 2 [ta] s.heap), (jFy, jYb dC dI G0), (jFs11, jSef dC dI G0)]) [0, 1, 2, 3] rfl) (jNk.rf) (jLe.rf) (⟨(by first | (with_reducible assumption) | omega | rfl | fail), (by first | (with_reducible assumption) | omega | rfl | fail), (by first | (with_reducible assumption) | omega | rfl | fail), (by first | (with_reducible assumption) | omega | rfl | fail)⟩) (by omega) _ (lv_sub hl [2, 3, 1, 0] rfl)
      · skip
        have c_20' : r_15.toInt = 0 := jb_ne_n (rfl) ((by decide)) c_20
        refine lv_bipush (v := (-2)) hx hb dX11_batch_45 (by decide) ?_
        have hsz_416 := hh_14.2.2.2.2.2.1
        have htt_416 := hh_14.2.2.2.2.2.2.1
        refine W.room (fun hrc_416 hrs_416 => ?_)
        refine W.widen (k := LC - s.heap.size) (n := LS - jTot s.heap) (by omega) (by omega) ?_
        rw [hQ]
        exact W.iret (v := (-2)) hx hb hr (fun t ht hW => ⟨⟨(-2), (0, ph, (pt.toInt.toNat - (0 : Int).toNat), G0), rfl, by skip; (try dsimp only); refine ⟨by omega, by omega, by omega, ?_⟩; exact Or.inr ⟨by omega, by omega, jBa.long (hr_15p_3.no (by omega)) (by omega)⟩, ⟨hh_14.ra (by first | (simp only; omega) | omega) (by first | (simp only; omega) | omega) (M1 := [(ta, 2, 1, .int 0)]) [3] rfl ht, jNk.rf, by rw [ht]; exact hh_14.iv 0 rfl, by rw [ht]; exact hh_14.2.2.2.2.2.2.2.2.sub (L1 := [(jFy, jYb dC dI G0), (jFs11, jSef dC dI G0), (jFdo, jDcc dC dI ca G0 none ph)]) [1, 2, 3] rfl⟩⟩, by rw [ht]; try exact hh_14.1.1, fun q h9 hq => by rw [ht]; try exact hh_14.1.2.1 q h9 hq⟩) hh_14.1.2.2 dX11_batch_47
    · skip
      have c_4' : a1.toInt > pt.toInt := jb_le_n (rfl) (rfl) c_4
      refine lv_iconst (v := (-1)) hx hb dX11_batch_15 (by decide) ?_
      have hsz_417 := hh_1.2.2.2.2.2.1
      have htt_417 := hh_1.2.2.2.2.2.2.1
      refine W.room (fun hrc_417 hrs_417 => ?_)
      refine W.widen (k := LC - s.heap.size) (n := LS - jTot s.heap) (by omega) (by omega) ?_
      rw [hQ]
      exact W.iret (v := (-1)) hx hb hr (fun t ht hW => ⟨⟨(-1), (pt, ph, (pt.toInt.toNat - (pt.toInt : Int).toNat), G0), rfl, by skip; (try dsimp only); refine ⟨by omega, by omega, by omega, ?_⟩; exact Or.inl ⟨by omega, by omega⟩, ⟨hh_1.ra (by first | (simp only; omega) | omega) (by first | (simp only; omega) | omega) (M1 := [(ta, 2, 1, .int pt)]) [1] rfl ht, jNk.rf, by rw [ht]; exact hh_1.iv 0 rfl, by rw [ht]; exact hh_1.2.2.2.2.2.2.2.2.sub (L1 := [(jFy, jYb dC dI G0), (jFs11, jSef dC dI G0), (jFdo, jDcc dC dI ca G0 none ph)]) [1, 2, 3] rfl⟩⟩, by rw [ht]; try exact hh_1.1.1, fun q h9 hq => by rw [ht]; try exact hh_1.1.2.1 q h9 hq⟩) hh_1.1.2.2 dX11_batch_16
end
