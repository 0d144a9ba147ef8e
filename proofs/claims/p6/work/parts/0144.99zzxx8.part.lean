section
def EX1_partK : List (Nat × Nat) := [(3, 4), (8, 3), (12, 3), (101, 0), (102, 0), (132, 0), (133, 0), (171, 0), (172, 0), (176, 0), (177, 0), (293, 0)]
set_option maxHeartbeats 4000000 in
set_option maxRecDepth 20000 in
theorem uX1_partK (l : Launch) (dC : Nat → ClassId) (dI : Nat → Nat → Nat) (ca : Nat → ClassId) (base : Nat) (B : jF) (hB : jBok B) (hAp : jAp (dC, dI)) (hB3 : ∀ n G a H, B 3 n G a H ↔ jOb (dC, dI) 3 17 (F3 n G) a H) (hB8 : ∀ n G a H, B 8 n G a H ↔ jOb (dC, dI) 8 4 (F8 n G) a H) (hB12 : ∀ n G a H, B 12 n G a H ↔ jOb (dC, dI) 12 11 (F12b n G) a H) (hB101 : ∀ n G a H, B 101 n G a H ↔ jAr (dC, dI) (ca 1) (fun j z => True) n a H) (hB102 : ∀ n G a H, B 102 n G a H ↔ jAl (dC, dI) (ca 2) n a H) (hB132 : ∀ n G a H, B 132 n G a H ↔ jAr (dC, dI) (ca 1) (fun j z => 0 ≤ z.toInt ∧ z.toInt ≤ 10) n a H) (hB133 : ∀ n G a H, B 133 n G a H ↔ jAr (dC, dI) (ca 1) (fun j z => 0 ≤ z.toInt ∧ z.toInt ≤ 8192) n a H) (hB171 : ∀ n G a H, B 171 n G a H ↔ jAr (dC, dI) (ca 1) (fun j z => 0 ≤ z.toInt ∧ z.toInt ≤ 1500) n a H) (hB172 : ∀ n G a H, B 172 n G a H ↔ jAr (dC, dI) (ca 1) (fun j z => 0 ≤ z.toInt ∧ z.toInt ≤ 1500) n a H) (hB173 : ∀ n G a H, B 173 n G a H ↔ jAr (dC, dI) (ca 1) (fun j z => True) n a H) (hB176 : ∀ n G a H, B 176 n G a H ↔ jAr (dC, dI) (ca 1) (fun j z => True) n a H) (hB177 : ∀ n G a H, B 177 n G a H ↔ jAr (dC, dI) (ca 1) (fun j z => True) n a H) (hB293 : ∀ n G a H, B 293 n G a H ↔ jAr (dC, dI) (ca 1) (fun j z => -1 ≤ z.toInt ∧ z.toInt ≤ 8191) n a H) (G0 : jT) (H0 : Heap) (r0 : Nat) (r1 : Nat) (n0 : Nat) (pl : Int32) (sa_ : Nat) (ea_ : Nat) (tx_ : Nat) (ey_ : Nat) (cc_ : Nat) (bh : Nat) (ph : Nat) (kq : jKg) (fb : Nat → Int32) (fe : Nat → Int32) (ft : Nat → Int32) (fl : Nat → Int32) (fc : Nat → Int32) : Met l yX1_part (jw yX1_part cX1_part 5 none) ({ frames := 6, cells := 0, slots := 0, locals := 208 }) (va_Pc [.ref r0, .ref r1] (fun U => U.heap = H0 ∧ jX B base G0 [] H0 ∧ jG dC dI ca base U ∧ G0 r0 = some (3, n0) ∧ G0 r1 = some (12, 0) ∧ G0 sa_ = some (171, 40) ∧ G0 ea_ = some (172, 40) ∧ G0 tx_ = some (173, 1500) ∧ G0 ey_ = some (177, 40) ∧ G0 cc_ = some (176, 40) ∧ G0 bh = some (210, 40) ∧ jP (dC, dI) G0 H0 [(r0, 3, 3, .int pl), (r0, 3, 5, .ref sa_), (r0, 3, 6, .ref ea_), (r0, 3, 2, .ref tx_), (r0, 3, 8, .ref ey_), (r0, 3, 7, .ref cc_), (r0, 3, 9, .ref bh)] ∧ jMc (dC, dI) G0 H0 [(sa_, 171, 40, ca 1, fb), (ea_, 172, 40, ca 1, fe), (tx_, 173, 1500, ca 1, ft), (ey_, 177, 40, ca 1, fl), (cc_, 176, 40, ca 1, fc)] ∧ jIs (dC, dI) G0 H0 [(jFdo, jDcc dC dI ca G0 (some r0) ph), (jFkd, jKD dC dI ca G0 (some r0) kq)] ∧ 0 ≤ pl.toInt ∧ pl.toInt ≤ 1500)) (va_Qv (S := Int32 × (Nat → Int32) × (Nat → Int32) × (Nat → Int32) × (Nat → Int32)) (fun u => 0 ≤ u.1.toInt ∧ u.1.toInt ≤ 40 ∧ jSn u.2.1 u.2.2.1 u.1.toInt pl.toInt ∧ u.1.toInt = jPar ft pl.toInt ∧ jcP ft pl.toInt u.2.1 u.2.2.1 u.1.toInt ∧ jcPc ft pl.toInt u.2.2.2.2 u.1.toInt) (fun u t => ((jRt (dC, dI) B base G0 EX1_partK H0 [(r0, 3, 4, .int u.1)] t.heap ∧ jMc (dC, dI) G0 t.heap [(sa_, 171, 40, ca 1, u.2.1), (ea_, 172, 40, ca 1, u.2.2.1), (ey_, 177, 40, ca 1, u.2.2.2.1), (cc_, 176, 40, ca 1, u.2.2.2.2)]) ∧ jOw (dC, dI) G0 3 r0 H0 t.heap) ∧ jIs (dC, dI) G0 t.heap [(jFdo, jDcc dC dI ca G0 (some r0) ph), (jFkd, jKD dC dI ca G0 (some r0) kq)]) (jA base)) 0 0 (jA base) := by
  refine Met.ofW (cc := cX1_part) (maxL := 5) (ret := none) (by decide) rfl ?_
  intro p e s m args below meth c s₁ Bd hml hv
  obtain ⟨rfl, hH0, hX, hG, hg_r0, hg_r1, hg_sa_, hg_ea_, hg_tx_, hg_ey_, hg_cc_, hg_bh, hP0, hM0, hI0, hp0, hp1⟩ := hv
  have hK := hG.1
  have hx := Bd.exec
  have hb := Bd.bytes
  have hr := Bd.returns
  have hts := atoms_spec (ws := (jw yX1_part cX1_part 5 none)) Bd.pre
  have htw : ∀ w ∈ jWl, w.before _ s = true := fun w h => hts w (List.mem_cons_of_mem _ h)
  have hown : s.vm.findClass RX1 = some m.cls := findClass_of_methodNamed Bd.named
  have hlocks := Bd.notSynchronized
  obtain ⟨Q, hQ⟩ : ∃ Q, Q = MQ below (va_Qv (S := Int32 × (Nat → Int32) × (Nat → Int32) × (Nat → Int32) × (Nat → Int32)) (fun u => 0 ≤ u.1.toInt ∧ u.1.toInt ≤ 40 ∧ jSn u.2.1 u.2.2.1 u.1.toInt pl.toInt ∧ u.1.toInt = jPar ft pl.toInt ∧ jcP ft pl.toInt u.2.1 u.2.2.1 u.1.toInt ∧ jcPc ft pl.toInt u.2.2.2.2 u.1.toInt) (fun u t => ((jRt (dC, dI) B base G0 EX1_partK H0 [(r0, 3, 4, .int u.1)] t.heap ∧ jMc (dC, dI) G0 t.heap [(sa_, 171, 40, ca 1, u.2.1), (ea_, 172, 40, ca 1, u.2.2.1), (ey_, 177, 40, ca 1, u.2.2.2.1), (cc_, 176, 40, ca 1, u.2.2.2.2)]) ∧ jOw (dC, dI) G0 3 r0 H0 t.heap) ∧ jIs (dC, dI) G0 t.heap [(jFdo, jDcc dC dI ca G0 (some r0) ph), (jFkd, jKD dC dI ca G0 (some r0) kq)]) (jA base)) ([.ref r0, .ref r1] : List Value).toArray s 0 0 (jA base) := ⟨_, rfl⟩
  rw [← hQ]
  have hl := lv_entry ([.ref r0, .ref r1]) (n := 5) (Nat.le_of_ble_eq_true rfl)
  rw [lg_entry_eq]
  generalize (lg_sl ([.ref r0, .ref r1]) ++ List.replicate (5 - (lg_sl ([.ref r0, .ref r1])).length) Slot.unset).toArray = ls at hl ⊢
  have hl : lv_has ls 5 [(0, .ref r0), (1, .ref r1)] := hl
  generalize hR : (headSpec (jw yX1_part cX1_part 5 none) ({ frames := 6, cells := 0, slots := 0, locals := 208 })).room = R
  subst hH0
  have hh : jSt (dC, dI) B base G0 G0 EX1_partK s.heap 0 0 [(r0, 3, 3, .int pl), (r0, 3, 5, .ref sa_), (r0, 3, 6, .ref ea_), (r0, 3, 2, .ref tx_), (r0, 3, 8, .ref ey_), (r0, 3, 7, .ref cc_), (r0, 3, 9, .ref bh)] [(sa_, 171, 40, ca 1, fb), (ea_, 172, 40, ca 1, fe), (tx_, 173, 1500, ca 1, ft), (ey_, 177, 40, ca 1, fl), (cc_, 176, 40, ca 1, fc)] [(jFdo, jDcc dC dI ca G0 (some r0) ph), (jFkd, jKD dC dI ca G0 (some r0) kq)] s.heap [] := jSt.start hX hP0 hM0 hI0
  clear hX hP0
  have hk0 : (0 : Int32).toInt = 0 := by decide
  have hk1 : (1 : Int32).toInt = 1 := by decide
  have hk2 : (2 : Int32).toInt = 2 := by decide
  have hk3 : (3 : Int32).toInt = 3 := by decide
  have hk39 : (39 : Int32).toInt = 39 := by decide
  have hk40 : (40 : Int32).toInt = 40 := by decide
  have hly_3_2 := htw (u_lay RX1 TX1 2) (jWc_wsX10 _ (u_in_lay (by decide)))
  have hly_3_3 := htw (u_lay RX1 TX1 3) (jWc_wsX10 _ (u_in_lay (by decide)))
  have hly_3_4 := htw (u_lay RX1 TX1 4) (jWc_wsX10 _ (u_in_lay (by decide)))
  have hly_3_5 := htw (u_lay RX1 TX1 5) (jWc_wsX10 _ (u_in_lay (by decide)))
  have hly_3_6 := htw (u_lay RX1 TX1 6) (jWc_wsX10 _ (u_in_lay (by decide)))
  have hly_3_7 := htw (u_lay RX1 TX1 7) (jWc_wsX10 _ (u_in_lay (by decide)))
  have hly_3_8 := htw (u_lay RX1 TX1 8) (jWc_wsX10 _ (u_in_lay (by decide)))
  have hlk_69 := (htw (.fieldLink RX1 69 "ProofServer$Document" "sentences" "I") (jWr_29 _ (List.mem_of_getElem? (i := 14) rfl)))
  have hlk_42 := (htw (.fieldLink RX1 42 "ProofServer$Document" "length" "I") (jWr_29 _ (List.mem_of_getElem? (i := 5) rfl)))
  have hlk_18 := (htw (.fieldLink RX1 18 "ProofServer$Document" "starts" "[I") (jWr_10 _ (List.mem_of_getElem? (i := 7) rfl)))
  have hlk_21 := (htw (.fieldLink RX1 21 "ProofServer$Document" "ends" "[I") (jWr_10 _ (List.mem_of_getElem? (i := 8) rfl)))
  have hlk_27 := (htw (.fieldLink RX1 27 "ProofServer$Document" "early" "[I") (jWr_10 _ (List.mem_of_getElem? (i := 10) rfl)))
  have hlk_24 := (htw (.fieldLink RX1 24 "ProofServer$Document" "costs" "[I") (jWr_10 _ (List.mem_of_getElem? (i := 9) rfl)))
  have hlk_15 := (htw (.fieldLink RX1 15 "ProofServer$Document" "text" "[I") (jWr_10 _ (List.mem_of_getElem? (i := 6) rfl)))
  have hh_1 := hh.addI (jOw.ie (dC := dC) (dI := dI) (G0 := G0) (k := 3) (r := r0) (H0 := s.heap) (F := [(3, 0), (3, 1), (3, 2), (3, 3), (3, 4), (3, 5), (3, 6), (3, 7), (3, 8), (3, 9), (3, 10), (3, 11), (3, 12), (3, 13), (3, 14), (3, 15), (3, 16)]) (C := RX1) (T := TX1) (N := 17) rfl (by decide) hh.2.2.2.2.1 (jOw.rf))
  clear hh
  refine lv_aload_n hx hb dX1_part_0 rfl (lv_at hl 0 rfl) ?_
  refine lv_iconst (v := 0) hx hb dX1_part_1 (by decide) ?_
  have hdg_2 := hh_1.iv 2 rfl
  have hdg_2_5 := hh_1.at 1 rfl
  have hdg_2_6 := hh_1.at 2 rfl
  have hdg_2_7 := hh_1.at 5 rfl
  have hdg_2_9 := hh_1.at 6 rfl
  have hh_3 := hh_1.sub (L1 := [(r0, 3, 3, .int pl), (r0, 3, 5, .ref sa_), (r0, 3, 6, .ref ea_), (r0, 3, 2, .ref tx_), (r0, 3, 8, .ref ey_), (r0, 3, 7, .ref cc_), (r0, 3, 9, .ref bh)]) [0, 1, 2, 3, 4, 5, 6] rfl (M1 := [(sa_, 171, 40, ca 1, fb), (ea_, 172, 40, ca 1, fe), (tx_, 173, 1500, ca 1, ft), (ey_, 177, 40, ca 1, fl), (cc_, 176, 40, ca 1, fc)]) [0, 1, 2, 3, 4] rfl (I1 := [([(3, 0), (3, 1), (3, 2), (3, 3), (3, 4), (3, 5), (3, 6), (3, 7), (3, 8), (3, 9), (3, 10), (3, 11), (3, 12), (3, 13), (3, 14), (3, 15), (3, 16)], jOw (dC, dI) G0 3 r0 s.heap), (jFdo, jDcc dC dI ca G0 (some r0) ph)]) [0, 1] rfl
  clear hh_1
  have hd_5 := hh_3.iv 1 rfl
  have hd_55 := hh_3.at 1 rfl
  have hd_56 := hh_3.at 2 rfl
  have hd_5o := hh_3.iv 0 rfl
  have hh_6 := hh_3.sub (L1 := [(r0, 3, 3, .int pl), (r0, 3, 5, .ref sa_), (r0, 3, 6, .ref ea_), (r0, 3, 2, .ref tx_), (r0, 3, 8, .ref ey_), (r0, 3, 7, .ref cc_), (r0, 3, 9, .ref bh)]) [0, 1, 2, 3, 4, 5, 6] rfl (M1 := [(sa_, 171, 40, ca 1, fb), (ea_, 172, 40, ca 1, fe), (tx_, 173, 1500, ca 1, ft), (ey_, 177, 40, ca 1, fl), (cc_, 176, 40, ca 1, fc)]) [0, 1, 2, 3, 4] rfl (I1 := []) [] rfl
  clear hh_3
  refine j7_putX hx hb hown hK hh_6 hB hAp hB3 (C := RX1) (T := TX1) (N := 17) rfl (by decide) hg_r0 (i := 4) (by decide) hly_3_4 rfl hlk_69 rfl (ty := .int) (v := .int 0) (by decide +kernel) rfl rfl (⟨_, rfl, by omega, by omega⟩) rfl (L1 := [(r0, 3, 3, .int pl), (r0, 3, 5, .ref sa_), (r0, 3, 6, .ref ea_), (r0, 3, 2, .ref tx_), (r0, 3, 8, .ref ey_), (r0, 3, 7, .ref cc_), (r0, 3, 9, .ref bh)]) [0, 1, 2, 3, 4, 5, 6] rfl rfl rfl dX1_part_2 (fun H_4 locs_4 hr_4 hh_4 => ?_)
  clear hh_6
  have hd_5n := jDcc.fld hd_5 hg_r0 hr_4 hd_55 hd_56 (hh_4.at 2 rfl) (hh_4.at 3 rfl)
  have hd_5on := jOw.put hd_5o hr_4
  have hh_7 := hh_4.addI (jDcc.ie hd_5n)
  clear hh_4
  have hh_8 := hh_7.addI (jOw.ie (dC := dC) (dI := dI) (G0 := G0) (k := 3) (r := r0) (H0 := s.heap) (F := [(3, 0), (3, 1), (3, 2), (3, 3), (3, 4), (3, 5), (3, 6), (3, 7), (3, 8), (3, 9), (3, 10), (3, 11), (3, 12), (3, 13), (3, 14), (3, 15), (3, 16)]) (C := RX1) (T := TX1) (N := 17) rfl (by decide) hh_7.2.2.2.2.1 (hd_5on))
  clear hh_7
  clear hd_5 hd_5n hd_55 hd_56 hd_5o hd_5on
  have hdg_2n := jKD.fld (ca := ca) hdg_2 hg_r0 hr_4 hdg_2_5 hdg_2_6 hdg_2_7 hdg_2_9 (hh_8.at 2 rfl) (hh_8.at 3 rfl) (hh_8.at 6 rfl) (hh_8.at 7 rfl)
  have hh_9 := hh_8.addI (jKD.ie hdg_2n)
  clear hh_8
  clear hdg_2 hdg_2n hr_4 hdg_2_5 hdg_2_6 hdg_2_7 hdg_2_9
  refine lv_aload_n hx hb dX1_part_5 rfl (lv_at hl 0 rfl) ?_
  refine lv_iconst (v := 0) hx hb dX1_part_6 (by decide) ?_
  refine va_calli (A0 := jA base) (H0 := s.heap) (va_runV (As := [.int 0]) (rest := []) ⟨hx, hb, hml, hown, hts⟩ (uX1_sentenceBeginP l dC dI ca base B hB hAp hB3 hB101 hB173 G0 H_4 r0 0 n0 pl tx_ ft) (cwV 1 hts (jgV (jWr_36 _ (List.mem_of_getElem? (i := 6) rfl)) (jWr_36 _ (List.mem_of_getElem? (i := 7) rfl)) (jWr_36 _ (List.mem_of_getElem? (i := 8) rfl)) (jWr_2 _ (List.mem_of_getElem? (i := 21) rfl)) (jWr_36 _ (List.mem_of_getElem? (i := 9) rfl))) rfl rfl rfl (by decide +kernel) ⟨by rw [← hR]; exact Nat.le_of_ble_eq_true rfl, by rw [← hR]; exact Nat.le_of_ble_eq_true rfl⟩) ⟨fun a U g mk q => by obtain ⟨q0, q1, q2, qK, q10, q11, q12, q13, q14⟩ := q; exact ⟨q0, q1, q2, jG.calling g mk a qK, q10, q11, q12, q13, q14⟩, hh_9.recv (C := RX1) (T := TX1) (N := 17) hB3 rfl (by decide) hg_r0 hK, fun U hU hW => ⟨rfl, hU, hh_9.2.1, hG.step hW hU hh_9.1, hg_r0, hg_tx_, (hh_9.2.2.1.sub (L1 := [(r0, 3, 3, .int pl), (r0, 3, 2, .ref tx_)]) [1, 4] rfl), (hh_9.2.2.2.2.2.2.2.1.sub (L1 := [(tx_, 173, 1500, ca 1, ft)]) [2] rfl), by first | omega | (refine ⟨?_, ?_, ?_⟩ <;> (first | omega | rfl | assumption | decide | exact Or.inl rfl | exact Or.inr rfl | (simp only; omega)))⟩⟩ rfl rfl hl.1 rfl (lv_room (Nat.le_of_ble_eq_true rfl)) dX1_part_7 ⟨Nat.zero_le _, Nat.zero_le _⟩) hh_9.1 (fun q _ h => h) (fun q h => h) (fun r_11 u_10 t_10 H_10 locs_10 ht_10 hvm_10 hr_11 hb_10 hz_10 hk_10 hS_10 => ?_)
  rw [ht_10] at hb_10
  obtain ⟨hb_101, hb_102, hb_103, hb_104, hb_105⟩ := hb_10
  have hh_10 : jSt (dC, dI) B base G0 G0 EX1_partK s.heap 0 0 [(r0, 3, 4, .int 0), (r0, 3, 3, .int pl), (r0, 3, 5, .ref sa_), (r0, 3, 6, .ref ea_), (r0, 3, 2, .ref tx_), (r0, 3, 8, .ref ey_), (r0, 3, 7, .ref cc_), (r0, 3, 9, .ref bh)] [(sa_, 171, 40, ca 1, fb), (ea_, 172, 40, ca 1, fe), (tx_, 173, 1500, ca 1, ft), (ey_, 177, 40, ca 1, fl), (cc_, 176, 40, ca 1, fc)] [(jFkd, jKD dC dI ca G0 (some r0) kq), ([(3, 0), (3, 1), (3, 2), (3, 3), (3, 4), (3, 5), (3, 6), (3, 7), (3, 8), (3, 9), (3, 10), (3, 11), (3, 12), (3, 13), (3, 14), (3, 15), (3, 16)], jOw (dC, dI) G0 3 r0 s.heap), (jFdo, jDcc dC dI ca G0 (some r0) ph)] H_10 locs_10 := ((hh_9.call hb_101 hb_102 hb_103 hb_104 hS_10 rfl (L1 := [(r0, 3, 4, .int 0), (r0, 3, 3, .int pl), (r0, 3, 5, .ref sa_), (r0, 3, 6, .ref ea_), (r0, 3, 2, .ref tx_), (r0, 3, 8, .ref ey_), (r0, 3, 7, .ref cc_), (r0, 3, 9, .ref bh)]) [0, 1, 2, 3, 4, 5, 6, 7] rfl rfl (M1 := [(sa_, 171, 40, ca 1, fb), (ea_, 172, 40, ca 1, fe), (tx_, 173, 1500, ca 1, ft), (ey_, 177, 40, ca 1, fl), (cc_, 176, 40, ca 1, fc)]) [0, 1, 2, 3, 4] rfl rfl (I1 := [(jFkd, jKD dC dI ca G0 (some r0) kq), ([(3, 0), (3, 1), (3, 2), (3, 3), (3, 4), (3, 5), (3, 6), (3, 7), (3, 8), (3, 9), (3, 10), (3, 11), (3, 12), (3, 13), (3, 14), (3, 15), (3, 16)], jOw (dC, dI) G0 3 r0 s.heap), (jFdo, jDcc dC dI ca G0 (some r0) ph)]) [0, 1, 2] rfl rfl).more hb_105)
  clear hh_9 ht_10 hvm_10 hz_10 hk_10 hS_10 hb_101 hb_102 hb_103 hb_104 hb_105
  obtain ⟨hr_11_0, hr_11_1, hr_11_2⟩ := hr_11
  rw [hk0] at hr_11_0
  refine lv_istore_n (lv' := [(2, .int r_11), (0, .ref r0), (1, .ref r1)]) hx hb dX1_part_10 rfl hl (by decide) rfl (fun ls hl => ?_)
  refine lv_iconst (v := 0) hx hb dX1_part_11 (by decide) ?_
  refine lv_istore_n (lv' := [(3, .int 0), (2, .int r_11), (0, .ref r0), (1, .ref r1)]) hx hb dX1_part_12 rfl hl (by decide) rfl (fun ls hl => ?_)
  have L13 : ∀ (N : Nat) (v2_12 : Int32) (v3_12 : Int32) (ws_12 : Int32) (fb_12 : Nat → Int32) (fe_12 : Nat → Int32) (fl_12 : Nat → Int32) (kf : Nat) (H_12 : Heap) (locs_12 : List Loc), jSt (dC, dI) B base G0 G0 EX1_partK s.heap 0 0 [(r0, 3, 4, .int ws_12), (r0, 3, 3, .int pl), (r0, 3, 5, .ref sa_), (r0, 3, 6, .ref ea_), (r0, 3, 2, .ref tx_), (r0, 3, 8, .ref ey_), (r0, 3, 7, .ref cc_), (r0, 3, 9, .ref bh)] [(ey_, 177, 40, ca 1, fl_12), (ea_, 172, 40, ca 1, fe_12), (sa_, 171, 40, ca 1, fb_12), (tx_, 173, 1500, ca 1, ft), (cc_, 176, 40, ca 1, fc)] [(jFkd, jKD dC dI ca G0 (some r0) kq), ([(3, 0), (3, 1), (3, 2), (3, 3), (3, 4), (3, 5), (3, 6), (3, 7), (3, 8), (3, 9), (3, 10), (3, 11), (3, 12), (3, 13), (3, 14), (3, 15), (3, 16)], jOw (dC, dI) G0 3 r0 s.heap), (jFdo, jDcc dC dI ca G0 (some r0) ph)] H_12 locs_12 → (0 ≤ v3_12.toInt ∧ v3_12.toInt ≤ 40 ∧ 0 ≤ v2_12.toInt ∧ v2_12.toInt ≤ pl.toInt ∧ ws_12.toInt = v3_12.toInt ∧ jSn fb_12 fe_12 v3_12.toInt pl.toInt ∧ (v3_12.toInt = 0 ∨ jSo fe_12 (v3_12.toInt - 1) ≤ v2_12.toInt) ∧ jPz ft pl.toInt kf v2_12.toInt v3_12.toInt ∧ pl.toInt - v2_12.toInt + 1 < kf ∧ jcQ ft pl.toInt fb_12 fe_12 fl_12 v3_12.toInt ∧ v2_12.toInt = jcB ft pl.toInt (v3_12.toInt).toNat) → (40 - v3_12.toInt : Int) < N → ∀ ls : Array Slot, lv_has ls 5 [(0, .ref r0), (1, .ref r1), (2, .int v2_12), (3, .int v3_12)] → W p l e R s m ([.ref r0, .ref r1] : List Value).toArray below meth c H_12 locs_12 0 0 Q (F0 m 13 ls []) := by
    intro N
    induction N with
    | zero => intro v2_12 v3_12 ws_12 fb_12 fe_12 fl_12 kf H_12 locs_12 hh_12  hi_12 hm; exact absurd hm (by omega)
    | succ N L13 =>
      intro v2_12 v3_12 ws_12 fb_12 fe_12 fl_12 kf H_12 locs_12 hh_12  hi_12 hm_12 ls hl
      obtain ⟨hi_12_0, hi_12_1, hi_12_2, hi_12_3, hi_12_4, hi_12_5, hi_12_6, hi_12_7, hi_12_8, hi_12_9, hi_12_10⟩ := hi_12
      refine lv_iload_n hx hb dX1_part_13 rfl (lv_at hl 3 rfl) ?_
      refine lv_bipush (v := 40) hx hb dX1_part_14 (by decide) ?_
      refine lv_icmp_ge (tgt := 101) hx hb dX1_part_16 (by decide) (fun c_13 => ?_) (fun c_13 => ?_)
      · skip
        have c_13' : v3_12.toInt ≥ 40 := jb_ge (rfl) ((by decide)) c_13
        refine lv_iload_n hx hb dX1_part_101 rfl (lv_at hl 2 rfl) ?_
        refine lv_aload_n hx hb dX1_part_102 rfl (lv_at hl 0 rfl) ?_
        refine j7_read hx hb hown hK (C := RX1) (T := TX1) (N := 17) rfl hly_3_3 hlk_42 (hh_12.at 1 rfl) dX1_part_103 ?_
        refine lv_icmp_ge (tgt := 137) hx hb dX1_part_106 (by decide) (fun c_14 => ?_) (fun c_14 => ?_)
        · skip
          have c_14' : v2_12.toInt ≥ pl.toInt := jb_ge (rfl) (rfl) c_14
          obtain ⟨hP9, hF9⟩ := hi_12_9.fin (by by_cases q9 : v3_12.toInt < 40; exact Or.inl q9; exact Or.inr ⟨by omega, by rw [show (40 : Nat) = v3_12.toInt.toNat by omega, ← hi_12_10]; omega⟩)
          refine lv_iconst (v := 0) hx hb dX1_part_137 (by decide) ?_
          refine lv_istore_n (lv' := [(3, .int 0), (0, .ref r0), (1, .ref r1), (2, .int v2_12)]) hx hb dX1_part_138 rfl hl (by decide) rfl (fun ls hl => ?_)
          have L139 : ∀ (N : Nat) (v3_15 : Int32) (fc_15 : Nat → Int32) (H_15 : Heap) (locs_15 : List Loc), jSt (dC, dI) B base G0 G0 EX1_partK s.heap 0 0 [(r0, 3, 4, .int ws_12), (r0, 3, 3, .int pl), (r0, 3, 5, .ref sa_), (r0, 3, 6, .ref ea_), (r0, 3, 2, .ref tx_), (r0, 3, 8, .ref ey_), (r0, 3, 7, .ref cc_), (r0, 3, 9, .ref bh)] [(cc_, 176, 40, ca 1, fc_15), (ey_, 177, 40, ca 1, fl_12), (ea_, 172, 40, ca 1, fe_12), (sa_, 171, 40, ca 1, fb_12), (tx_, 173, 1500, ca 1, ft)] [(jFkd, jKD dC dI ca G0 (some r0) kq), ([(3, 0), (3, 1), (3, 2), (3, 3), (3, 4), (3, 5), (3, 6), (3, 7), (3, 8), (3, 9), (3, 10), (3, 11), (3, 12), (3, 13), (3, 14), (3, 15), (3, 16)], jOw (dC, dI) G0 3 r0 s.heap), (jFdo, jDcc dC dI ca G0 (some r0) ph)] H_15 locs_15 → (0 ≤ v3_15.toInt ∧ v3_15.toInt ≤ ws_12.toInt ∧ jcPc ft pl.toInt fc_15 v3_15.toInt) → (ws_12.toInt - v3_15.toInt : Int) < N → ∀ ls : Array Slot, lv_has ls 5 [(0, .ref r0), (1, .ref r1), (2, .int v2_12), (3, .int v3_15)] → W p l e R s m ([.ref r0, .ref r1] : List Value).toArray below meth c H_15 locs_15 0 0 Q (F0 m 139 ls []) := by
            intro N
            induction N with
            | zero => intro v3_15 fc_15 H_15 locs_15 hh_15  hi_15 hm; exact absurd hm (by omega)
            | succ N L139 =>
              intro v3_15 fc_15 H_15 locs_15 hh_15  hi_15 hm_15 ls hl
              obtain ⟨hi_15_0, hi_15_1, hi_15_2⟩ := hi_15
              refine lv_iload_n hx hb dX1_part_139 rfl (lv_at hl 3 rfl) ?_
              refine lv_aload_n hx hb dX1_part_140 rfl (lv_at hl 0 rfl) ?_
              refine j7_read hx hb hown hK (C := RX1) (T := TX1) (N := 17) rfl hly_3_4 hlk_69 (hh_15.at 0 rfl) dX1_part_141 ?_
              refine lv_icmp_ge (tgt := 194) hx hb dX1_part_144 (by decide) (fun c_16 => ?_) (fun c_16 => ?_)
              · skip
                have c_16' : v3_15.toInt ≥ ws_12.toInt := jb_ge (rfl) (rfl) c_16
                rw [hQ]
                exact W.vret hx hb hr (fun t ht hW => ⟨⟨(ws_12, fb_12, fe_12, fl_12, fc_15), rfl, by (try dsimp only); refine ⟨by omega, by omega, ?_, ?_, ?_, ?_⟩; exact jSn.ce hi_12_5 (by omega); (have h9 := hi_12_7.end (by omega) (by omega); omega); (rw [show (ws_12.toInt) = v3_12.toInt by omega]; exact hP9); (rw [show (ws_12.toInt) = v3_15.toInt by omega]; exact hi_15_2), ⟨⟨⟨hh_15.rt (M1 := [(r0, 3, 4, .int ws_12)]) [0] rfl ht, by rw [ht]; exact hh_15.2.2.2.2.2.2.2.1.sub [3, 2, 1, 0] rfl⟩, by rw [ht]; exact hh_15.iv 1 rfl⟩, by rw [ht]; exact hh_15.2.2.2.2.2.2.2.2.sub (L1 := [(jFdo, jDcc dC dI ca G0 (some r0) ph), (jFkd, jKD dC dI ca G0 (some r0) kq)]) [2, 0] rfl⟩⟩, by rw [ht]; try exact hh_15.1.1, fun q h9 hq => by rw [ht]; try exact hh_15.1.2.1 q h9 hq⟩) hh_15.1.2.2 dX1_part_194
              · skip
                have c_16' : v3_15.toInt < ws_12.toInt := jb_ge_n (rfl) (rfl) c_16
                obtain ⟨t1, t2, t3⟩ := hP9 v3_15.toInt.toNat (by omega)
                have hf9 := hF9 v3_15.toInt.toNat (by omega)
                rw [show ((v3_15.toInt.toNat : Nat) : Int) = v3_15.toInt by omega] at t1 t2 hf9
                have hce := jcE.rg t3
                have hcb := jcB.nn (f := ft) (n := pl.toInt) (by omega) v3_15.toInt.toNat
                refine lv_aload_n hx hb dX1_part_147 rfl (lv_at hl 0 rfl) ?_
                refine j7_read hx hb hown hK (C := RX1) (T := TX1) (N := 17) rfl hly_3_7 hlk_24 (hh_15.at 6 rfl) dX1_part_148 ?_
                refine lv_iload_n hx hb dX1_part_151 rfl (lv_at hl 3 rfl) ?_
                refine lv_iconst (v := 3) hx hb dX1_part_152 (by decide) ?_
                refine lv_aload_n hx hb dX1_part_153 rfl (lv_at hl 0 rfl) ?_
                refine j7_read hx hb hown hK (C := RX1) (T := TX1) (N := 17) rfl hly_3_8 hlk_27 (hh_15.at 5 rfl) dX1_part_154 ?_
                refine lv_iload_n hx hb dX1_part_157 rfl (lv_at hl 3 rfl) ?_
                refine j7_ialdM hx hb hK hh_15 hB177 1 rfl (by decide) hg_ey_ (x := v3_15.toInt) (rfl) (by omega) (j := 1) rfl dX1_part_158 (fun z_17 ez_17 (hz_17 : True) => ?_)
                have hqz_17 : z_17.toInt = jSo fl_12 (v3_15.toInt) := by unfold jSo; rw [ez_17]
                refine lv_if_le (tgt := 166) hx hb dX1_part_159 (by decide) (fun c_18 => ?_) (fun c_18 => ?_)
                · skip
                  have c_18' : z_17.toInt ≤ 0 := jb_le (rfl) ((by decide)) c_18
                  refine lv_aload_n hx hb dX1_part_166 rfl (lv_at hl 1 rfl) ?_
                  refine lv_aload_n hx hb dX1_part_167 rfl (lv_at hl 0 rfl) ?_
                  refine j7_read hx hb hown hK (C := RX1) (T := TX1) (N := 17) rfl hly_3_2 hlk_15 (hh_15.at 4 rfl) dX1_part_168 ?_
                  refine lv_aload_n hx hb dX1_part_171 rfl (lv_at hl 0 rfl) ?_
                  refine j7_read hx hb hown hK (C := RX1) (T := TX1) (N := 17) rfl hly_3_5 hlk_18 (hh_15.at 2 rfl) dX1_part_172 ?_
                  refine lv_iload_n hx hb dX1_part_175 rfl (lv_at hl 3 rfl) ?_
                  refine j7_ialdM hx hb hK hh_15 hB171 1 rfl (by decide) hg_sa_ (x := v3_15.toInt) (rfl) (by omega) (j := 3) rfl dX1_part_176 (fun z_19 ez_19 (hz_19 : 0 ≤ z_19.toInt ∧ z_19.toInt ≤ 1500) => ?_)
                  have hqz_19 : z_19.toInt = jSo fb_12 (v3_15.toInt) := by unfold jSo; rw [ez_19]
                  refine lv_aload_n hx hb dX1_part_177 rfl (lv_at hl 0 rfl) ?_
                  refine j7_read hx hb hown hK (C := RX1) (T := TX1) (N := 17) rfl hly_3_6 hlk_21 (hh_15.at 3 rfl) dX1_part_178 ?_
                  refine lv_iload_n hx hb dX1_part_181 rfl (lv_at hl 3 rfl) ?_
                  refine j7_ialdM hx hb hK hh_15 hB172 1 rfl (by decide) hg_ea_ (x := v3_15.toInt) (rfl) (by omega) (j := 2) rfl dX1_part_182 (fun z_20 ez_20 (hz_20 : 0 ≤ z_20.toInt ∧ z_20.toInt ≤ 1500) => ?_)
                  have hqz_20 : z_20.toInt = jSo fe_12 (v3_15.toInt) := by unfold jSo; rw [ez_20]
                  refine va_calli (A0 := jA base) (H0 := s.heap) (va_runV (As := [.ref tx_, .int z_19, .int z_20]) (rest := [.int 3, .int v3_15, .ref cc_]) ⟨hx, hb, hml, hown, hts⟩ (uX10_scanT l dC dI ca base B hB hAp hB8 hB12 hB101 hB102 hB132 hB133 hB173 hB293 G0 H_15 r1 tx_ z_19 z_20 1500 pl.toInt ft) (cwV 3 hts (jgV (jWr_36 _ (List.mem_of_getElem? (i := 19) rfl)) (jWr_36 _ (List.mem_of_getElem? (i := 20) rfl)) (jWr_36 _ (List.mem_of_getElem? (i := 21) rfl)) (jWr_4 _ (List.mem_of_getElem? (i := 14) rfl)) (jWr_36 _ (List.mem_of_getElem? (i := 22) rfl))) rfl rfl rfl (by decide +kernel) ⟨by rw [← hR]; exact Nat.le_of_ble_eq_true rfl, by rw [← hR]; exact Nat.le_of_ble_eq_true rfl⟩) ⟨fun a U g mk q => by obtain ⟨q0, q1, q2, qK, q10, q11, q12, q13, q14⟩ := q; exact ⟨q0, q1, q2, jG.calling g mk a qK, q10, q11, q12, q13, q14⟩, hh_15.recv (C := RX10) (T := TX10) (N := 11) hB12 rfl (by decide) hg_r1 hK, fun U hU hW => ⟨rfl, hU, hh_15.2.1, hG.step hW hU hh_15.1, hg_r1, hg_tx_, jP.nil, (hh_15.2.2.2.2.2.2.2.1.sub (L1 := [(tx_, 173, 1500, ca 1, ft)]) [4] rfl), ⟨(by first | omega | rfl | assumption | (rw [hqz_19, hqz_20, t1, t2]; exact jcV.fl (by rw [← hf9, ← hqz_17]; omega)) | (have h9 := hqz_19; have h8 := hqz_20; omega)), (by first | omega | rfl | assumption | (rw [hqz_19, hqz_20, t1, t2]; exact jcV.fl (by rw [← hf9, ← hqz_17]; omega)) | (have h9 := hqz_19; have h8 := hqz_20; omega)), (by first | omega | rfl | assumption | (rw [hqz_19, hqz_20, t1, t2]; exact jcV.fl (by rw [← hf9, ← hqz_17]; omega)) | (have h9 := hqz_19; have h8 := hqz_20; omega)), (by first | omega | rfl | assumption | (rw [hqz_19, hqz_20, t1, t2]; exact jcV.fl (by rw [← hf9, ← hqz_17]; omega)) | (have h9 := hqz_19; have h8 := hqz_20; omega)), (by first | omega | rfl | assumption | (rw [hqz_19, hqz_20, t1, t2]; exact jcV.fl (by rw [← hf9, ← hqz_17]; omega)) | (have h9 := hqz_19; have h8 := hqz_20; omega)), (by first | omega | rfl | assumption | (rw [hqz_19, hqz_20, t1, t2]; exact jcV.fl (by rw [← hf9, ← hqz_17]; omega)) | (have h9 := hqz_19; have h8 := hqz_20; omega)), (by first | assumption | (rw [hqz_19, hqz_20, t1, t2]; exact jcV.fl (by rw [← hf9, ← hqz_17]; omega)) | (have h9 := hqz_19; have h8 := hqz_20; omega) | omega)⟩⟩⟩ rfl rfl hl.1 rfl (lv_room (Nat.le_of_ble_eq_true rfl)) dX1_part_183 ⟨Nat.zero_le _, Nat.zero_le _⟩) hh_15.1 (fun q _ h => h) (fun q h => h) (fun r_22 u_21 t_21 H_21 locs_21 ht_21 hvm_21 hr_22 hb_21 hz_21 hk_21 hS_21 => ?_)
                  rw [ht_21] at hb_21
                  obtain ⟨hb_211, hb_212, hb_213, hb_214, hb_215⟩ := hb_21
                  have hh_21 : jSt (dC, dI) B base G0 G0 EX1_partK s.heap 0 0 [(r0, 3, 4, .int ws_12), (r0, 3, 3, .int pl), (r0, 3, 5, .ref sa_), (r0, 3, 6, .ref ea_), (r0, 3, 2, .ref tx_), (r0, 3, 8, .ref ey_), (r0, 3, 7, .ref cc_), (r0, 3, 9, .ref bh)] [(cc_, 176, 40, ca 1, fc_15), (ey_, 177, 40, ca 1, fl_12), (ea_, 172, 40, ca 1, fe_12), (sa_, 171, 40, ca 1, fb_12), (tx_, 173, 1500, ca 1, ft)] [(jFkd, jKD dC dI ca G0 (some r0) kq), ([(3, 0), (3, 1), (3, 2), (3, 3), (3, 4), (3, 5), (3, 6), (3, 7), (3, 8), (3, 9), (3, 10), (3, 11), (3, 12), (3, 13), (3, 14), (3, 15), (3, 16)], jOw (dC, dI) G0 3 r0 s.heap), (jFdo, jDcc dC dI ca G0 (some r0) ph)] H_21 locs_21 := ((hh_15.call hb_211 hb_212 hb_213 hb_214 hS_21 rfl (L1 := [(r0, 3, 4, .int ws_12), (r0, 3, 3, .int pl), (r0, 3, 5, .ref sa_), (r0, 3, 6, .ref ea_), (r0, 3, 2, .ref tx_), (r0, 3, 8, .ref ey_), (r0, 3, 7, .ref cc_), (r0, 3, 9, .ref bh)]) [0, 1, 2, 3, 4, 5, 6, 7] rfl rfl (M1 := [(cc_, 176, 40, ca 1, fc_15), (ey_, 177, 40, ca 1, fl_12), (ea_, 172, 40, ca 1, fe_12), (sa_, 171, 40, ca 1, fb_12), (tx_, 173, 1500, ca 1, ft)]) [0, 1, 2, 3, 4] rfl rfl (I1 := [(jFkd, jKD dC dI ca G0 (some r0) kq), ([(3, 0), (3, 1), (3, 2), (3, 3), (3, 4), (3, 5), (3, 6), (3, 7), (3, 8), (3, 9), (3, 10), (3, 11), (3, 12), (3, 13), (3, 14), (3, 15), (3, 16)], jOw (dC, dI) G0 3 r0 s.heap), (jFdo, jDcc dC dI ca G0 (some r0) ph)]) [0, 1, 2] rfl rfl).more hb_215)
                  clear hh_15 ht_21 hvm_21 hz_21 hk_21 hS_21 hb_211 hb_212 hb_213 hb_214 hb_215
                  obtain ⟨hr_22_0, hr_22_1, hr_22_2⟩ := hr_22
                  refine lv_iadd hx hb dX1_part_186 ?_
                  refine lv_topi (fun z_23 ez_23 => ?_)
                  have hz_23 : z_23.toInt = 3 + r_22.toInt := by rw [ez_23]; exact jb_iadd2 ((by decide)) (rfl) (by omega)
                  have hd_25 := hh_21.iv 0 rfl
                  have hd_25f := hh_21.at 6 rfl
                  have hh_26 := hh_21.sub (L1 := [(r0, 3, 4, .int ws_12), (r0, 3, 3, .int pl), (r0, 3, 5, .ref sa_), (r0, 3, 6, .ref ea_), (r0, 3, 2, .ref tx_), (r0, 3, 8, .ref ey_), (r0, 3, 7, .ref cc_), (r0, 3, 9, .ref bh)]) [0, 1, 2, 3, 4, 5, 6, 7] rfl (M1 := [(cc_, 176, 40, ca 1, fc_15), (ey_, 177, 40, ca 1, fl_12), (ea_, 172, 40, ca 1, fe_12), (sa_, 171, 40, ca 1, fb_12), (tx_, 173, 1500, ca 1, ft)]) [0, 1, 2, 3, 4] rfl (I1 := [([(3, 0), (3, 1), (3, 2), (3, 3), (3, 4), (3, 5), (3, 6), (3, 7), (3, 8), (3, 9), (3, 10), (3, 11), (3, 12), (3, 13), (3, 14), (3, 15), (3, 16)], jOw (dC, dI) G0 3 r0 s.heap), (jFdo, jDcc dC dI ca G0 (some r0) ph)]) [1, 2] rfl
                  clear hh_21
                  refine j7_iastX hx hb hK hh_26 hB hB176 1 rfl (by decide) (by decide) rfl 0 rfl (M1 := [(ey_, 177, 40, ca 1, fl_12), (ea_, 172, 40, ca 1, fe_12), (sa_, 171, 40, ca 1, fb_12), (tx_, 173, 1500, ca 1, ft)]) [1, 2, 3, 4] rfl rfl rfl hg_cc_ (x := v3_15.toInt) (rfl) (by omega) (trivial) dX1_part_187 (fun H_24 locs_24 fs_27 hv_24 ho_24 hr_24 hh_24 => ?_)
                  have hv_24 : jSo fs_27 (v3_15.toInt) = z_23.toInt := by unfold jSo; rw [hv_24]; try exact rfl
                  clear hh_26
                  have hd_25n := jKD.a7 hd_25 hg_r0 hg_cc_ hd_25f hr_24
                  have hh_28 := hh_24.addI (jKD.ie hd_25n)
                  clear hh_24
                  clear hd_25 hd_25f hd_25n hr_24
                  obtain ⟨z_29, ez_29⟩ : ∃ y : Int32, y = v3_15 + 1 := ⟨_, rfl⟩
                  refine lv_iinc (v := z_29) (lv' := [(3, .int z_29), (0, .ref r0), (1, .ref r1), (2, .int v2_12)]) hx hb dX1_part_188 hl (k := 3) rfl (by rw [ez_29]; rfl) (by decide) rfl (fun ls hl => ?_)
                  have hz_29 : z_29.toInt = v3_15.toInt + 1 := by rw [ez_29]; exact jb_iadd2 (rfl) (by decide) (by omega)
                  refine lv_goto (tgt := 139) hx hb dX1_part_191 (by decide) ?_
                  exact L139 z_29 fs_27 _ _ hh_28 (⟨by omega, by omega, hi_15_2.app (jUpd.mk (n := 40) hv_24 ho_24 rfl (by omega)) (by omega) (by omega) (jcC.t (t := r_22.toInt) (by rw [← hf9, ← hqz_17]; omega) (by have h9 := hr_22_0; rw [hqz_19, hqz_20, t1, t2] at h9; exact h9) (by omega)) (by omega)⟩) (by omega) _ (lv_sub hl [1, 2, 3, 0] rfl)
                · skip
                  have c_18' : z_17.toInt > 0 := jb_le_n (rfl) ((by decide)) c_18
                  refine lv_iconst (v := 1) hx hb dX1_part_162 (by decide) ?_
                  refine lv_goto (tgt := 186) hx hb dX1_part_163 (by decide) ?_
                  refine lv_iadd hx hb dX1_part_186 ?_
                  refine lv_topi (fun z_30 ez_30 => ?_)
                  have hz_30 : z_30.toInt = 3 + 1 := by rw [ez_30]; exact jb_iadd2 ((by decide)) ((by decide)) (by omega)
                  have hd_32 := hh_15.iv 0 rfl
                  have hd_32f := hh_15.at 6 rfl
                  have hh_33 := hh_15.sub (L1 := [(r0, 3, 4, .int ws_12), (r0, 3, 3, .int pl), (r0, 3, 5, .ref sa_), (r0, 3, 6, .ref ea_), (r0, 3, 2, .ref tx_), (r0, 3, 8, .ref ey_), (r0, 3, 7, .ref cc_), (r0, 3, 9, .ref bh)]) [0, 1, 2, 3, 4, 5, 6, 7] rfl (M1 := [(cc_, 176, 40, ca 1, fc_15), (ey_, 177, 40, ca 1, fl_12), (ea_, 172, 40, ca 1, fe_12), (sa_, 171, 40, ca 1, fb_12), (tx_, 173, 1500, ca 1, ft)]) [0, 1, 2, 3, 4] rfl (I1 := [([(3, 0), (3, 1), (3, 2), (3, 3), (3, 4), (3, 5), (3, 6), (3, 7), (3, 8), (3, 9), (3, 10), (3, 11), (3, 12), (3, 13), (3, 14), (3, 15), (3, 16)], jOw (dC, dI) G0 3 r0 s.heap), (jFdo, jDcc dC dI ca G0 (some r0) ph)]) [1, 2] rfl
                  clear hh_15
                  refine j7_iastX hx hb hK hh_33 hB hB176 1 rfl (by decide) (by decide) rfl 0 rfl (M1 := [(ey_, 177, 40, ca 1, fl_12), (ea_, 172, 40, ca 1, fe_12), (sa_, 171, 40, ca 1, fb_12), (tx_, 173, 1500, ca 1, ft)]) [1, 2, 3, 4] rfl rfl rfl hg_cc_ (x := v3_15.toInt) (rfl) (by omega) (trivial) dX1_part_187 (fun H_31 locs_31 fs_34 hv_31 ho_31 hr_31 hh_31 => ?_)
                  have hv_31 : jSo fs_34 (v3_15.toInt) = z_30.toInt := by unfold jSo; rw [hv_31]; try exact rfl
                  clear hh_33
                  have hd_32n := jKD.a7 hd_32 hg_r0 hg_cc_ hd_32f hr_31
                  have hh_35 := hh_31.addI (jKD.ie hd_32n)
                  clear hh_31
                  clear hd_32 hd_32f hd_32n hr_31
                  obtain ⟨z_36, ez_36⟩ : ∃ y : Int32, y = v3_15 + 1 := ⟨_, rfl⟩
                  refine lv_iinc (v := z_36) (lv' := [(3, .int z_36), (0, .ref r0), (1, .ref r1), (2, .int v2_12)]) hx hb dX1_part_188 hl (k := 3) rfl (by rw [ez_36]; rfl) (by decide) rfl (fun ls hl => ?_)
                  have hz_36 : z_36.toInt = v3_15.toInt + 1 := by rw [ez_36]; exact jb_iadd2 (rfl) (by decide) (by omega)
                  refine lv_goto (tgt := 139) hx hb dX1_part_191 (by decide) ?_
                  exact L139 z_36 fs_34 _ _ hh_35 (⟨by omega, by omega, hi_15_2.app (jUpd.mk (n := 40) hv_31 ho_31 rfl (by omega)) (by omega) (by omega) (jcC.f (by rw [← hf9, ← hqz_17]; omega) (by omega)) (by omega)⟩) (by omega) _ (lv_sub hl [1, 2, 3, 0] rfl)
          exact L139 (ws_12.toInt - (0 : Int32).toInt : Int).toNat.succ 0 fc _ _ (hh_12.sub (L1 := [(r0, 3, 4, .int ws_12), (r0, 3, 3, .int pl), (r0, 3, 5, .ref sa_), (r0, 3, 6, .ref ea_), (r0, 3, 2, .ref tx_), (r0, 3, 8, .ref ey_), (r0, 3, 7, .ref cc_), (r0, 3, 9, .ref bh)]) [0, 1, 2, 3, 4, 5, 6, 7] rfl (M1 := [(cc_, 176, 40, ca 1, fc), (ey_, 177, 40, ca 1, fl_12), (ea_, 172, 40, ca 1, fe_12), (sa_, 171, 40, ca 1, fb_12), (tx_, 173, 1500, ca 1, ft)]) [4, 0, 1, 2, 3] rfl (I1 := [(jFkd, jKD dC dI ca G0 (some r0) kq), ([(3, 0), (3, 1), (3, 2), (3, 3), (3, 4), (3, 5), (3, 6), (3, 7), (3, 8), (3, 9), (3, 10), (3, 11), (3, 12), (3, 13), (3, 14), (3, 15), (3, 16)], jOw (dC, dI) G0 3 r0 s.heap), (jFdo, jDcc dC dI ca G0 (some r0) ph)]) [0, 1, 2] rfl) (⟨by omega, by omega, by rw [hk0]; exact jcPc.nil⟩) (by omega) _ (lv_sub hl [1, 2, 3, 0] rfl)
        · skip
          have c_14' : v2_12.toInt < pl.toInt := jb_ge_n (rfl) (rfl) c_14
          refine lv_aload_n hx hb dX1_part_109 rfl (lv_at hl 0 rfl) ?_
          refine j7_read hx hb hown hK (C := RX1) (T := TX1) (N := 17) rfl hly_3_4 hlk_69 (hh_12.at 0 rfl) dX1_part_110 ?_
          refine lv_bipush (v := 40) hx hb dX1_part_113 (by decide) ?_
          refine lv_icmp_ne (tgt := 137) hx hb dX1_part_115 (by decide) (fun c_37 => ?_) (fun c_37 => ?_)
          · skip
            have c_37' : ws_12.toInt ≠ 40 := jb_ne (rfl) ((by decide)) c_37
            obtain ⟨hP9, hF9⟩ := hi_12_9.fin (by by_cases q9 : v3_12.toInt < 40; exact Or.inl q9; exact Or.inr ⟨by omega, by rw [show (40 : Nat) = v3_12.toInt.toNat by omega, ← hi_12_10]; omega⟩)
            refine lv_iconst (v := 0) hx hb dX1_part_137 (by decide) ?_
            refine lv_istore_n (lv' := [(3, .int 0), (0, .ref r0), (1, .ref r1), (2, .int v2_12)]) hx hb dX1_part_138 rfl hl (by decide) rfl (fun ls hl => ?_)
            have L139 : ∀ (N : Nat) (v3_38 : Int32) (fc_38 : Nat → Int32) (H_38 : Heap) (locs_38 : List Loc), jSt (dC, dI) B base G0 G0 EX1_partK s.heap 0 0 [(r0, 3, 4, .int ws_12), (r0, 3, 3, .int pl), (r0, 3, 5, .ref sa_), (r0, 3, 6, .ref ea_), (r0, 3, 2, .ref tx_), (r0, 3, 8, .ref ey_), (r0, 3, 7, .ref cc_), (r0, 3, 9, .ref bh)] [(cc_, 176, 40, ca 1, fc_38), (ey_, 177, 40, ca 1, fl_12), (ea_, 172, 40, ca 1, fe_12), (sa_, 171, 40, ca 1, fb_12), (tx_, 173, 1500, ca 1, ft)] [(jFkd, jKD dC dI ca G0 (some r0) kq), ([(3, 0), (3, 1), (3, 2), (3, 3), (3, 4), (3, 5), (3, 6), (3, 7), (3, 8), (3, 9), (3, 10), (3, 11), (3, 12), (3, 13), (3, 14), (3, 15), (3, 16)], jOw (dC, dI) G0 3 r0 s.heap), (jFdo, jDcc dC dI ca G0 (some r0) ph)] H_38 locs_38 → (0 ≤ v3_38.toInt ∧ v3_38.toInt ≤ ws_12.toInt ∧ jcPc ft pl.toInt fc_38 v3_38.toInt) → (ws_12.toInt - v3_38.toInt : Int) < N → ∀ ls : Array Slot, lv_has ls 5 [(0, .ref r0), (1, .ref r1), (2, .int v2_12), (3, .int v3_38)] → W p l e R s m ([.ref r0, .ref r1] : List Value).toArray below meth c H_38 locs_38 0 0 Q (F0 m 139 ls []) := by
              intro N
              induction N with
              | zero => intro v3_38 fc_38 H_38 locs_38 hh_38  hi_38 hm; exact absurd hm (by omega)
              | succ N L139 =>
                intro v3_38 fc_38 H_38 locs_38 hh_38  hi_38 hm_38 ls hl
                obtain ⟨hi_38_0, hi_38_1, hi_38_2⟩ := hi_38
                refine lv_iload_n hx hb dX1_part_139 rfl (lv_at hl 3 rfl) ?_
                refine lv_aload_n hx hb dX1_part_140 rfl (lv_at hl 0 rfl) ?_
                refine j7_read hx hb hown hK (C := RX1) (T := TX1) (N := 17) rfl hly_3_4 hlk_69 (hh_38.at 0 rfl) dX1_part_141 ?_
                refine lv_icmp_ge (tgt := 194) hx hb dX1_part_144 (by decide) (fun c_39 => ?_) (fun c_39 => ?_)
                · skip
                  have c_39' : v3_38.toInt ≥ ws_12.toInt := jb_ge (rfl) (rfl) c_39
                  rw [hQ]
                  exact W.vret hx hb hr (fun t ht hW => ⟨⟨(ws_12, fb_12, fe_12, fl_12, fc_38), rfl, by (try dsimp only); refine ⟨by omega, by omega, ?_, ?_, ?_, ?_⟩; exact jSn.ce hi_12_5 (by omega); (have h9 := hi_12_7.end (by omega) (by omega); omega); (rw [show (ws_12.toInt) = v3_12.toInt by omega]; exact hP9); (rw [show (ws_12.toInt) = v3_38.toInt by omega]; exact hi_38_2), ⟨⟨⟨hh_38.rt (M1 := [(r0, 3, 4, .int ws_12)]) [0] rfl ht, by rw [ht]; exact hh_38.2.2.2.2.2.2.2.1.sub [3, 2, 1, 0] rfl⟩, by rw [ht]; exact hh_38.iv 1 rfl⟩, by rw [ht]; exact hh_38.2.2.2.2.2.2.2.2.sub (L1 := [(jFdo, jDcc dC dI ca G0 (some r0) ph), (jFkd, jKD dC dI ca G0 (some r0) kq)]) [2, 0] rfl⟩⟩, by rw [ht]; try exact hh_38.1.1, fun q h9 hq => by rw [ht]; try exact hh_38.1.2.1 q h9 hq⟩) hh_38.1.2.2 dX1_part_194
                · skip
                  have c_39' : v3_38.toInt < ws_12.toInt := jb_ge_n (rfl) (rfl) c_39
                  obtain ⟨t1, t2, t3⟩ := hP9 v3_38.toInt.toNat (by omega)
                  have hf9 := hF9 v3_38.toInt.toNat (by omega)
                  rw [show ((v3_38.toInt.toNat : Nat) : Int) = v3_38.toInt by omega] at t1 t2 hf9
                  have hce := jcE.rg t3
                  have hcb := jcB.nn (f := ft) (n := pl.toInt) (by omega) v3_38.toInt.toNat
                  refine lv_aload_n hx hb dX1_part_147 rfl (lv_at hl 0 rfl) ?_
                  refine j7_read hx hb hown hK (C := RX1) (T := TX1) (N := 17) rfl hly_3_7 hlk_24 (hh_38.at 6 rfl) dX1_part_148 ?_
                  refine lv_iload_n hx hb dX1_part_151 rfl (lv_at hl 3 rfl) ?_
                  refine lv_iconst (v := 3) hx hb dX1_part_152 (by decide) ?_
                  refine lv_aload_n hx hb dX1_part_153 rfl (lv_at hl 0 rfl) ?_
                  refine j7_read hx hb hown hK (C := RX1) (T := TX1) (N := 17) rfl hly_3_8 hlk_27 (hh_38.at 5 rfl) dX1_part_154 ?_
                  refine lv_iload_n hx hb dX1_part_157 rfl (lv_at hl 3 rfl) ?_
                  refine j7_ialdM hx hb hK hh_38 hB177 1 rfl (by decide) hg_ey_ (x := v3_38.toInt) (rfl) (by omega) (j := 1) rfl dX1_part_158 (fun z_40 ez_40 (hz_40 : True) => ?_)
                  have hqz_40 : z_40.toInt = jSo fl_12 (v3_38.toInt) := by unfold jSo; rw [ez_40]
                  refine lv_if_le (tgt := 166) hx hb dX1_part_159 (by decide) (fun c_41 => ?_) (fun c_41 => ?_)
                  · skip
                    have c_41' : z_40.toInt ≤ 0 := jb_le (rfl) ((by decide)) c_41
                    refine lv_aload_n hx hb dX1_part_166 rfl (lv_at hl 1 rfl) ?_
                    refine lv_aload_n hx hb dX1_part_167 rfl (lv_at hl 0 rfl) ?_
                    refine j7_read hx hb hown hK (C := RX1) (T := TX1) (N := 17) rfl hly_3_2 hlk_15 (hh_38.at 4 rfl) dX1_part_168 ?_
                    refine lv_aload_n hx hb dX1_part_171 rfl (lv_at hl 0 rfl) ?_
                    refine j7_read hx hb hown hK (C := RX1) (T := TX1) (N := 17) rfl hly_3_5 hlk_18 (hh_38.at 2 rfl) dX1_part_172 ?_
                    refine lv_iload_n hx hb dX1_part_175 rfl (lv_at hl 3 rfl) ?_
                    refine j7_ialdM hx hb hK hh_38 hB171 1 rfl (by decide) hg_sa_ (x := v3_38.toInt) (rfl) (by omega) (j := 3) rfl dX1_part_176 (fun z_42 ez_42 (hz_42 : 0 ≤ z_42.toInt ∧ z_42.toInt ≤ 1500) => ?_)
                    have hqz_42 : z_42.toInt = jSo fb_12 (v3_38.toInt) := by unfold jSo; rw [ez_42]
                    refine lv_aload_n hx hb dX1_part_177 rfl (lv_at hl 0 rfl) ?_
                    refine j7_read hx hb hown hK (C := RX1) (T := TX1) (N := 17) rfl hly_3_6 hlk_21 (hh_38.at 3 rfl) dX1_part_178 ?_
                    refine lv_iload_n hx hb dX1_part_181 rfl (lv_at hl 3 rfl) ?_
                    refine j7_ialdM hx hb hK hh_38 hB172 1 rfl (by decide) hg_ea_ (x := v3_38.toInt) (rfl) (by omega) (j := 2) rfl dX1_part_182 (fun z_43 ez_43 (hz_43 : 0 ≤ z_43.toInt ∧ z_43.toInt ≤ 1500) => ?_)
                    have hqz_43 : z_43.toInt = jSo fe_12 (v3_38.toInt) := by unfold jSo; rw [ez_43]
                    refine va_calli (A0 := jA base) (H0 := s.heap) (va_runV (As := [.ref tx_, .int z_42, .int z_43]) (rest := [.int 3, .int v3_38, .ref cc_]) ⟨hx, hb, hml, hown, hts⟩ (uX10_scanT l dC dI ca base B hB hAp hB8 hB12 hB101 hB102 hB132 hB133 hB173 hB293 G0 H_38 r1 tx_ z_42 z_43 1500 pl.toInt ft) (cwV 3 hts (jgV (jWr_36 _ (List.mem_of_getElem? (i := 19) rfl)) (jWr_36 _ (List.mem_of_getElem? (i := 20) rfl)) (jWr_36 _ (List.mem_of_getElem? (i := 21) rfl)) (jWr_4 _ (List.mem_of_getElem? (i := 14) rfl)) (jWr_36 _ (List.mem_of_getElem? (i := 22) rfl))) rfl rfl rfl (by decide +kernel) ⟨by rw [← hR]; exact Nat.le_of_ble_eq_true rfl, by rw [← hR]; exact Nat.le_of_ble_eq_true rfl⟩) ⟨fun a U g mk q => by obtain ⟨q0, q1, q2, qK, q10, q11, q12, q13, q14⟩ := q; exact ⟨q0, q1, q2, jG.calling g mk a qK, q10, q11, q12, q13, q14⟩, hh_38.recv (C := RX10) (T := TX10) (N := 11) hB12 rfl (by decide) hg_r1 hK, fun U hU hW => ⟨rfl, hU, hh_38.2.1, hG.step hW hU hh_38.1, hg_r1, hg_tx_, jP.nil, (hh_38.2.2.2.2.2.2.2.1.sub (L1 := [(tx_, 173, 1500, ca 1, ft)]) [4] rfl), ⟨(by first | omega | rfl | assumption | (rw [hqz_42, hqz_43, t1, t2]; exact jcV.fl (by rw [← hf9, ← hqz_40]; omega)) | (have h9 := hqz_42; have h8 := hqz_43; omega)), (by first | omega | rfl | assumption | (rw [hqz_42, hqz_43, t1, t2]; exact jcV.fl (by rw [← hf9, ← hqz_40]; omega)) | (have h9 := hqz_42; have h8 := hqz_43; omega)), (by first | omega | rfl | assumption | (rw [hqz_42, hqz_43, t1, t2]; exact jcV.fl (by rw [← hf9, ← hqz_40]; omega)) | (have h9 := hqz_42; have h8 := hqz_43; omega)), (by first | omega | rfl | assumption | (rw [hqz_42, hqz_43, t1, t2]; exact jcV.fl (by rw [← hf9, ← hqz_40]; omega)) | (have h9 := hqz_42; have h8 := hqz_43; omega)), (by first | omega | rfl | assumption | (rw [hqz_42, hqz_43, t1, t2]; exact jcV.fl (by rw [← hf9, ← hqz_40]; omega)) | (have h9 := hqz_42; have h8 := hqz_43; omega)), (by first | omega | rfl | assumption | (rw [hqz_42, hqz_43, t1, t2]; exact jcV.fl (by rw [← hf9, ← hqz_40]; omega)) | (have h9 := hqz_42; have h8 := hqz_43; omega)), (by first | assumption | (rw [hqz_42, hqz_43, t1, t2]; exact jcV.fl (by rw [← hf9, ← hqz_40]; omega)) | (have h9 := hqz_42; have h8 := hqz_43; omega) | omega)⟩⟩⟩ rfl rfl hl.1 rfl (lv_room (Nat.le_of_ble_eq_true rfl)) dX1_part_183 ⟨Nat.zero_le _, Nat.zero_le _⟩) hh_38.1 (fun q _ h => h) (fun q h => h) (fun r_45 u_44 t_44 H_44 locs_44 ht_44 hvm_44 hr_45 hb_44 hz_44 hk_44 hS_44 => ?_)
                    rw [ht_44] at hb_44
                    obtain ⟨hb_441, hb_442, hb_443, hb_444, hb_445⟩ := hb_44
                    have hh_44 : jSt (dC, dI) B base G0 G0 EX1_partK s.heap 0 0 [(r0, 3, 4, .int ws_12), (r0, 3, 3, .int pl), (r0, 3, 5, .ref sa_), (r0, 3, 6, .ref ea_), (r0, 3, 2, .ref tx_), (r0, 3, 8, .ref ey_), (r0, 3, 7, .ref cc_), (r0, 3, 9, .ref bh)] [(cc_, 176, 40, ca 1, fc_38), (ey_, 177, 40, ca 1, fl_12), (ea_, 172, 40, ca 1, fe_12), (sa_, 171, 40, ca 1, fb_12), (tx_, 173, 1500, ca 1, ft)] [(jFkd, jKD dC dI ca G0 (some r0) kq), ([(3, 0), (3, 1), (3, 2), (3, 3), (3, 4), (3, 5), (3, 6), (3, 7), (3, 8), (3, 9), (3, 10), (3, 11), (3, 12), (3, 13), (3, 14), (3, 15), (3, 16)], jOw (dC, dI) G0 3 r0 s.heap), (jFdo, jDcc dC dI ca G0 (some r0) ph)] H_44 locs_44 := ((hh_38.call hb_441 hb_442 hb_443 hb_444 hS_44 rfl (L1 := [(r0, 3, 4, .int ws_12), (r0, 3, 3, .int pl), (r0, 3, 5, .ref sa_), (r0, 3, 6, .ref ea_), (r0, 3, 2, .ref tx_), (r0, 3, 8, .ref ey_), (r0, 3, 7, .ref cc_), (r0, 3, 9, .ref bh)]) [0, 1, 2, 3, 4, 5, 6, 7] rfl rfl (M1 := [(cc_, 176, 40, ca 1, fc_38), (ey_, 177, 40, ca 1, fl_12), (ea_, 172, 40, ca 1, fe_12), (sa_, 171, 40, ca 1, fb_12), (tx_, 173, 1500, ca 1, ft)]) [0, 1, 2, 3, 4] rfl rfl (I1 := [(jFkd, jKD dC dI ca G0 (some r0) kq), ([(3, 0), (3, 1), (3, 2), (3, 3), (3, 4), (3, 5), (3, 6), (3, 7), (3, 8), (3, 9), (3, 10), (3, 11), (3, 12), (3, 13), (3, 14), (3, 15), (3, 16)], jOw (dC, dI) G0 3 r0 s.heap), (jFdo, jDcc dC dI ca G0 (some r0) ph)]) [0, 1, 2] rfl rfl).more hb_445)
                    clear hh_38 ht_44 hvm_44 hz_44 hk_44 hS_44 hb_441 hb_442 hb_443 hb_444 hb_445
                    obtain ⟨hr_45_0, hr_45_1, hr_45_2⟩ := hr_45
                    refine lv_iadd hx hb dX1_part_186 ?_
                    refine lv_topi (fun z_46 ez_46 => ?_)
                    have hz_46 : z_46.toInt = 3 + r_45.toInt := by rw [ez_46]; exact jb_iadd2 ((by decide)) (rfl) (by omega)
                    have hd_48 := hh_44.iv 0 rfl
                    have hd_48f := hh_44.at 6 rfl
                    have hh_49 := hh_44.sub (L1 := [(r0, 3, 4, .int ws_12), (r0, 3, 3, .int pl), (r0, 3, 5, .ref sa_), (r0, 3, 6, .ref ea_), (r0, 3, 2, .ref tx_), (r0, 3, 8, .ref ey_), (r0, 3, 7, .ref cc_), (r0, 3, 9, .ref bh)]) [0, 1, 2, 3, 4, 5, 6, 7] rfl (M1 := [(cc_, 176, 40, ca 1, fc_38), (ey_, 177, 40, ca 1, fl_12), (ea_, 172, 40, ca 1, fe_12), (sa_, 171, 40, ca 1, fb_12), (tx_, 173, 1500, ca 1, ft)]) [0, 1, 2, 3, 4] rfl (I1 := [([(3, 0), (3, 1), (3, 2), (3, 3), (3, 4), (3, 5), (3, 6), (3, 7), (3, 8), (3, 9), (3, 10), (3, 11), (3, 12), (3, 13), (3, 14), (3, 15), (3, 16)], jOw (dC, dI) G0 3 r0 s.heap), (jFdo, jDcc dC dI ca G0 (some r0) ph)]) [1, 2] rfl
                    clear hh_44
                    refine j7_iastX hx hb hK hh_49 hB hB176 1 rfl (by decide) (by decide) rfl 0 rfl (M1 := [(ey_, 177, 40, ca 1, fl_12), (ea_, 172, 40, ca 1, fe_12), (sa_, 171, 40, ca 1, fb_12), (tx_, 173, 1500, ca 1, ft)]) [1, 2, 3, 4] rfl rfl rfl hg_cc_ (x := v3_38.toInt) (rfl) (by omega) (trivial) dX1_part_187 (fun H_47 locs_47 fs_50 hv_47 ho_47 hr_47 hh_47 => ?_)
                    have hv_47 : jSo fs_50 (v3_38.toInt) = z_46.toInt := by unfold jSo; rw [hv_47]; try exact rfl
                    clear hh_49
                    have hd_48n := jKD.a7 hd_48 hg_r0 hg_cc_ hd_48f hr_47
                    have hh_51 := hh_47.addI (jKD.ie hd_48n)
                    clear hh_47
                    clear hd_48 hd_48f hd_48n hr_47
                    obtain ⟨z_52, ez_52⟩ : ∃ y : Int32, y = v3_38 + 1 := ⟨_, rfl⟩
                    refine lv_iinc (v := z_52) (lv' := [(3, .int z_52), (0, .ref r0), (1, .ref r1), (2, .int v2_12)]) hx hb dX1_part_188 hl (k := 3) rfl (by rw [ez_52]; rfl) (by decide) rfl (fun ls hl => ?_)
                    have hz_52 : z_52.toInt = v3_38.toInt + 1 := by rw [ez_52]; exact jb_iadd2 (rfl) (by decide) (by omega)
                    refine lv_goto (tgt := 139) hx hb dX1_part_191 (by decide) ?_
                    exact L139 z_52 fs_50 _ _ hh_51 (⟨by omega, by omega, hi_38_2.app (jUpd.mk (n := 40) hv_47 ho_47 rfl (by omega)) (by omega) (by omega) (jcC.t (t := r_45.toInt) (by rw [← hf9, ← hqz_40]; omega) (by have h9 := hr_45_0; rw [hqz_42, hqz_43, t1, t2] at h9; exact h9) (by omega)) (by omega)⟩) (by omega) _ (lv_sub hl [1, 2, 3, 0] rfl)
                  · skip
                    have c_41' : z_40.toInt > 0 := jb_le_n (rfl) ((by decide)) c_41
                    refine lv_iconst (v := 1) hx hb dX1_part_162 (by decide) ?_
                    refine lv_goto (tgt := 186) hx hb dX1_part_163 (by decide) ?_
                    refine lv_iadd hx hb dX1_part_186 ?_
                    refine lv_topi (fun z_53 ez_53 => ?_)
                    have hz_53 : z_53.toInt = 3 + 1 := by rw [ez_53]; exact jb_iadd2 ((by decide)) ((by decide)) (by omega)
                    have hd_55 := hh_38.iv 0 rfl
                    have hd_55f := hh_38.at 6 rfl
                    have hh_56 := hh_38.sub (L1 := [(r0, 3, 4, .int ws_12), (r0, 3, 3, .int pl), (r0, 3, 5, .ref sa_), (r0, 3, 6, .ref ea_), (r0, 3, 2, .ref tx_), (r0, 3, 8, .ref ey_), (r0, 3, 7, .ref cc_), (r0, 3, 9, .ref bh)]) [0, 1, 2, 3, 4, 5, 6, 7] rfl (M1 := [(cc_, 176, 40, ca 1, fc_38), (ey_, 177, 40, ca 1, fl_12), (ea_, 172, 40, ca 1, fe_12), (sa_, 171, 40, ca 1, fb_12), (tx_, 173, 1500, ca 1, ft)]) [0, 1, 2, 3, 4] rfl (I1 := [([(3, 0), (3, 1), (3, 2), (3, 3), (3, 4), (3, 5), (3, 6), (3, 7), (3, 8), (3, 9), (3, 10), (3, 11), (3, 12), (3, 13), (3, 14), (3, 15), (3, 16)], jOw (dC, dI) G0 3 r0 s.heap), (jFdo, jDcc dC dI ca G0 (some r0) ph)]) [1, 2] rfl
                    clear hh_38
                    refine j7_iastX hx hb hK hh_56 hB hB176 1 rfl (by decide) (by decide) rfl 0 rfl (M1 := [(ey_, 177, 40, ca 1, fl_12), (ea_, 172, 40, ca 1, fe_12), (sa_, 171, 40, ca 1, fb_12), (tx_, 173, 1500, ca 1, ft)]) [1, 2, 3, 4] rfl rfl rfl hg_cc_ (x := v3_38.toInt) (rfl) (by omega) (trivial) dX1_part_187 (fun H_54 locs_54 fs_57 hv_54 ho_54 hr_54 hh_54 => ?_)
                    have hv_54 : jSo fs_57 (v3_38.toInt) = z_53.toInt := by unfold jSo; rw [hv_54]; try exact rfl
                    clear hh_56
                    have hd_55n := jKD.a7 hd_55 hg_r0 hg_cc_ hd_55f hr_54
                    have hh_58 := hh_54.addI (jKD.ie hd_55n)
                    clear hh_54
                    clear hd_55 hd_55f hd_55n hr_54
                    obtain ⟨z_59, ez_59⟩ : ∃ y : Int32, y = v3_38 + 1 := ⟨_, rfl⟩
                    refine lv_iinc (v := z_59) (lv' := [(3, .int z_59), (0, .ref r0), (1, .ref r1), (2, .int v2_12)]) hx hb dX1_part_188 hl (k := 3) rfl (by rw [ez_59]; rfl) (by decide) rfl (fun ls hl => ?_)
                    have hz_59 : z_59.toInt = v3_38.toInt + 1 := by rw [ez_59]; exact jb_iadd2 (rfl) (by decide) (by omega)
                    refine lv_goto (tgt := 139) hx hb dX1_part_191 (by decide) ?_
                    exact L139 z_59 fs_57 _ _ hh_58 (⟨by omega, by omega, hi_38_2.app (jUpd.mk (n := 40) hv_54 ho_54 rfl (by omega)) (by omega) (by omega) (jcC.f (by rw [← hf9, ← hqz_40]; omega) (by omega)) (by omega)⟩) (by omega) _ (lv_sub hl [1, 2, 3, 0] rfl)
            exact L139 (ws_12.toInt - (0 : Int32).toInt : Int).toNat.succ 0 fc _ _ (hh_12.sub (L1 := [(r0, 3, 4, .int ws_12), (r0, 3, 3, .int pl), (r0, 3, 5, .ref sa_), (r0, 3, 6, .ref ea_), (r0, 3, 2, .ref tx_), (r0, 3, 8, .ref ey_), (r0, 3, 7, .ref cc_), (r0, 3, 9, .ref bh)]) [0, 1, 2, 3, 4, 5, 6, 7] rfl (M1 := [(cc_, 176, 40, ca 1, fc), (ey_, 177, 40, ca 1, fl_12), (ea_, 172, 40, ca 1, fe_12), (sa_, 171, 40, ca 1, fb_12), (tx_, 173, 1500, ca 1, ft)]) [4, 0, 1, 2, 3] rfl (I1 := [(jFkd, jKD dC dI ca G0 (some r0) kq), ([(3, 0), (3, 1), (3, 2), (3, 3), (3, 4), (3, 5), (3, 6), (3, 7), (3, 8), (3, 9), (3, 10), (3, 11), (3, 12), (3, 13), (3, 14), (3, 15), (3, 16)], jOw (dC, dI) G0 3 r0 s.heap), (jFdo, jDcc dC dI ca G0 (some r0) ph)]) [0, 1, 2] rfl) (⟨by omega, by omega, by rw [hk0]; exact jcPc.nil⟩) (by omega) _ (lv_sub hl [1, 2, 3, 0] rfl)
          · skip
            have c_37' : ws_12.toInt = 40 := jb_ne_n (rfl) ((by decide)) c_37
            refine lv_aload_n hx hb dX1_part_118 rfl (lv_at hl 0 rfl) ?_
            refine j7_read hx hb hown hK (C := RX1) (T := TX1) (N := 17) rfl hly_3_6 hlk_21 (hh_12.at 3 rfl) dX1_part_119 ?_
            refine lv_bipush (v := 39) hx hb dX1_part_122 (by decide) ?_
            refine lv_aload_n hx hb dX1_part_124 rfl (lv_at hl 0 rfl) ?_
            refine j7_read hx hb hown hK (C := RX1) (T := TX1) (N := 17) rfl hly_3_3 hlk_42 (hh_12.at 1 rfl) dX1_part_125 ?_
            have hd_61 := hh_12.iv 0 rfl
            have hd_61e := hh_12.iv 2 rfl
            have hd_61f := hh_12.at 3 rfl
            have hh_62 := hh_12.sub (L1 := [(r0, 3, 4, .int ws_12), (r0, 3, 3, .int pl), (r0, 3, 5, .ref sa_), (r0, 3, 6, .ref ea_), (r0, 3, 2, .ref tx_), (r0, 3, 8, .ref ey_), (r0, 3, 7, .ref cc_), (r0, 3, 9, .ref bh)]) [0, 1, 2, 3, 4, 5, 6, 7] rfl (M1 := [(ey_, 177, 40, ca 1, fl_12), (ea_, 172, 40, ca 1, fe_12), (sa_, 171, 40, ca 1, fb_12), (tx_, 173, 1500, ca 1, ft), (cc_, 176, 40, ca 1, fc)]) [0, 1, 2, 3, 4] rfl (I1 := [([(3, 0), (3, 1), (3, 2), (3, 3), (3, 4), (3, 5), (3, 6), (3, 7), (3, 8), (3, 9), (3, 10), (3, 11), (3, 12), (3, 13), (3, 14), (3, 15), (3, 16)], jOw (dC, dI) G0 3 r0 s.heap)]) [1] rfl
            clear hh_12
            refine j7_iastX hx hb hK hh_62 hB hB172 1 rfl (by decide) (by decide) rfl 1 rfl (M1 := [(ey_, 177, 40, ca 1, fl_12), (sa_, 171, 40, ca 1, fb_12), (tx_, 173, 1500, ca 1, ft), (cc_, 176, 40, ca 1, fc)]) [0, 2, 3, 4] rfl rfl rfl hg_ea_ (x := 39) ((by decide)) (by omega) (by first | omega | (refine ⟨?_, ?_⟩ <;> (first | omega | rfl | assumption | decide | exact Or.inl rfl | exact Or.inr rfl | (simp only; omega)))) dX1_part_128 (fun H_60 locs_60 fs_63 hv_60 ho_60 hr_60 hh_60 => ?_)
            have hv_60 : jSo fs_63 (39) = pl.toInt := by unfold jSo; rw [hv_60]; try exact rfl
            clear hh_62
            have hd_61n := jKD.a6 hd_61 hg_r0 hg_ea_ hd_61f hr_60
            have hh_64 := hh_60.addI (jKD.ie hd_61n)
            clear hh_60
            have hd_61m := jDcc.arr hd_61e hg_r0 hg_ea_ (Or.inr ⟨rfl, hd_61f⟩) hr_60
            have hh_65 := hh_64.addI (jDcc.ie hd_61m)
            clear hh_64
            clear hd_61 hd_61f hd_61n hr_60 hd_61e hd_61m
            refine lv_aload_n hx hb dX1_part_129 rfl (lv_at hl 0 rfl) ?_
            refine j7_read hx hb hown hK (C := RX1) (T := TX1) (N := 17) rfl hly_3_8 hlk_27 (hh_65.at 5 rfl) dX1_part_130 ?_
            refine lv_bipush (v := 39) hx hb dX1_part_133 (by decide) ?_
            refine lv_iconst (v := 2) hx hb dX1_part_135 (by decide) ?_
            have hc_66 := (hh_65.2.2.2.2.2.2.2.1 _ (List.mem_of_getElem? (i := 1) rfl)).2.2.2
            have hh_68 := hh_65.sub (L1 := [(r0, 3, 4, .int ws_12), (r0, 3, 3, .int pl), (r0, 3, 5, .ref sa_), (r0, 3, 6, .ref ea_), (r0, 3, 2, .ref tx_), (r0, 3, 8, .ref ey_), (r0, 3, 7, .ref cc_), (r0, 3, 9, .ref bh)]) [0, 1, 2, 3, 4, 5, 6, 7] rfl (M1 := [(ea_, 172, 40, ca 1, fs_63), (sa_, 171, 40, ca 1, fb_12), (tx_, 173, 1500, ca 1, ft), (cc_, 176, 40, ca 1, fc)]) [0, 2, 3, 4] rfl (I1 := [(jFdo, jDcc dC dI ca G0 (some r0) ph), (jFkd, jKD dC dI ca G0 (some r0) kq), ([(3, 0), (3, 1), (3, 2), (3, 3), (3, 4), (3, 5), (3, 6), (3, 7), (3, 8), (3, 9), (3, 10), (3, 11), (3, 12), (3, 13), (3, 14), (3, 15), (3, 16)], jOw (dC, dI) G0 3 r0 s.heap)]) [0, 1, 2] rfl
            clear hh_65
            refine j7_iastL hx hb hK hh_68 hB hB177 1 rfl (by decide) (by decide) rfl rfl rfl hg_ey_ (x := 39) ((by decide)) (by omega) (trivial) dX1_part_136 (fun H_66 locs_66 fs_67 hv_66 ho_66 hh_66 => ?_)
            have hv_66 : jSo fs_67 (39) = 2 := by unfold jSo; rw [hv_66]; try exact (by decide)
            have ho_66 := ho_66 fl_12 hc_66
            clear hc_66
            clear hh_68
            obtain ⟨hP9, hF9⟩ := hi_12_9.fix (by omega) (by rw [show (40 : Nat) = v3_12.toInt.toNat by omega, ← hi_12_10]; omega) (jUpd.mk (n := 40) hv_60 ho_60 rfl (by omega)) (jUpd.mk (n := 40) hv_66 ho_66 rfl (by omega)) (by omega) (by omega)
            refine lv_iconst (v := 0) hx hb dX1_part_137 (by decide) ?_
            refine lv_istore_n (lv' := [(3, .int 0), (0, .ref r0), (1, .ref r1), (2, .int v2_12)]) hx hb dX1_part_138 rfl hl (by decide) rfl (fun ls hl => ?_)
            have L139 : ∀ (N : Nat) (v3_69 : Int32) (fc_69 : Nat → Int32) (H_69 : Heap) (locs_69 : List Loc), jSt (dC, dI) B base G0 G0 EX1_partK s.heap 0 0 [(r0, 3, 4, .int ws_12), (r0, 3, 3, .int pl), (r0, 3, 5, .ref sa_), (r0, 3, 6, .ref ea_), (r0, 3, 2, .ref tx_), (r0, 3, 8, .ref ey_), (r0, 3, 7, .ref cc_), (r0, 3, 9, .ref bh)] [(cc_, 176, 40, ca 1, fc_69), (ey_, 177, 40, ca 1, fs_67), (ea_, 172, 40, ca 1, fs_63), (sa_, 171, 40, ca 1, fb_12), (tx_, 173, 1500, ca 1, ft)] [(jFdo, jDcc dC dI ca G0 (some r0) ph), (jFkd, jKD dC dI ca G0 (some r0) kq), ([(3, 0), (3, 1), (3, 2), (3, 3), (3, 4), (3, 5), (3, 6), (3, 7), (3, 8), (3, 9), (3, 10), (3, 11), (3, 12), (3, 13), (3, 14), (3, 15), (3, 16)], jOw (dC, dI) G0 3 r0 s.heap)] H_69 locs_69 → (0 ≤ v3_69.toInt ∧ v3_69.toInt ≤ ws_12.toInt ∧ jcPc ft pl.toInt fc_69 v3_69.toInt) → (ws_12.toInt - v3_69.toInt : Int) < N → ∀ ls : Array Slot, lv_has ls 5 [(0, .ref r0), (1, .ref r1), (2, .int v2_12), (3, .int v3_69)] → W p l e R s m ([.ref r0, .ref r1] : List Value).toArray below meth c H_69 locs_69 0 0 Q (F0 m 139 ls []) := by
              intro N
              induction N with
              | zero => intro v3_69 fc_69 H_69 locs_69 hh_69  hi_69 hm; exact absurd hm (by omega)
              | succ N L139 =>
                intro v3_69 fc_69 H_69 locs_69 hh_69  hi_69 hm_69 ls hl
                obtain ⟨hi_69_0, hi_69_1, hi_69_2⟩ := hi_69
                refine lv_iload_n hx hb dX1_part_139 rfl (lv_at hl 3 rfl) ?_
                refine lv_aload_n hx hb dX1_part_140 rfl (lv_at hl 0 rfl) ?_
                refine j7_read hx hb hown hK (C := RX1) (T := TX1) (N := 17) rfl hly_3_4 hlk_69 (hh_69.at 0 rfl) dX1_part_141 ?_
                refine lv_icmp_ge (tgt := 194) hx hb dX1_part_144 (by decide) (fun c_70 => ?_) (fun c_70 => ?_)
                · skip
                  have c_70' : v3_69.toInt ≥ ws_12.toInt := jb_ge (rfl) (rfl) c_70
                  rw [hQ]
                  exact W.vret hx hb hr (fun t ht hW => ⟨⟨(ws_12, fb_12, fs_63, fs_67, fc_69), rfl, by (try dsimp only); refine ⟨by omega, by omega, ?_, ?_, ?_, ?_⟩; exact jSn.last (jSn.ce hi_12_5 (by omega)) (by omega) hv_60 ho_60; (have h9 := hi_12_7.end (by omega) (by omega); omega); (rw [show (ws_12.toInt) = v3_12.toInt by omega]; exact hP9); (rw [show (ws_12.toInt) = v3_69.toInt by omega]; exact hi_69_2), ⟨⟨⟨hh_69.rt (M1 := [(r0, 3, 4, .int ws_12)]) [0] rfl ht, by rw [ht]; exact hh_69.2.2.2.2.2.2.2.1.sub [3, 2, 1, 0] rfl⟩, by rw [ht]; exact hh_69.iv 2 rfl⟩, by rw [ht]; exact hh_69.2.2.2.2.2.2.2.2.sub (L1 := [(jFdo, jDcc dC dI ca G0 (some r0) ph), (jFkd, jKD dC dI ca G0 (some r0) kq)]) [0, 1] rfl⟩⟩, by rw [ht]; try exact hh_69.1.1, fun q h9 hq => by rw [ht]; try exact hh_69.1.2.1 q h9 hq⟩) hh_69.1.2.2 dX1_part_194
                · skip
                  have c_70' : v3_69.toInt < ws_12.toInt := jb_ge_n (rfl) (rfl) c_70
                  obtain ⟨t1, t2, t3⟩ := hP9 v3_69.toInt.toNat (by omega)
                  have hf9 := hF9 v3_69.toInt.toNat (by omega)
                  rw [show ((v3_69.toInt.toNat : Nat) : Int) = v3_69.toInt by omega] at t1 t2 hf9
                  have hce := jcE.rg t3
                  have hcb := jcB.nn (f := ft) (n := pl.toInt) (by omega) v3_69.toInt.toNat
                  refine lv_aload_n hx hb dX1_part_147 rfl (lv_at hl 0 rfl) ?_
                  refine j7_read hx hb hown hK (C := RX1) (T := TX1) (N := 17) rfl hly_3_7 hlk_24 (hh_69.at 6 rfl) dX1_part_148 ?_
                  refine lv_iload_n hx hb dX1_part_151 rfl (lv_at hl 3 rfl) ?_
                  refine lv_iconst (v := 3) hx hb dX1_part_152 (by decide) ?_
                  refine lv_aload_n hx hb dX1_part_153 rfl (lv_at hl 0 rfl) ?_
                  refine j7_read hx hb hown hK (C := RX1) (T := TX1) (N := 17) rfl hly_3_8 hlk_27 (hh_69.at 5 rfl) dX1_part_154 ?_
                  refine lv_iload_n hx hb dX1_part_157 rfl (lv_at hl 3 rfl) ?_
                  refine j7_ialdM hx hb hK hh_69 hB177 1 rfl (by decide) hg_ey_ (x := v3_69.toInt) (rfl) (by omega) (j := 1) rfl dX1_part_158 (fun z_71 ez_71 (hz_71 : True) => ?_)
                  have hqz_71 : z_71.toInt = jSo fs_67 (v3_69.toInt) := by unfold jSo; rw [ez_71]
                  refine lv_if_le (tgt := 166) hx hb dX1_part_159 (by decide) (fun c_72 => ?_) (fun c_72 => ?_)
                  · skip
                    have c_72' : z_71.toInt ≤ 0 := jb_le (rfl) ((by decide)) c_72
                    refine lv_aload_n hx hb dX1_part_166 rfl (lv_at hl 1 rfl) ?_
                    refine lv_aload_n hx hb dX1_part_167 rfl (lv_at hl 0 rfl) ?_
                    refine j7_read hx hb hown hK (C := RX1) (T := TX1) (N := 17) rfl hly_3_2 hlk_15 (hh_69.at 4 rfl) dX1_part_168 ?_
                    refine lv_aload_n hx hb dX1_part_171 rfl (lv_at hl 0 rfl) ?_
                    refine j7_read hx hb hown hK (C := RX1) (T := TX1) (N := 17) rfl hly_3_5 hlk_18 (hh_69.at 2 rfl) dX1_part_172 ?_
                    refine lv_iload_n hx hb dX1_part_175 rfl (lv_at hl 3 rfl) ?_
                    refine j7_ialdM hx hb hK hh_69 hB171 1 rfl (by decide) hg_sa_ (x := v3_69.toInt) (rfl) (by omega) (j := 3) rfl dX1_part_176 (fun z_73 ez_73 (hz_73 : 0 ≤ z_73.toInt ∧ z_73.toInt ≤ 1500) => ?_)
                    have hqz_73 : z_73.toInt = jSo fb_12 (v3_69.toInt) := by unfold jSo; rw [ez_73]
                    refine lv_aload_n hx hb dX1_part_177 rfl (lv_at hl 0 rfl) ?_
                    refine j7_read hx hb hown hK (C := RX1) (T := TX1) (N := 17) rfl hly_3_6 hlk_21 (hh_69.at 3 rfl) dX1_part_178 ?_
                    refine lv_iload_n hx hb dX1_part_181 rfl (lv_at hl 3 rfl) ?_
                    refine j7_ialdM hx hb hK hh_69 hB172 1 rfl (by decide) hg_ea_ (x := v3_69.toInt) (rfl) (by omega) (j := 2) rfl dX1_part_182 (fun z_74 ez_74 (hz_74 : 0 ≤ z_74.toInt ∧ z_74.toInt ≤ 1500) => ?_)
                    have hqz_74 : z_74.toInt = jSo fs_63 (v3_69.toInt) := by unfold jSo; rw [ez_74]
                    refine va_calli (A0 := jA base) (H0 := s.heap) (va_runV (As := [.ref tx_, .int z_73, .int z_74]) (rest := [.int 3, .int v3_69, .ref cc_]) ⟨hx, hb, hml, hown, hts⟩ (uX10_scanT l dC dI ca base B hB hAp hB8 hB12 hB101 hB102 hB132 hB133 hB173 hB293 G0 H_69 r1 tx_ z_73 z_74 1500 pl.toInt ft) (cwV 3 hts (jgV (jWr_36 _ (List.mem_of_getElem? (i := 19) rfl)) (jWr_36 _ (List.mem_of_getElem? (i := 20) rfl)) (jWr_36 _ (List.mem_of_getElem? (i := 21) rfl)) (jWr_4 _ (List.mem_of_getElem? (i := 14) rfl)) (jWr_36 _ (List.mem_of_getElem? (i := 22) rfl))) rfl rfl rfl (by decide +kernel) ⟨by rw [← hR]; exact Nat.le_of_ble_eq_true rfl, by rw [← hR]; exact Nat.le_of_ble_eq_true rfl⟩) ⟨fun a U g mk q => by obtain ⟨q0, q1, q2, qK, q10, q11, q12, q13, q14⟩ := q; exact ⟨q0, q1, q2, jG.calling g mk a qK, q10, q11, q12, q13, q14⟩, hh_69.recv (C := RX10) (T := TX10) (N := 11) hB12 rfl (by decide) hg_r1 hK, fun U hU hW => ⟨rfl, hU, hh_69.2.1, hG.step hW hU hh_69.1, hg_r1, hg_tx_, jP.nil, (hh_69.2.2.2.2.2.2.2.1.sub (L1 := [(tx_, 173, 1500, ca 1, ft)]) [4] rfl), ⟨(by first | omega | rfl | assumption | (rw [hqz_73, hqz_74, t1, t2]; exact jcV.fl (by rw [← hf9, ← hqz_71]; omega)) | (have h9 := hqz_73; have h8 := hqz_74; omega)), (by first | omega | rfl | assumption | (rw [hqz_73, hqz_74, t1, t2]; exact jcV.fl (by rw [← hf9, ← hqz_71]; omega)) | (have h9 := hqz_73; have h8 := hqz_74; omega)), (by first | omega | rfl | assumption | (rw [hqz_73, hqz_74, t1, t2]; exact jcV.fl (by rw [← hf9, ← hqz_71]; omega)) | (have h9 := hqz_73; have h8 := hqz_74; omega)), (by first | omega | rfl | assumption | (rw [hqz_73, hqz_74, t1, t2]; exact jcV.fl (by rw [← hf9, ← hqz_71]; omega)) | (have h9 := hqz_73; have h8 := hqz_74; omega)), (by first | omega | rfl | assumption | (rw [hqz_73, hqz_74, t1, t2]; exact jcV.fl (by rw [← hf9, ← hqz_71]; omega)) | (have h9 := hqz_73; have h8 := hqz_74; omega)), (by first | omega | rfl | assumption | (rw [hqz_73, hqz_74, t1, t2]; exact jcV.fl (by rw [← hf9, ← hqz_71]; omega)) | (have h9 := hqz_73; have h8 := hqz_74; omega)), (by first | assumption | (rw [hqz_73, hqz_74, t1, t2]; exact jcV.fl (by rw [← hf9, ← hqz_71]; omega)) | (have h9 := hqz_73; have h8 := hqz_74; omega) | omega)⟩⟩⟩ rfl rfl hl.1 rfl (lv_room (Nat.le_of_ble_eq_true rfl)) dX1_part_183 ⟨Nat.zero_le _, Nat.zero_le _⟩) hh_69.1 (fun q _ h => h) (fun q h => h) (fun r_76 u_75 t_75 H_75 locs_75 ht_75 hvm_75 hr_76 hb_75 hz_75 hk_75 hS_75 => ?_)
                    rw [ht_75] at hb_75
                    obtain ⟨hb_751, hb_752, hb_753, hb_754, hb_755⟩ := hb_75
                    have hh_75 : jSt (dC, dI) B base G0 G0 EX1_partK s.heap 0 0 [(r0, 3, 4, .int ws_12), (r0, 3, 3, .int pl), (r0, 3, 5, .ref sa_), (r0, 3, 6, .ref ea_), (r0, 3, 2, .ref tx_), (r0, 3, 8, .ref ey_), (r0, 3, 7, .ref cc_), (r0, 3, 9, .ref bh)] [(cc_, 176, 40, ca 1, fc_69), (ey_, 177, 40, ca 1, fs_67), (ea_, 172, 40, ca 1, fs_63), (sa_, 171, 40, ca 1, fb_12), (tx_, 173, 1500, ca 1, ft)] [(jFdo, jDcc dC dI ca G0 (some r0) ph), (jFkd, jKD dC dI ca G0 (some r0) kq), ([(3, 0), (3, 1), (3, 2), (3, 3), (3, 4), (3, 5), (3, 6), (3, 7), (3, 8), (3, 9), (3, 10), (3, 11), (3, 12), (3, 13), (3, 14), (3, 15), (3, 16)], jOw (dC, dI) G0 3 r0 s.heap)] H_75 locs_75 := ((hh_69.call hb_751 hb_752 hb_753 hb_754 hS_75 rfl (L1 := [(r0, 3, 4, .int ws_12), (r0, 3, 3, .int pl), (r0, 3, 5, .ref sa_), (r0, 3, 6, .ref ea_), (r0, 3, 2, .ref tx_), (r0, 3, 8, .ref ey_), (r0, 3, 7, .ref cc_), (r0, 3, 9, .ref bh)]) [0, 1, 2, 3, 4, 5, 6, 7] rfl rfl (M1 := [(cc_, 176, 40, ca 1, fc_69), (ey_, 177, 40, ca 1, fs_67), (ea_, 172, 40, ca 1, fs_63), (sa_, 171, 40, ca 1, fb_12), (tx_, 173, 1500, ca 1, ft)]) [0, 1, 2, 3, 4] rfl rfl (I1 := [(jFdo, jDcc dC dI ca G0 (some r0) ph), (jFkd, jKD dC dI ca G0 (some r0) kq), ([(3, 0), (3, 1), (3, 2), (3, 3), (3, 4), (3, 5), (3, 6), (3, 7), (3, 8), (3, 9), (3, 10), (3, 11), (3, 12), (3, 13), (3, 14), (3, 15), (3, 16)], jOw (dC, dI) G0 3 r0 s.heap)]) [0, 1, 2] rfl rfl).more hb_755)
                    clear hh_69 ht_75 hvm_75 hz_75 hk_75 hS_75 hb_751 hb_752 hb_753 hb_754 hb_755
                    obtain ⟨hr_76_0, hr_76_1, hr_76_2⟩ := hr_76
                    refine lv_iadd hx hb dX1_part_186 ?_
                    refine lv_topi (fun z_77 ez_77 => ?_)
                    have hz_77 : z_77.toInt = 3 + r_76.toInt := by rw [ez_77]; exact jb_iadd2 ((by decide)) (rfl) (by omega)
                    have hd_79 := hh_75.iv 1 rfl
                    have hd_79f := hh_75.at 6 rfl
                    have hh_80 := hh_75.sub (L1 := [(r0, 3, 4, .int ws_12), (r0, 3, 3, .int pl), (r0, 3, 5, .ref sa_), (r0, 3, 6, .ref ea_), (r0, 3, 2, .ref tx_), (r0, 3, 8, .ref ey_), (r0, 3, 7, .ref cc_), (r0, 3, 9, .ref bh)]) [0, 1, 2, 3, 4, 5, 6, 7] rfl (M1 := [(cc_, 176, 40, ca 1, fc_69), (ey_, 177, 40, ca 1, fs_67), (ea_, 172, 40, ca 1, fs_63), (sa_, 171, 40, ca 1, fb_12), (tx_, 173, 1500, ca 1, ft)]) [0, 1, 2, 3, 4] rfl (I1 := [(jFdo, jDcc dC dI ca G0 (some r0) ph), ([(3, 0), (3, 1), (3, 2), (3, 3), (3, 4), (3, 5), (3, 6), (3, 7), (3, 8), (3, 9), (3, 10), (3, 11), (3, 12), (3, 13), (3, 14), (3, 15), (3, 16)], jOw (dC, dI) G0 3 r0 s.heap)]) [0, 2] rfl
                    clear hh_75
                    refine j7_iastX hx hb hK hh_80 hB hB176 1 rfl (by decide) (by decide) rfl 0 rfl (M1 := [(ey_, 177, 40, ca 1, fs_67), (ea_, 172, 40, ca 1, fs_63), (sa_, 171, 40, ca 1, fb_12), (tx_, 173, 1500, ca 1, ft)]) [1, 2, 3, 4] rfl rfl rfl hg_cc_ (x := v3_69.toInt) (rfl) (by omega) (trivial) dX1_part_187 (fun H_78 locs_78 fs_81 hv_78 ho_78 hr_78 hh_78 => ?_)
                    have hv_78 : jSo fs_81 (v3_69.toInt) = z_77.toInt := by unfold jSo; rw [hv_78]; try exact rfl
                    clear hh_80
                    have hd_79n := jKD.a7 hd_79 hg_r0 hg_cc_ hd_79f hr_78
                    have hh_82 := hh_78.addI (jKD.ie hd_79n)
                    clear hh_78
                    clear hd_79 hd_79f hd_79n hr_78
                    obtain ⟨z_83, ez_83⟩ : ∃ y : Int32, y = v3_69 + 1 := ⟨_, rfl⟩
                    refine lv_iinc (v := z_83) (lv' := [(3, .int z_83), (0, .ref r0), (1, .ref r1), (2, .int v2_12)]) hx hb dX1_part_188 hl (k := 3) rfl (by rw [ez_83]; rfl) (by decide) rfl (fun ls hl => ?_)
                    have hz_83 : z_83.toInt = v3_69.toInt + 1 := by rw [ez_83]; exact jb_iadd2 (rfl) (by decide) (by omega)
                    refine lv_goto (tgt := 139) hx hb dX1_part_191 (by decide) ?_
                    exact L139 z_83 fs_81 _ _ (hh_82.sub (L1 := [(r0, 3, 4, .int ws_12), (r0, 3, 3, .int pl), (r0, 3, 5, .ref sa_), (r0, 3, 6, .ref ea_), (r0, 3, 2, .ref tx_), (r0, 3, 8, .ref ey_), (r0, 3, 7, .ref cc_), (r0, 3, 9, .ref bh)]) [0, 1, 2, 3, 4, 5, 6, 7] rfl (M1 := [(cc_, 176, 40, ca 1, fs_81), (ey_, 177, 40, ca 1, fs_67), (ea_, 172, 40, ca 1, fs_63), (sa_, 171, 40, ca 1, fb_12), (tx_, 173, 1500, ca 1, ft)]) [0, 1, 2, 3, 4] rfl (I1 := [(jFdo, jDcc dC dI ca G0 (some r0) ph), (jFkd, jKD dC dI ca G0 (some r0) kq), ([(3, 0), (3, 1), (3, 2), (3, 3), (3, 4), (3, 5), (3, 6), (3, 7), (3, 8), (3, 9), (3, 10), (3, 11), (3, 12), (3, 13), (3, 14), (3, 15), (3, 16)], jOw (dC, dI) G0 3 r0 s.heap)]) [1, 0, 2] rfl) (⟨by omega, by omega, hi_69_2.app (jUpd.mk (n := 40) hv_78 ho_78 rfl (by omega)) (by omega) (by omega) (jcC.t (t := r_76.toInt) (by rw [← hf9, ← hqz_71]; omega) (by have h9 := hr_76_0; rw [hqz_73, hqz_74, t1, t2] at h9; exact h9) (by omega)) (by omega)⟩) (by omega) _ (lv_sub hl [1, 2, 3, 0] rfl)
                  · skip
                    have c_72' : z_71.toInt > 0 := jb_le_n (rfl) ((by decide)) c_72
                    refine lv_iconst (v := 1) hx hb dX1_part_162 (by decide) ?_
                    refine lv_goto (tgt := 186) hx hb dX1_part_163 (by decide) ?_
                    refine lv_iadd hx hb dX1_part_186 ?_
                    refine lv_topi (fun z_84 ez_84 => ?_)
                    have hz_84 : z_84.toInt = 3 + 1 := by rw [ez_84]; exact jb_iadd2 ((by decide)) ((by decide)) (by omega)
                    have hd_86 := hh_69.iv 1 rfl
                    have hd_86f := hh_69.at 6 rfl
                    have hh_87 := hh_69.sub (L1 := [(r0, 3, 4, .int ws_12), (r0, 3, 3, .int pl), (r0, 3, 5, .ref sa_), (r0, 3, 6, .ref ea_), (r0, 3, 2, .ref tx_), (r0, 3, 8, .ref ey_), (r0, 3, 7, .ref cc_), (r0, 3, 9, .ref bh)]) [0, 1, 2, 3, 4, 5, 6, 7] rfl (M1 := [(cc_, 176, 40, ca 1, fc_69), (ey_, 177, 40, ca 1, fs_67), (ea_, 172, 40, ca 1, fs_63), (sa_, 171, 40, ca 1, fb_12), (tx_, 173, 1500, ca 1, ft)]) [0, 1, 2, 3, 4] rfl (I1 := [(jFdo, jDcc dC dI ca G0 (some r0) ph), ([(3, 0), (3, 1), (3, 2), (3, 3), (3, 4), (3, 5), (3, 6), (3, 7), (3, 8), (3, 9), (3, 10), (3, 11), (3, 12), (3, 13), (3, 14), (3, 15), (3, 16)], jOw (dC, dI) G0 3 r0 s.heap)]) [0, 2] rfl
                    clear hh_69
                    refine j7_iastX hx hb hK hh_87 hB hB176 1 rfl (by decide) (by decide) rfl 0 rfl (M1 := [(ey_, 177, 40, ca 1, fs_67), (ea_, 172, 40, ca 1, fs_63), (sa_, 171, 40, ca 1, fb_12), (tx_, 173, 1500, ca 1, ft)]) [1, 2, 3, 4] rfl rfl rfl hg_cc_ (x := v3_69.toInt) (rfl) (by omega) (trivial) dX1_part_187 (fun H_85 locs_85 fs_88 hv_85 ho_85 hr_85 hh_85 => ?_)
                    have hv_85 : jSo fs_88 (v3_69.toInt) = z_84.toInt := by unfold jSo; rw [hv_85]; try exact rfl
                    clear hh_87
                    have hd_86n := jKD.a7 hd_86 hg_r0 hg_cc_ hd_86f hr_85
                    have hh_89 := hh_85.addI (jKD.ie hd_86n)
                    clear hh_85
                    clear hd_86 hd_86f hd_86n hr_85
                    obtain ⟨z_90, ez_90⟩ : ∃ y : Int32, y = v3_69 + 1 := ⟨_, rfl⟩
                    refine lv_iinc (v := z_90) (lv' := [(3, .int z_90), (0, .ref r0), (1, .ref r1), (2, .int v2_12)]) hx hb dX1_part_188 hl (k := 3) rfl (by rw [ez_90]; rfl) (by decide) rfl (fun ls hl => ?_)
                    have hz_90 : z_90.toInt = v3_69.toInt + 1 := by rw [ez_90]; exact jb_iadd2 (rfl) (by decide) (by omega)
                    refine lv_goto (tgt := 139) hx hb dX1_part_191 (by decide) ?_
                    exact L139 z_90 fs_88 _ _ (hh_89.sub (L1 := [(r0, 3, 4, .int ws_12), (r0, 3, 3, .int pl), (r0, 3, 5, .ref sa_), (r0, 3, 6, .ref ea_), (r0, 3, 2, .ref tx_), (r0, 3, 8, .ref ey_), (r0, 3, 7, .ref cc_), (r0, 3, 9, .ref bh)]) [0, 1, 2, 3, 4, 5, 6, 7] rfl (M1 := [(cc_, 176, 40, ca 1, fs_88), (ey_, 177, 40, ca 1, fs_67), (ea_, 172, 40, ca 1, fs_63), (sa_, 171, 40, ca 1, fb_12), (tx_, 173, 1500, ca 1, ft)]) [0, 1, 2, 3, 4] rfl (I1 := [(jFdo, jDcc dC dI ca G0 (some r0) ph), (jFkd, jKD dC dI ca G0 (some r0) kq), ([(3, 0), (3, 1), (3, 2), (3, 3), (3, 4), (3, 5), (3, 6), (3, 7), (3, 8), (3, 9), (3, 10), (3, 11), (3, 12), (3, 13), (3, 14), (3, 15), (3, 16)], jOw (dC, dI) G0 3 r0 s.heap)]) [1, 0, 2] rfl) (⟨by omega, by omega, hi_69_2.app (jUpd.mk (n := 40) hv_85 ho_85 rfl (by omega)) (by omega) (by omega) (jcC.f (by rw [← hf9, ← hqz_71]; omega) (by omega)) (by omega)⟩) (by omega) _ (lv_sub hl [1, 2, 3, 0] rfl)
            exact L139 (ws_12.toInt - (0 : Int32).toInt : Int).toNat.succ 0 fc _ _ (hh_66.sub (L1 := [(r0, 3, 4, .int ws_12), (r0, 3, 3, .int pl), (r0, 3, 5, .ref sa_), (r0, 3, 6, .ref ea_), (r0, 3, 2, .ref tx_), (r0, 3, 8, .ref ey_), (r0, 3, 7, .ref cc_), (r0, 3, 9, .ref bh)]) [0, 1, 2, 3, 4, 5, 6, 7] rfl (M1 := [(cc_, 176, 40, ca 1, fc), (ey_, 177, 40, ca 1, fs_67), (ea_, 172, 40, ca 1, fs_63), (sa_, 171, 40, ca 1, fb_12), (tx_, 173, 1500, ca 1, ft)]) [4, 0, 1, 2, 3] rfl (I1 := [(jFdo, jDcc dC dI ca G0 (some r0) ph), (jFkd, jKD dC dI ca G0 (some r0) kq), ([(3, 0), (3, 1), (3, 2), (3, 3), (3, 4), (3, 5), (3, 6), (3, 7), (3, 8), (3, 9), (3, 10), (3, 11), (3, 12), (3, 13), (3, 14), (3, 15), (3, 16)], jOw (dC, dI) G0 3 r0 s.heap)]) [0, 1, 2] rfl) (⟨by omega, by omega, by rw [hk0]; exact jcPc.nil⟩) (by omega) _ (lv_sub hl [1, 2, 3, 0] rfl)
      · skip
        have c_13' : v3_12.toInt < 40 := jb_ge_n (rfl) ((by decide)) c_13
        refine lv_iload_n hx hb dX1_part_19 rfl (lv_at hl 2 rfl) ?_
        refine lv_aload_n hx hb dX1_part_20 rfl (lv_at hl 0 rfl) ?_
        refine j7_read hx hb hown hK (C := RX1) (T := TX1) (N := 17) rfl hly_3_3 hlk_42 (hh_12.at 1 rfl) dX1_part_21 ?_
        refine lv_icmp_ge (tgt := 101) hx hb dX1_part_24 (by decide) (fun c_91 => ?_) (fun c_91 => ?_)
        · skip
          have c_91' : v2_12.toInt ≥ pl.toInt := jb_ge (rfl) (rfl) c_91
          refine lv_iload_n hx hb dX1_part_101 rfl (lv_at hl 2 rfl) ?_
          refine lv_aload_n hx hb dX1_part_102 rfl (lv_at hl 0 rfl) ?_
          refine j7_read hx hb hown hK (C := RX1) (T := TX1) (N := 17) rfl hly_3_3 hlk_42 (hh_12.at 1 rfl) dX1_part_103 ?_
          refine lv_icmp_ge (tgt := 137) hx hb dX1_part_106 (by decide) (fun c_92 => ?_) (fun c_92 => ?_)
          · skip
            have c_92' : v2_12.toInt ≥ pl.toInt := jb_ge (rfl) (rfl) c_92
            obtain ⟨hP9, hF9⟩ := hi_12_9.fin (by by_cases q9 : v3_12.toInt < 40; exact Or.inl q9; exact Or.inr ⟨by omega, by rw [show (40 : Nat) = v3_12.toInt.toNat by omega, ← hi_12_10]; omega⟩)
            refine lv_iconst (v := 0) hx hb dX1_part_137 (by decide) ?_
            refine lv_istore_n (lv' := [(3, .int 0), (0, .ref r0), (1, .ref r1), (2, .int v2_12)]) hx hb dX1_part_138 rfl hl (by decide) rfl (fun ls hl => ?_)
            have L139 : ∀ (N : Nat) (v3_93 : Int32) (fc_93 : Nat → Int32) (H_93 : Heap) (locs_93 : List Loc), jSt (dC, dI) B base G0 G0 EX1_partK s.heap 0 0 [(r0, 3, 4, .int ws_12), (r0, 3, 3, .int pl), (r0, 3, 5, .ref sa_), (r0, 3, 6, .ref ea_), (r0, 3, 2, .ref tx_), (r0, 3, 8, .ref ey_), (r0, 3, 7, .ref cc_), (r0, 3, 9, .ref bh)] [(cc_, 176, 40, ca 1, fc_93), (ey_, 177, 40, ca 1, fl_12), (ea_, 172, 40, ca 1, fe_12), (sa_, 171, 40, ca 1, fb_12), (tx_, 173, 1500, ca 1, ft)] [(jFkd, jKD dC dI ca G0 (some r0) kq), ([(3, 0), (3, 1), (3, 2), (3, 3), (3, 4), (3, 5), (3, 6), (3, 7), (3, 8), (3, 9), (3, 10), (3, 11), (3, 12), (3, 13), (3, 14), (3, 15), (3, 16)], jOw (dC, dI) G0 3 r0 s.heap), (jFdo, jDcc dC dI ca G0 (some r0) ph)] H_93 locs_93 → (0 ≤ v3_93.toInt ∧ v3_93.toInt ≤ ws_12.toInt ∧ jcPc ft pl.toInt fc_93 v3_93.toInt) → (ws_12.toInt - v3_93.toInt : Int) < N → ∀ ls : Array Slot, lv_has ls 5 [(0, .ref r0), (1, .ref r1), (2, .int v2_12), (3, .int v3_93)] → W p l e R s m ([.ref r0, .ref r1] : List Value).toArray below meth c H_93 locs_93 0 0 Q (F0 m 139 ls []) := by
              intro N
              induction N with
              | zero => intro v3_93 fc_93 H_93 locs_93 hh_93  hi_93 hm; exact absurd hm (by omega)
              | succ N L139 =>
                intro v3_93 fc_93 H_93 locs_93 hh_93  hi_93 hm_93 ls hl
                obtain ⟨hi_93_0, hi_93_1, hi_93_2⟩ := hi_93
                refine lv_iload_n hx hb dX1_part_139 rfl (lv_at hl 3 rfl) ?_
                refine lv_aload_n hx hb dX1_part_140 rfl (lv_at hl 0 rfl) ?_
                refine j7_read hx hb hown hK (C := RX1) (T := TX1) (N := 17) rfl hly_3_4 hlk_69 (hh_93.at 0 rfl) dX1_part_141 ?_
                refine lv_icmp_ge (tgt := 194) hx hb dX1_part_144 (by decide) (fun c_94 => ?_) (fun c_94 => ?_)
                · skip
                  have c_94' : v3_93.toInt ≥ ws_12.toInt := jb_ge (rfl) (rfl) c_94
                  rw [hQ]
                  exact W.vret hx hb hr (fun t ht hW => ⟨⟨(ws_12, fb_12, fe_12, fl_12, fc_93), rfl, by (try dsimp only); refine ⟨by omega, by omega, ?_, ?_, ?_, ?_⟩; exact jSn.ce hi_12_5 (by omega); (have h9 := hi_12_7.end (by omega) (by omega); omega); (rw [show (ws_12.toInt) = v3_12.toInt by omega]; exact hP9); (rw [show (ws_12.toInt) = v3_93.toInt by omega]; exact hi_93_2), ⟨⟨⟨hh_93.rt (M1 := [(r0, 3, 4, .int ws_12)]) [0] rfl ht, by rw [ht]; exact hh_93.2.2.2.2.2.2.2.1.sub [3, 2, 1, 0] rfl⟩, by rw [ht]; exact hh_93.iv 1 rfl⟩, by rw [ht]; exact hh_93.2.2.2.2.2.2.2.2.sub (L1 := [(jFdo, jDcc dC dI ca G0 (some r0) ph), (jFkd, jKD dC dI ca G0 (some r0) kq)]) [2, 0] rfl⟩⟩, by rw [ht]; try exact hh_93.1.1, fun q h9 hq => by rw [ht]; try exact hh_93.1.2.1 q h9 hq⟩) hh_93.1.2.2 dX1_part_194
                · skip
                  have c_94' : v3_93.toInt < ws_12.toInt := jb_ge_n (rfl) (rfl) c_94
                  obtain ⟨t1, t2, t3⟩ := hP9 v3_93.toInt.toNat (by omega)
                  have hf9 := hF9 v3_93.toInt.toNat (by omega)
                  rw [show ((v3_93.toInt.toNat : Nat) : Int) = v3_93.toInt by omega] at t1 t2 hf9
                  have hce := jcE.rg t3
                  have hcb := jcB.nn (f := ft) (n := pl.toInt) (by omega) v3_93.toInt.toNat
                  refine lv_aload_n hx hb dX1_part_147 rfl (lv_at hl 0 rfl) ?_
                  refine j7_read hx hb hown hK (C := RX1) (T := TX1) (N := 17) rfl hly_3_7 hlk_24 (hh_93.at 6 rfl) dX1_part_148 ?_
                  refine lv_iload_n hx hb dX1_part_151 rfl (lv_at hl 3 rfl) ?_
                  refine lv_iconst (v := 3) hx hb dX1_part_152 (by decide) ?_
                  refine lv_aload_n hx hb dX1_part_153 rfl (lv_at hl 0 rfl) ?_
                  refine j7_read hx hb hown hK (C := RX1) (T := TX1) (N := 17) rfl hly_3_8 hlk_27 (hh_93.at 5 rfl) dX1_part_154 ?_
                  refine lv_iload_n hx hb dX1_part_157 rfl (lv_at hl 3 rfl) ?_
                  refine j7_ialdM hx hb hK hh_93 hB177 1 rfl (by decide) hg_ey_ (x := v3_93.toInt) (rfl) (by omega) (j := 1) rfl dX1_part_158 (fun z_95 ez_95 (hz_95 : True) => ?_)
                  have hqz_95 : z_95.toInt = jSo fl_12 (v3_93.toInt) := by unfold jSo; rw [ez_95]
                  refine lv_if_le (tgt := 166) hx hb dX1_part_159 (by decide) (fun c_96 => ?_) (fun c_96 => ?_)
                  · skip
                    have c_96' : z_95.toInt ≤ 0 := jb_le (rfl) ((by decide)) c_96
                    refine lv_aload_n hx hb dX1_part_166 rfl (lv_at hl 1 rfl) ?_
                    refine lv_aload_n hx hb dX1_part_167 rfl (lv_at hl 0 rfl) ?_
                    refine j7_read hx hb hown hK (C := RX1) (T := TX1) (N := 17) rfl hly_3_2 hlk_15 (hh_93.at 4 rfl) dX1_part_168 ?_
                    refine lv_aload_n hx hb dX1_part_171 rfl (lv_at hl 0 rfl) ?_
                    refine j7_read hx hb hown hK (C := RX1) (T := TX1) (N := 17) rfl hly_3_5 hlk_18 (hh_93.at 2 rfl) dX1_part_172 ?_
                    refine lv_iload_n hx hb dX1_part_175 rfl (lv_at hl 3 rfl) ?_
                    refine j7_ialdM hx hb hK hh_93 hB171 1 rfl (by decide) hg_sa_ (x := v3_93.toInt) (rfl) (by omega) (j := 3) rfl dX1_part_176 (fun z_97 ez_97 (hz_97 : 0 ≤ z_97.toInt ∧ z_97.toInt ≤ 1500) => ?_)
                    have hqz_97 : z_97.toInt = jSo fb_12 (v3_93.toInt) := by unfold jSo; rw [ez_97]
                    refine lv_aload_n hx hb dX1_part_177 rfl (lv_at hl 0 rfl) ?_
                    refine j7_read hx hb hown hK (C := RX1) (T := TX1) (N := 17) rfl hly_3_6 hlk_21 (hh_93.at 3 rfl) dX1_part_178 ?_
                    refine lv_iload_n hx hb dX1_part_181 rfl (lv_at hl 3 rfl) ?_
                    refine j7_ialdM hx hb hK hh_93 hB172 1 rfl (by decide) hg_ea_ (x := v3_93.toInt) (rfl) (by omega) (j := 2) rfl dX1_part_182 (fun z_98 ez_98 (hz_98 : 0 ≤ z_98.toInt ∧ z_98.toInt ≤ 1500) => ?_)
                    have hqz_98 : z_98.toInt = jSo fe_12 (v3_93.toInt) := by unfold jSo; rw [ez_98]
                    refine va_calli (A0 := jA base) (H0 := s.heap) (va_runV (As := [.ref tx_, .int z_97, .int z_98]) (rest := [.int 3, .int v3_93, .ref cc_]) ⟨hx, hb, hml, hown, hts⟩ (uX10_scanT l dC dI ca base B hB hAp hB8 hB12 hB101 hB102 hB132 hB133 hB173 hB293 G0 H_93 r1 tx_ z_97 z_98 1500 pl.toInt ft) (cwV 3 hts (jgV (jWr_36 _ (List.mem_of_getElem? (i := 19) rfl)) (jWr_36 _ (List.mem_of_getElem? (i := 20) rfl)) (jWr_36 _ (List.mem_of_getElem? (i := 21) rfl)) (jWr_4 _ (List.mem_of_getElem? (i := 14) rfl)) (jWr_36 _ (List.mem_of_getElem? (i := 22) rfl))) rfl rfl rfl (by decide +kernel) ⟨by rw [← hR]; exact Nat.le_of_ble_eq_true rfl, by rw [← hR]; exact Nat.le_of_ble_eq_true rfl⟩) ⟨fun a U g mk q => by obtain ⟨q0, q1, q2, qK, q10, q11, q12, q13, q14⟩ := q; exact ⟨q0, q1, q2, jG.calling g mk a qK, q10, q11, q12, q13, q14⟩, hh_93.recv (C := RX10) (T := TX10) (N := 11) hB12 rfl (by decide) hg_r1 hK, fun U hU hW => ⟨rfl, hU, hh_93.2.1, hG.step hW hU hh_93.1, hg_r1, hg_tx_, jP.nil, (hh_93.2.2.2.2.2.2.2.1.sub (L1 := [(tx_, 173, 1500, ca 1, ft)]) [4] rfl), ⟨(by first | omega | rfl | assumption | (rw [hqz_97, hqz_98, t1, t2]; exact jcV.fl (by rw [← hf9, ← hqz_95]; omega)) | (have h9 := hqz_97; have h8 := hqz_98; omega)), (by first | omega | rfl | assumption | (rw [hqz_97, hqz_98, t1, t2]; exact jcV.fl (by rw [← hf9, ← hqz_95]; omega)) | (have h9 := hqz_97; have h8 := hqz_98; omega)), (by first | omega | rfl | assumption | (rw [hqz_97, hqz_98, t1, t2]; exact jcV.fl (by rw [← hf9, ← hqz_95]; omega)) | (have h9 := hqz_97; have h8 := hqz_98; omega)), (by first | omega | rfl | assumption | (rw [hqz_97, hqz_98, t1, t2]; exact jcV.fl (by rw [← hf9, ← hqz_95]; omega)) | (have h9 := hqz_97; have h8 := hqz_98; omega)), (by first | omega | rfl | assumption | (rw [hqz_97, hqz_98, t1, t2]; exact jcV.fl (by rw [← hf9, ← hqz_95]; omega)) | (have h9 := hqz_97; have h8 := hqz_98; omega)), (by first | omega | rfl | assumption | (rw [hqz_97, hqz_98, t1, t2]; exact jcV.fl (by rw [← hf9, ← hqz_95]; omega)) | (have h9 := hqz_97; have h8 := hqz_98; omega)), (by first | assumption | (rw [hqz_97, hqz_98, t1, t2]; exact jcV.fl (by rw [← hf9, ← hqz_95]; omega)) | (have h9 := hqz_97; have h8 := hqz_98; omega) | omega)⟩⟩⟩ rfl rfl hl.1 rfl (lv_room (Nat.le_of_ble_eq_true rfl)) dX1_part_183 ⟨Nat.zero_le _, Nat.zero_le _⟩) hh_93.1 (fun q _ h => h) (fun q h => h) (fun r_100 u_99 t_99 H_99 locs_99 ht_99 hvm_99 hr_100 hb_99 hz_99 hk_99 hS_99 => ?_)
                    rw [ht_99] at hb_99
                    obtain ⟨hb_991, hb_992, hb_993, hb_994, hb_995⟩ := hb_99
                    have hh_99 : jSt (dC, dI) B base G0 G0 EX1_partK s.heap 0 0 [(r0, 3, 4, .int ws_12), (r0, 3, 3, .int pl), (r0, 3, 5, .ref sa_), (r0, 3, 6, .ref ea_), (r0, 3, 2, .ref tx_), (r0, 3, 8, .ref ey_), (r0, 3, 7, .ref cc_), (r0, 3, 9, .ref bh)] [(cc_, 176, 40, ca 1, fc_93), (ey_, 177, 40, ca 1, fl_12), (ea_, 172, 40, ca 1, fe_12), (sa_, 171, 40, ca 1, fb_12), (tx_, 173, 1500, ca 1, ft)] [(jFkd, jKD dC dI ca G0 (some r0) kq), ([(3, 0), (3, 1), (3, 2), (3, 3), (3, 4), (3, 5), (3, 6), (3, 7), (3, 8), (3, 9), (3, 10), (3, 11), (3, 12), (3, 13), (3, 14), (3, 15), (3, 16)], jOw (dC, dI) G0 3 r0 s.heap), (jFdo, jDcc dC dI ca G0 (some r0) ph)] H_99 locs_99 := ((hh_93.call hb_991 hb_992 hb_993 hb_994 hS_99 rfl (L1 := [(r0, 3, 4, .int ws_12), (r0, 3, 3, .int pl), (r0, 3, 5, .ref sa_), (r0, 3, 6, .ref ea_), (r0, 3, 2, .ref tx_), (r0, 3, 8, .ref ey_), (r0, 3, 7, .ref cc_), (r0, 3, 9, .ref bh)]) [0, 1, 2, 3, 4, 5, 6, 7] rfl rfl (M1 := [(cc_, 176, 40, ca 1, fc_93), (ey_, 177, 40, ca 1, fl_12), (ea_, 172, 40, ca 1, fe_12), (sa_, 171, 40, ca 1, fb_12), (tx_, 173, 1500, ca 1, ft)]) [0, 1, 2, 3, 4] rfl rfl (I1 := [(jFkd, jKD dC dI ca G0 (some r0) kq), ([(3, 0), (3, 1), (3, 2), (3, 3), (3, 4), (3, 5), (3, 6), (3, 7), (3, 8), (3, 9), (3, 10), (3, 11), (3, 12), (3, 13), (3, 14), (3, 15), (3, 16)], jOw (dC, dI) G0 3 r0 s.heap), (jFdo, jDcc dC dI ca G0 (some r0) ph)]) [0, 1, 2] rfl rfl).more hb_995)
                    clear hh_93 ht_99 hvm_99 hz_99 hk_99 hS_99 hb_991 hb_992 hb_993 hb_994 hb_995
                    obtain ⟨hr_100_0, hr_100_1, hr_100_2⟩ := hr_100
                    refine lv_iadd hx hb dX1_part_186 ?_
                    refine lv_topi (fun z_101 ez_101 => ?_)
                    have hz_101 : z_101.toInt = 3 + r_100.toInt := by rw [ez_101]; exact jb_iadd2 ((by decide)) (rfl) (by omega)
                    have hd_103 := hh_99.iv 0 rfl
                    have hd_103f := hh_99.at 6 rfl
                    have hh_104 := hh_99.sub (L1 := [(r0, 3, 4, .int ws_12), (r0, 3, 3, .int pl), (r0, 3, 5, .ref sa_), (r0, 3, 6, .ref ea_), (r0, 3, 2, .ref tx_), (r0, 3, 8, .ref ey_), (r0, 3, 7, .ref cc_), (r0, 3, 9, .ref bh)]) [0, 1, 2, 3, 4, 5, 6, 7] rfl (M1 := [(cc_, 176, 40, ca 1, fc_93), (ey_, 177, 40, ca 1, fl_12), (ea_, 172, 40, ca 1, fe_12), (sa_, 171, 40, ca 1, fb_12), (tx_, 173, 1500, ca 1, ft)]) [0, 1, 2, 3, 4] rfl (I1 := [([(3, 0), (3, 1), (3, 2), (3, 3), (3, 4), (3, 5), (3, 6), (3, 7), (3, 8), (3, 9), (3, 10), (3, 11), (3, 12), (3, 13), (3, 14), (3, 15), (3, 16)], jOw (dC, dI) G0 3 r0 s.heap), (jFdo, jDcc dC dI ca G0 (some r0) ph)]) [1, 2] rfl
                    clear hh_99
                    refine j7_iastX hx hb hK hh_104 hB hB176 1 rfl (by decide) (by decide) rfl 0 rfl (M1 := [(ey_, 177, 40, ca 1, fl_12), (ea_, 172, 40, ca 1, fe_12), (sa_, 171, 40, ca 1, fb_12), (tx_, 173, 1500, ca 1, ft)]) [1, 2, 3, 4] rfl rfl rfl hg_cc_ (x := v3_93.toInt) (rfl) (by omega) (trivial) dX1_part_187 (fun H_102 locs_102 fs_105 hv_102 ho_102 hr_102 hh_102 => ?_)
                    have hv_102 : jSo fs_105 (v3_93.toInt) = z_101.toInt := by unfold jSo; rw [hv_102]; try exact rfl
                    clear hh_104
                    have hd_103n := jKD.a7 hd_103 hg_r0 hg_cc_ hd_103f hr_102
                    have hh_106 := hh_102.addI (jKD.ie hd_103n)
                    clear hh_102
                    clear hd_103 hd_103f hd_103n hr_102
                    obtain ⟨z_107, ez_107⟩ : ∃ y : Int32, y = v3_93 + 1 := ⟨_, rfl⟩
                    refine lv_iinc (v := z_107) (lv' := [(3, .int z_107), (0, .ref r0), (1, .ref r1), (2, .int v2_12)]) hx hb dX1_part_188 hl (k := 3) rfl (by rw [ez_107]; rfl) (by decide) rfl (fun ls hl => ?_)
                    have hz_107 : z_107.toInt = v3_93.toInt + 1 := by rw [ez_107]; exact jb_iadd2 (rfl) (by decide) (by omega)
                    refine lv_goto (tgt := 139) hx hb dX1_part_191 (by decide) ?_
                    exact L139 z_107 fs_105 _ _ hh_106 (⟨by omega, by omega, hi_93_2.app (jUpd.mk (n := 40) hv_102 ho_102 rfl (by omega)) (by omega) (by omega) (jcC.t (t := r_100.toInt) (by rw [← hf9, ← hqz_95]; omega) (by have h9 := hr_100_0; rw [hqz_97, hqz_98, t1, t2] at h9; exact h9) (by omega)) (by omega)⟩) (by omega) _ (lv_sub hl [1, 2, 3, 0] rfl)
                  · skip
                    have c_96' : z_95.toInt > 0 := jb_le_n (rfl) ((by decide)) c_96
                    refine lv_iconst (v := 1) hx hb dX1_part_162 (by decide) ?_
                    refine lv_goto (tgt := 186) hx hb dX1_part_163 (by decide) ?_
                    refine lv_iadd hx hb dX1_part_186 ?_
                    refine lv_topi (fun z_108 ez_108 => ?_)
                    have hz_108 : z_108.toInt = 3 + 1 := by rw [ez_108]; exact jb_iadd2 ((by decide)) ((by decide)) (by omega)
                    have hd_110 := hh_93.iv 0 rfl
                    have hd_110f := hh_93.at 6 rfl
                    have hh_111 := hh_93.sub (L1 := [(r0, 3, 4, .int ws_12), (r0, 3, 3, .int pl), (r0, 3, 5, .ref sa_), (r0, 3, 6, .ref ea_), (r0, 3, 2, .ref tx_), (r0, 3, 8, .ref ey_), (r0, 3, 7, .ref cc_), (r0, 3, 9, .ref bh)]) [0, 1, 2, 3, 4, 5, 6, 7] rfl (M1 := [(cc_, 176, 40, ca 1, fc_93), (ey_, 177, 40, ca 1, fl_12), (ea_, 172, 40, ca 1, fe_12), (sa_, 171, 40, ca 1, fb_12), (tx_, 173, 1500, ca 1, ft)]) [0, 1, 2, 3, 4] rfl (I1 := [([(3, 0), (3, 1), (3, 2), (3, 3), (3, 4), (3, 5), (3, 6), (3, 7), (3, 8), (3, 9), (3, 10), (3, 11), (3, 12), (3, 13), (3, 14), (3, 15), (3, 16)], jOw (dC, dI) G0 3 r0 s.heap), (jFdo, jDcc dC dI ca G0 (some r0) ph)]) [1, 2] rfl
                    clear hh_93
                    refine j7_iastX hx hb hK hh_111 hB hB176 1 rfl (by decide) (by decide) rfl 0 rfl (M1 := [(ey_, 177, 40, ca 1, fl_12), (ea_, 172, 40, ca 1, fe_12), (sa_, 171, 40, ca 1, fb_12), (tx_, 173, 1500, ca 1, ft)]) [1, 2, 3, 4] rfl rfl rfl hg_cc_ (x := v3_93.toInt) (rfl) (by omega) (trivial) dX1_part_187 (fun H_109 locs_109 fs_112 hv_109 ho_109 hr_109 hh_109 => ?_)
                    have hv_109 : jSo fs_112 (v3_93.toInt) = z_108.toInt := by unfold jSo; rw [hv_109]; try exact rfl
                    clear hh_111
                    have hd_110n := jKD.a7 hd_110 hg_r0 hg_cc_ hd_110f hr_109
                    have hh_113 := hh_109.addI (jKD.ie hd_110n)
                    clear hh_109
                    clear hd_110 hd_110f hd_110n hr_109
                    obtain ⟨z_114, ez_114⟩ : ∃ y : Int32, y = v3_93 + 1 := ⟨_, rfl⟩
                    refine lv_iinc (v := z_114) (lv' := [(3, .int z_114), (0, .ref r0), (1, .ref r1), (2, .int v2_12)]) hx hb dX1_part_188 hl (k := 3) rfl (by rw [ez_114]; rfl) (by decide) rfl (fun ls hl => ?_)
                    have hz_114 : z_114.toInt = v3_93.toInt + 1 := by rw [ez_114]; exact jb_iadd2 (rfl) (by decide) (by omega)
                    refine lv_goto (tgt := 139) hx hb dX1_part_191 (by decide) ?_
                    exact L139 z_114 fs_112 _ _ hh_113 (⟨by omega, by omega, hi_93_2.app (jUpd.mk (n := 40) hv_109 ho_109 rfl (by omega)) (by omega) (by omega) (jcC.f (by rw [← hf9, ← hqz_95]; omega) (by omega)) (by omega)⟩) (by omega) _ (lv_sub hl [1, 2, 3, 0] rfl)
            exact L139 (ws_12.toInt - (0 : Int32).toInt : Int).toNat.succ 0 fc _ _ (hh_12.sub (L1 := [(r0, 3, 4, .int ws_12), (r0, 3, 3, .int pl), (r0, 3, 5, .ref sa_), (r0, 3, 6, .ref ea_), (r0, 3, 2, .ref tx_), (r0, 3, 8, .ref ey_), (r0, 3, 7, .ref cc_), (r0, 3, 9, .ref bh)]) [0, 1, 2, 3, 4, 5, 6, 7] rfl (M1 := [(cc_, 176, 40, ca 1, fc), (ey_, 177, 40, ca 1, fl_12), (ea_, 172, 40, ca 1, fe_12), (sa_, 171, 40, ca 1, fb_12), (tx_, 173, 1500, ca 1, ft)]) [4, 0, 1, 2, 3] rfl (I1 := [(jFkd, jKD dC dI ca G0 (some r0) kq), ([(3, 0), (3, 1), (3, 2), (3, 3), (3, 4), (3, 5), (3, 6), (3, 7), (3, 8), (3, 9), (3, 10), (3, 11), (3, 12), (3, 13), (3, 14), (3, 15), (3, 16)], jOw (dC, dI) G0 3 r0 s.heap), (jFdo, jDcc dC dI ca G0 (some r0) ph)]) [0, 1, 2] rfl) (⟨by omega, by omega, by rw [hk0]; exact jcPc.nil⟩) (by omega) _ (lv_sub hl [1, 2, 3, 0] rfl)
          · skip
            have c_92' : v2_12.toInt < pl.toInt := jb_ge_n (rfl) (rfl) c_92
            refine lv_aload_n hx hb dX1_part_109 rfl (lv_at hl 0 rfl) ?_
            refine j7_read hx hb hown hK (C := RX1) (T := TX1) (N := 17) rfl hly_3_4 hlk_69 (hh_12.at 0 rfl) dX1_part_110 ?_
            refine lv_bipush (v := 40) hx hb dX1_part_113 (by decide) ?_
            refine lv_icmp_ne (tgt := 137) hx hb dX1_part_115 (by decide) (fun c_115 => ?_) (fun c_115 => ?_)
            · skip
              have c_115' : ws_12.toInt ≠ 40 := jb_ne (rfl) ((by decide)) c_115
              obtain ⟨hP9, hF9⟩ := hi_12_9.fin (by by_cases q9 : v3_12.toInt < 40; exact Or.inl q9; exact Or.inr ⟨by omega, by rw [show (40 : Nat) = v3_12.toInt.toNat by omega, ← hi_12_10]; omega⟩)
              refine lv_iconst (v := 0) hx hb dX1_part_137 (by decide) ?_
              refine lv_istore_n (lv' := [(3, .int 0), (0, .ref r0), (1, .ref r1), (2, .int v2_12)]) hx hb dX1_part_138 rfl hl (by decide) rfl (fun ls hl => ?_)
              have L139 : ∀ (N : Nat) (v3_116 : Int32) (fc_116 : Nat → Int32) (H_116 : Heap) (locs_116 : List Loc), jSt (dC, dI) B base G0 G0 EX1_partK s.heap 0 0 [(r0, 3, 4, .int ws_12), (r0, 3, 3, .int pl), (r0, 3, 5, .ref sa_), (r0, 3, 6, .ref ea_), (r0, 3, 2, .ref tx_), (r0, 3, 8, .ref ey_), (r0, 3, 7, .ref cc_), (r0, 3, 9, .ref bh)] [(cc_, 176, 40, ca 1, fc_116), (ey_, 177, 40, ca 1, fl_12), (ea_, 172, 40, ca 1, fe_12), (sa_, 171, 40, ca 1, fb_12), (tx_, 173, 1500, ca 1, ft)] [(jFkd, jKD dC dI ca G0 (some r0) kq), ([(3, 0), (3, 1), (3, 2), (3, 3), (3, 4), (3, 5), (3, 6), (3, 7), (3, 8), (3, 9), (3, 10), (3, 11), (3, 12), (3, 13), (3, 14), (3, 15), (3, 16)], jOw (dC, dI) G0 3 r0 s.heap), (jFdo, jDcc dC dI ca G0 (some r0) ph)] H_116 locs_116 → (0 ≤ v3_116.toInt ∧ v3_116.toInt ≤ ws_12.toInt ∧ jcPc ft pl.toInt fc_116 v3_116.toInt) → (ws_12.toInt - v3_116.toInt : Int) < N → ∀ ls : Array Slot, lv_has ls 5 [(0, .ref r0), (1, .ref r1), (2, .int v2_12), (3, .int v3_116)] → W p l e R s m ([.ref r0, .ref r1] : List Value).toArray below meth c H_116 locs_116 0 0 Q (F0 m 139 ls []) := by
                intro N
                induction N with
                | zero => intro v3_116 fc_116 H_116 locs_116 hh_116  hi_116 hm; exact absurd hm (by omega)
                | succ N L139 =>
                  intro v3_116 fc_116 H_116 locs_116 hh_116  hi_116 hm_116 ls hl
                  obtain ⟨hi_116_0, hi_116_1, hi_116_2⟩ := hi_116
                  refine lv_iload_n hx hb dX1_part_139 rfl (lv_at hl 3 rfl) ?_
                  refine lv_aload_n hx hb dX1_part_140 rfl (lv_at hl 0 rfl) ?_
                  refine j7_read hx hb hown hK (C := RX1) (T := TX1) (N := 17) rfl hly_3_4 hlk_69 (hh_116.at 0 rfl) dX1_part_141 ?_
                  refine lv_icmp_ge (tgt := 194) hx hb dX1_part_144 (by decide) (fun c_117 => ?_) (fun c_117 => ?_)
                  · skip
                    have c_117' : v3_116.toInt ≥ ws_12.toInt := jb_ge (rfl) (rfl) c_117
                    rw [hQ]
                    exact W.vret hx hb hr (fun t ht hW => ⟨⟨(ws_12, fb_12, fe_12, fl_12, fc_116), rfl, by (try dsimp only); refine ⟨by omega, by omega, ?_, ?_, ?_, ?_⟩; exact jSn.ce hi_12_5 (by omega); (have h9 := hi_12_7.end (by omega) (by omega); omega); (rw [show (ws_12.toInt) = v3_12.toInt by omega]; exact hP9); (rw [show (ws_12.toInt) = v3_116.toInt by omega]; exact hi_116_2), ⟨⟨⟨hh_116.rt (M1 := [(r0, 3, 4, .int ws_12)]) [0] rfl ht, by rw [ht]; exact hh_116.2.2.2.2.2.2.2.1.sub [3, 2, 1, 0] rfl⟩, by rw [ht]; exact hh_116.iv 1 rfl⟩, by rw [ht]; exact hh_116.2.2.2.2.2.2.2.2.sub (L1 := [(jFdo, jDcc dC dI ca G0 (some r0) ph), (jFkd, jKD dC dI ca G0 (some r0) kq)]) [2, 0] rfl⟩⟩, by rw [ht]; try exact hh_116.1.1, fun q h9 hq => by rw [ht]; try exact hh_116.1.2.1 q h9 hq⟩) hh_116.1.2.2 dX1_part_194
                  · skip
                    have c_117' : v3_116.toInt < ws_12.toInt := jb_ge_n (rfl) (rfl) c_117
                    obtain ⟨t1, t2, t3⟩ := hP9 v3_116.toInt.toNat (by omega)
                    have hf9 := hF9 v3_116.toInt.toNat (by omega)
                    rw [show ((v3_116.toInt.toNat : Nat) : Int) = v3_116.toInt by omega] at t1 t2 hf9
                    have hce := jcE.rg t3
                    have hcb := jcB.nn (f := ft) (n := pl.toInt) (by omega) v3_116.toInt.toNat
                    refine lv_aload_n hx hb dX1_part_147 rfl (lv_at hl 0 rfl) ?_
                    refine j7_read hx hb hown hK (C := RX1) (T := TX1) (N := 17) rfl hly_3_7 hlk_24 (hh_116.at 6 rfl) dX1_part_148 ?_
                    refine lv_iload_n hx hb dX1_part_151 rfl (lv_at hl 3 rfl) ?_
                    refine lv_iconst (v := 3) hx hb dX1_part_152 (by decide) ?_
                    refine lv_aload_n hx hb dX1_part_153 rfl (lv_at hl 0 rfl) ?_
                    refine j7_read hx hb hown hK (C := RX1) (T := TX1) (N := 17) rfl hly_3_8 hlk_27 (hh_116.at 5 rfl) dX1_part_154 ?_
                    refine lv_iload_n hx hb dX1_part_157 rfl (lv_at hl 3 rfl) ?_
                    refine j7_ialdM hx hb hK hh_116 hB177 1 rfl (by decide) hg_ey_ (x := v3_116.toInt) (rfl) (by omega) (j := 1) rfl dX1_part_158 (fun z_118 ez_118 (hz_118 : True) => ?_)
                    have hqz_118 : z_118.toInt = jSo fl_12 (v3_116.toInt) := by unfold jSo; rw [ez_118]
                    refine lv_if_le (tgt := 166) hx hb dX1_part_159 (by decide) (fun c_119 => ?_) (fun c_119 => ?_)
                    · skip
                      have c_119' : z_118.toInt ≤ 0 := jb_le (rfl) ((by decide)) c_119
                      refine lv_aload_n hx hb dX1_part_166 rfl (lv_at hl 1 rfl) ?_
                      refine lv_aload_n hx hb dX1_part_167 rfl (lv_at hl 0 rfl) ?_
                      refine j7_read hx hb hown hK (C := RX1) (T := TX1) (N := 17) rfl hly_3_2 hlk_15 (hh_116.at 4 rfl) dX1_part_168 ?_
                      refine lv_aload_n hx hb dX1_part_171 rfl (lv_at hl 0 rfl) ?_
                      refine j7_read hx hb hown hK (C := RX1) (T := TX1) (N := 17) rfl hly_3_5 hlk_18 (hh_116.at 2 rfl) dX1_part_172 ?_
                      refine lv_iload_n hx hb dX1_part_175 rfl (lv_at hl 3 rfl) ?_
                      refine j7_ialdM hx hb hK hh_116 hB171 1 rfl (by decide) hg_sa_ (x := v3_116.toInt) (rfl) (by omega) (j := 3) rfl dX1_part_176 (fun z_120 ez_120 (hz_120 : 0 ≤ z_120.toInt ∧ z_120.toInt ≤ 1500) => ?_)
                      have hqz_120 : z_120.toInt = jSo fb_12 (v3_116.toInt) := by unfold jSo; rw [ez_120]
                      refine lv_aload_n hx hb dX1_part_177 rfl (lv_at hl 0 rfl) ?_
                      refine j7_read hx hb hown hK (C := RX1) (T := TX1) (N := 17) rfl hly_3_6 hlk_21 (hh_116.at 3 rfl) dX1_part_178 ?_
                      refine lv_iload_n hx hb dX1_part_181 rfl (lv_at hl 3 rfl) ?_
                      refine j7_ialdM hx hb hK hh_116 hB172 1 rfl (by decide) hg_ea_ (x := v3_116.toInt) (rfl) (by omega) (j := 2) rfl dX1_part_182 (fun z_121 ez_121 (hz_121 : 0 ≤ z_121.toInt ∧ z_121.toInt ≤ 1500) => ?_)
                      have hqz_121 : z_121.toInt = jSo fe_12 (v3_116.toInt) := by unfold jSo; rw [ez_121]
                      refine va_calli (A0 := jA base) (H0 := s.heap) (va_runV (As := [.ref tx_, .int z_120, .int z_121]) (rest := [.int 3, .int v3_116, .ref cc_]) ⟨hx, hb, hml, hown, hts⟩ (uX10_scanT l dC dI ca base B hB hAp hB8 hB12 hB101 hB102 hB132 hB133 hB173 hB293 G0 H_116 r1 tx_ z_120 z_121 1500 pl.toInt ft) (cwV 3 hts (jgV (jWr_36 _ (List.mem_of_getElem? (i := 19) rfl)) (jWr_36 _ (List.mem_of_getElem? (i := 20) rfl)) (jWr_36 _ (List.mem_of_getElem? (i := 21) rfl)) (jWr_4 _ (List.mem_of_getElem? (i := 14) rfl)) (jWr_36 _ (List.mem_of_getElem? (i := 22) rfl))) rfl rfl rfl (by decide +kernel) ⟨by rw [← hR]; exact Nat.le_of_ble_eq_true rfl, by rw [← hR]; exact Nat.le_of_ble_eq_true rfl⟩) ⟨fun a U g mk q => by obtain ⟨q0, q1, q2, qK, q10, q11, q12, q13, q14⟩ := q; exact ⟨q0, q1, q2, jG.calling g mk a qK, q10, q11, q12, q13, q14⟩, hh_116.recv (C := RX10) (T := TX10) (N := 11) hB12 rfl (by decide) hg_r1 hK, fun U hU hW => ⟨rfl, hU, hh_116.2.1, hG.step hW hU hh_116.1, hg_r1, hg_tx_, jP.nil, (hh_116.2.2.2.2.2.2.2.1.sub (L1 := [(tx_, 173, 1500, ca 1, ft)]) [4] rfl), ⟨(by first | omega | rfl | assumption | (rw [hqz_120, hqz_121, t1, t2]; exact jcV.fl (by rw [← hf9, ← hqz_118]; omega)) | (have h9 := hqz_120; have h8 := hqz_121; omega)), (by first | omega | rfl | assumption | (rw [hqz_120, hqz_121, t1, t2]; exact jcV.fl (by rw [← hf9, ← hqz_118]; omega)) | (have h9 := hqz_120; have h8 := hqz_121; omega)), (by first | omega | rfl | assumption | (rw [hqz_120, hqz_121, t1, t2]; exact jcV.fl (by rw [← hf9, ← hqz_118]; omega)) | (have h9 := hqz_120; have h8 := hqz_121; omega)), (by first | omega | rfl | assumption | (rw [hqz_120, hqz_121, t1, t2]; exact jcV.fl (by rw [← hf9, ← hqz_118]; omega)) | (have h9 := hqz_120; have h8 := hqz_121; omega)), (by first | omega | rfl | assumption | (rw [hqz_120, hqz_121, t1, t2]; exact jcV.fl (by rw [← hf9, ← hqz_118]; omega)) | (have h9 := hqz_120; have h8 := hqz_121; omega)), (by first | omega | rfl | assumption | (rw [hqz_120, hqz_121, t1, t2]; exact jcV.fl (by rw [← hf9, ← hqz_118]; omega)) | (have h9 := hqz_120; have h8 := hqz_121; omega)), (by first | assumption | (rw [hqz_120, hqz_121, t1, t2]; exact jcV.fl (by rw [← hf9, ← hqz_118]; omega)) | (have h9 := hqz_120; have h8 := hqz_121; omega) | omega)⟩⟩⟩ rfl rfl hl.1 rfl (lv_room (Nat.le_of_ble_eq_true rfl)) dX1_part_183 ⟨Nat.zero_le _, Nat.zero_le _⟩) hh_116.1 (fun q _ h => h) (fun q h => h) (fun r_123 u_122 t_122 H_122 locs_122 ht_122 hvm_122 hr_123 hb_122 hz_122 hk_122 hS_122 => ?_)
                      rw [ht_122] at hb_122
                      obtain ⟨hb_1221, hb_1222, hb_1223, hb_1224, hb_1225⟩ := hb_122
                      have hh_122 : jSt (dC, dI) B base G0 G0 EX1_partK s.heap 0 0 [(r0, 3, 4, .int ws_12), (r0, 3, 3, .int pl), (r0, 3, 5, .ref sa_), (r0, 3, 6, .ref ea_), (r0, 3, 2, .ref tx_), (r0, 3, 8, .ref ey_), (r0, 3, 7, .ref cc_), (r0, 3, 9, .ref bh)] [(cc_, 176, 40, ca 1, fc_116), (ey_, 177, 40, ca 1, fl_12), (ea_, 172, 40, ca 1, fe_12), (sa_, 171, 40, ca 1, fb_12), (tx_, 173, 1500, ca 1, ft)] [(jFkd, jKD dC dI ca G0 (some r0) kq), ([(3, 0), (3, 1), (3, 2), (3, 3), (3, 4), (3, 5), (3, 6), (3, 7), (3, 8), (3, 9), (3, 10), (3, 11), (3, 12), (3, 13), (3, 14), (3, 15), (3, 16)], jOw (dC, dI) G0 3 r0 s.heap), (jFdo, jDcc dC dI ca G0 (some r0) ph)] H_122 locs_122 := ((hh_116.call hb_1221 hb_1222 hb_1223 hb_1224 hS_122 rfl (L1 := [(r0, 3, 4, .int ws_12), (r0, 3, 3, .int pl), (r0, 3, 5, .ref sa_), (r0, 3, 6, .ref ea_), (r0, 3, 2, .ref tx_), (r0, 3, 8, .ref ey_), (r0, 3, 7, .ref cc_), (r0, 3, 9, .ref bh)]) [0, 1, 2, 3, 4, 5, 6, 7] rfl rfl (M1 := [(cc_, 176, 40, ca 1, fc_116), (ey_, 177, 40, ca 1, fl_12), (ea_, 172, 40, ca 1, fe_12), (sa_, 171, 40, ca 1, fb_12), (tx_, 173, 1500, ca 1, ft)]) [0, 1, 2, 3, 4] rfl rfl (I1 := [(jFkd, jKD dC dI ca G0 (some r0) kq), ([(3, 0), (3, 1), (3, 2), (3, 3), (3, 4), (3, 5), (3, 6), (3, 7), (3, 8), (3, 9), (3, 10), (3, 11), (3, 12), (3, 13), (3, 14), (3, 15), (3, 16)], jOw (dC, dI) G0 3 r0 s.heap), (jFdo, jDcc dC dI ca G0 (some r0) ph)]) [0, 1, 2] rfl rfl).more hb_1225)
                      clear hh_116 ht_122 hvm_122 hz_122 hk_122 hS_122 hb_1221 hb_1222 hb_1223 hb_1224 hb_1225
                      obtain ⟨hr_123_0, hr_123_1, hr_123_2⟩ := hr_123
                      refine lv_iadd hx hb dX1_part_186 ?_
                      refine lv_topi (fun z_124 ez_124 => ?_)
                      have hz_124 : z_124.toInt = 3 + r_123.toInt := by rw [ez_124]; exact jb_iadd2 ((by decide)) (rfl) (by omega)
                      have hd_126 := hh_122.iv 0 rfl
                      have hd_126f := hh_122.at 6 rfl
                      have hh_127 := hh_122.sub (L1 := [(r0, 3, 4, .int ws_12), (r0, 3, 3, .int pl), (r0, 3, 5, .ref sa_), (r0, 3, 6, .ref ea_), (r0, 3, 2, .ref tx_), (r0, 3, 8, .ref ey_), (r0, 3, 7, .ref cc_), (r0, 3, 9, .ref bh)]) [0, 1, 2, 3, 4, 5, 6, 7] rfl (M1 := [(cc_, 176, 40, ca 1, fc_116), (ey_, 177, 40, ca 1, fl_12), (ea_, 172, 40, ca 1, fe_12), (sa_, 171, 40, ca 1, fb_12), (tx_, 173, 1500, ca 1, ft)]) [0, 1, 2, 3, 4] rfl (I1 := [([(3, 0), (3, 1), (3, 2), (3, 3), (3, 4), (3, 5), (3, 6), (3, 7), (3, 8), (3, 9), (3, 10), (3, 11), (3, 12), (3, 13), (3, 14), (3, 15), (3, 16)], jOw (dC, dI) G0 3 r0 s.heap), (jFdo, jDcc dC dI ca G0 (some r0) ph)]) [1, 2] rfl
                      clear hh_122
                      refine j7_iastX hx hb hK hh_127 hB hB176 1 rfl (by decide) (by decide) rfl 0 rfl (M1 := [(ey_, 177, 40, ca 1, fl_12), (ea_, 172, 40, ca 1, fe_12), (sa_, 171, 40, ca 1, fb_12), (tx_, 173, 1500, ca 1, ft)]) [1, 2, 3, 4] rfl rfl rfl hg_cc_ (x := v3_116.toInt) (rfl) (by omega) (trivial) dX1_part_187 (fun H_125 locs_125 fs_128 hv_125 ho_125 hr_125 hh_125 => ?_)
                      have hv_125 : jSo fs_128 (v3_116.toInt) = z_124.toInt := by unfold jSo; rw [hv_125]; try exact rfl
                      clear hh_127
                      have hd_126n := jKD.a7 hd_126 hg_r0 hg_cc_ hd_126f hr_125
                      have hh_129 := hh_125.addI (jKD.ie hd_126n)
                      clear hh_125
                      clear hd_126 hd_126f hd_126n hr_125
                      obtain ⟨z_130, ez_130⟩ : ∃ y : Int32, y = v3_116 + 1 := ⟨_, rfl⟩
                      refine lv_iinc (v := z_130) (lv' := [(3, .int z_130), (0, .ref r0), (1, .ref r1), (2, .int v2_12)]) hx hb dX1_part_188 hl (k := 3) rfl (by rw [ez_130]; rfl) (by decide) rfl (fun ls hl => ?_)
                      have hz_130 : z_130.toInt = v3_116.toInt + 1 := by rw [ez_130]; exact jb_iadd2 (rfl) (by decide) (by omega)
                      refine lv_goto (tgt := 139) hx hb dX1_part_191 (by decide) ?_
                      exact L139 z_130 fs_128 _ _ hh_129 (⟨by omega, by omega, hi_116_2.app (jUpd.mk (n := 40) hv_125 ho_125 rfl (by omega)) (by omega) (by omega) (jcC.t (t := r_123.toInt) (by rw [← hf9, ← hqz_118]; omega) (by have h9 := hr_123_0; rw [hqz_120, hqz_121, t1, t2] at h9; exact h9) (by omega)) (by omega)⟩) (by omega) _ (lv_sub hl [1, 2, 3, 0] rfl)
                    · skip
                      have c_119' : z_118.toInt > 0 := jb_le_n (rfl) ((by decide)) c_119
                      refine lv_iconst (v := 1) hx hb dX1_part_162 (by decide) ?_
                      refine lv_goto (tgt := 186) hx hb dX1_part_163 (by decide) ?_
                      refine lv_iadd hx hb dX1_part_186 ?_
                      refine lv_topi (fun z_131 ez_131 => ?_)
                      have hz_131 : z_131.toInt = 3 + 1 := by rw [ez_131]; exact jb_iadd2 ((by decide)) ((by decide)) (by omega)
                      have hd_133 := hh_116.iv 0 rfl
                      have hd_133f := hh_116.at 6 rfl
                      have hh_134 := hh_116.sub (L1 := [(r0, 3, 4, .int ws_12), (r0, 3, 3, .int pl), (r0, 3, 5, .ref sa_), (r0, 3, 6, .ref ea_), (r0, 3, 2, .ref tx_), (r0, 3, 8, .ref ey_), (r0, 3, 7, .ref cc_), (r0, 3, 9, .ref bh)]) [0, 1, 2, 3, 4, 5, 6, 7] rfl (M1 := [(cc_, 176, 40, ca 1, fc_116), (ey_, 177, 40, ca 1, fl_12), (ea_, 172, 40, ca 1, fe_12), (sa_, 171, 40, ca 1, fb_12), (tx_, 173, 1500, ca 1, ft)]) [0, 1, 2, 3, 4] rfl (I1 := [([(3, 0), (3, 1), (3, 2), (3, 3), (3, 4), (3, 5), (3, 6), (3, 7), (3, 8), (3, 9), (3, 10), (3, 11), (3, 12), (3, 13), (3, 14), (3, 15), (3, 16)], jOw (dC, dI) G0 3 r0 s.heap), (jFdo, jDcc dC dI ca G0 (some r0) ph)]) [1, 2] rfl
                      clear hh_116
                      refine j7_iastX hx hb hK hh_134 hB hB176 1 rfl (by decide) (by decide) rfl 0 rfl (M1 := [(ey_, 177, 40, ca 1, fl_12), (ea_, 172, 40, ca 1, fe_12), (sa_, 171, 40, ca 1, fb_12), (tx_, 173, 1500, ca 1, ft)]) [1, 2, 3, 4] rfl rfl rfl hg_cc_ (x := v3_116.toInt) (rfl) (by omega) (trivial) dX1_part_187 (fun H_132 locs_132 fs_135 hv_132 ho_132 hr_132 hh_132 => ?_)
                      have hv_132 : jSo fs_135 (v3_116.toInt) = z_131.toInt := by unfold jSo; rw [hv_132]; try exact rfl
                      clear hh_134
                      have hd_133n := jKD.a7 hd_133 hg_r0 hg_cc_ hd_133f hr_132
                      have hh_136 := hh_132.addI (jKD.ie hd_133n)
                      clear hh_132
                      clear hd_133 hd_133f hd_133n hr_132
                      obtain ⟨z_137, ez_137⟩ : ∃ y : Int32, y = v3_116 + 1 := ⟨_, rfl⟩
                      refine lv_iinc (v := z_137) (lv' := [(3, .int z_137), (0, .ref r0), (1, .ref r1), (2, .int v2_12)]) hx hb dX1_part_188 hl (k := 3) rfl (by rw [ez_137]; rfl) (by decide) rfl (fun ls hl => ?_)
                      have hz_137 : z_137.toInt = v3_116.toInt + 1 := by rw [ez_137]; exact jb_iadd2 (rfl) (by decide) (by omega)
                      refine lv_goto (tgt := 139) hx hb dX1_part_191 (by decide) ?_
                      exact L139 z_137 fs_135 _ _ hh_136 (⟨by omega, by omega, hi_116_2.app (jUpd.mk (n := 40) hv_132 ho_132 rfl (by omega)) (by omega) (by omega) (jcC.f (by rw [← hf9, ← hqz_118]; omega) (by omega)) (by omega)⟩) (by omega) _ (lv_sub hl [1, 2, 3, 0] rfl)
              exact L139 (ws_12.toInt - (0 : Int32).toInt : Int).toNat.succ 0 fc _ _ (hh_12.sub (L1 := [(r0, 3, 4, .int ws_12), (r0, 3, 3, .int pl), (r0, 3, 5, .ref sa_), (r0, 3, 6, .ref ea_), (r0, 3, 2, .ref tx_), (r0, 3, 8, .ref ey_), (r0, 3, 7, .ref cc_), (r0, 3, 9, .ref bh)]) [0, 1, 2, 3, 4, 5, 6, 7] rfl (M1 := [(cc_, 176, 40, ca 1, fc), (ey_, 177, 40, ca 1, fl_12), (ea_, 172, 40, ca 1, fe_12), (sa_, 171, 40, ca 1, fb_12), (tx_, 173, 1500, ca 1, ft)]) [4, 0, 1, 2, 3] rfl (I1 := [(jFkd, jKD dC dI ca G0 (some r0) kq), ([(3, 0), (3, 1), (3, 2), (3, 3), (3, 4), (3, 5), (3, 6), (3, 7), (3, 8), (3, 9), (3, 10), (3, 11), (3, 12), (3, 13), (3, 14), (3, 15), (3, 16)], jOw (dC, dI) G0 3 r0 s.heap), (jFdo, jDcc dC dI ca G0 (some r0) ph)]) [0, 1, 2] rfl) (⟨by omega, by omega, by rw [hk0]; exact jcPc.nil⟩) (by omega) _ (lv_sub hl [1, 2, 3, 0] rfl)
            · skip
              have c_115' : ws_12.toInt = 40 := jb_ne_n (rfl) ((by decide)) c_115
              refine lv_aload_n hx hb dX1_part_118 rfl (lv_at hl 0 rfl) ?_
              refine j7_read hx hb hown hK (C := RX1) (T := TX1) (N := 17) rfl hly_3_6 hlk_21 (hh_12.at 3 rfl) dX1_part_119 ?_
              refine lv_bipush (v := 39) hx hb dX1_part_122 (by decide) ?_
              refine lv_aload_n hx hb dX1_part_124 rfl (lv_at hl 0 rfl) ?_
              refine j7_read hx hb hown hK (C := RX1) (T := TX1) (N := 17) rfl hly_3_3 hlk_42 (hh_12.at 1 rfl) dX1_part_125 ?_
              have hd_139 := hh_12.iv 0 rfl
              have hd_139e := hh_12.iv 2 rfl
              have hd_139f := hh_12.at 3 rfl
              have hh_140 := hh_12.sub (L1 := [(r0, 3, 4, .int ws_12), (r0, 3, 3, .int pl), (r0, 3, 5, .ref sa_), (r0, 3, 6, .ref ea_), (r0, 3, 2, .ref tx_), (r0, 3, 8, .ref ey_), (r0, 3, 7, .ref cc_), (r0, 3, 9, .ref bh)]) [0, 1, 2, 3, 4, 5, 6, 7] rfl (M1 := [(ey_, 177, 40, ca 1, fl_12), (ea_, 172, 40, ca 1, fe_12), (sa_, 171, 40, ca 1, fb_12), (tx_, 173, 1500, ca 1, ft), (cc_, 176, 40, ca 1, fc)]) [0, 1, 2, 3, 4] rfl (I1 := [([(3, 0), (3, 1), (3, 2), (3, 3), (3, 4), (3, 5), (3, 6), (3, 7), (3, 8), (3, 9), (3, 10), (3, 11), (3, 12), (3, 13), (3, 14), (3, 15), (3, 16)], jOw (dC, dI) G0 3 r0 s.heap)]) [1] rfl
              clear hh_12
              refine j7_iastX hx hb hK hh_140 hB hB172 1 rfl (by decide) (by decide) rfl 1 rfl (M1 := [(ey_, 177, 40, ca 1, fl_12), (sa_, 171, 40, ca 1, fb_12), (tx_, 173, 1500, ca 1, ft), (cc_, 176, 40, ca 1, fc)]) [0, 2, 3, 4] rfl rfl rfl hg_ea_ (x := 39) ((by decide)) (by omega) (by first | omega | (refine ⟨?_, ?_⟩ <;> (first | omega | rfl | assumption | decide | exact Or.inl rfl | exact Or.inr rfl | (simp only; omega)))) dX1_part_128 (fun H_138 locs_138 fs_141 hv_138 ho_138 hr_138 hh_138 => ?_)
              have hv_138 : jSo fs_141 (39) = pl.toInt := by unfold jSo; rw [hv_138]; try exact rfl
              clear hh_140
              have hd_139n := jKD.a6 hd_139 hg_r0 hg_ea_ hd_139f hr_138
              have hh_142 := hh_138.addI (jKD.ie hd_139n)
              clear hh_138
              have hd_139m := jDcc.arr hd_139e hg_r0 hg_ea_ (Or.inr ⟨rfl, hd_139f⟩) hr_138
              have hh_143 := hh_142.addI (jDcc.ie hd_139m)
              clear hh_142
              clear hd_139 hd_139f hd_139n hr_138 hd_139e hd_139m
              refine lv_aload_n hx hb dX1_part_129 rfl (lv_at hl 0 rfl) ?_
              refine j7_read hx hb hown hK (C := RX1) (T := TX1) (N := 17) rfl hly_3_8 hlk_27 (hh_143.at 5 rfl) dX1_part_130 ?_
              refine lv_bipush (v := 39) hx hb dX1_part_133 (by decide) ?_
              refine lv_iconst (v := 2) hx hb dX1_part_135 (by decide) ?_
              have hc_144 := (hh_143.2.2.2.2.2.2.2.1 _ (List.mem_of_getElem? (i := 1) rfl)).2.2.2
              have hh_146 := hh_143.sub (L1 := [(r0, 3, 4, .int ws_12), (r0, 3, 3, .int pl), (r0, 3, 5, .ref sa_), (r0, 3, 6, .ref ea_), (r0, 3, 2, .ref tx_), (r0, 3, 8, .ref ey_), (r0, 3, 7, .ref cc_), (r0, 3, 9, .ref bh)]) [0, 1, 2, 3, 4, 5, 6, 7] rfl (M1 := [(ea_, 172, 40, ca 1, fs_141), (sa_, 171, 40, ca 1, fb_12), (tx_, 173, 1500, ca 1, ft), (cc_, 176, 40, ca 1, fc)]) [0, 2, 3, 4] rfl (I1 := [(jFdo, jDcc dC dI ca G0 (some r0) ph), (jFkd, jKD dC dI ca G0 (some r0) kq), ([(3, 0), (3, 1), (3, 2), (3, 3), (3, 4), (3, 5), (3, 6), (3, 7), (3, 8), (3, 9), (3, 10), (3, 11), (3, 12), (3, 13), (3, 14), (3, 15), (3, 16)], jOw (dC, dI) G0 3 r0 s.heap)]) [0, 1, 2] rfl
              clear hh_143
              refine j7_iastL hx hb hK hh_146 hB hB177 1 rfl (by decide) (by decide) rfl rfl rfl hg_ey_ (x := 39) ((by decide)) (by omega) (trivial) dX1_part_136 (fun H_144 locs_144 fs_145 hv_144 ho_144 hh_144 => ?_)
              have hv_144 : jSo fs_145 (39) = 2 := by unfold jSo; rw [hv_144]; try exact (by decide)
              have ho_144 := ho_144 fl_12 hc_144
              clear hc_144
              clear hh_146
              obtain ⟨hP9, hF9⟩ := hi_12_9.fix (by omega) (by rw [show (40 : Nat) = v3_12.toInt.toNat by omega, ← hi_12_10]; omega) (jUpd.mk (n := 40) hv_138 ho_138 rfl (by omega)) (jUpd.mk (n := 40) hv_144 ho_144 rfl (by omega)) (by omega) (by omega)
              refine lv_iconst (v := 0) hx hb dX1_part_137 (by decide) ?_
              refine lv_istore_n (lv' := [(3, .int 0), (0, .ref r0), (1, .ref r1), (2, .int v2_12)]) hx hb dX1_part_138 rfl hl (by decide) rfl (fun ls hl => ?_)
              have L139 : ∀ (N : Nat) (v3_147 : Int32) (fc_147 : Nat → Int32) (H_147 : Heap) (locs_147 : List Loc), jSt (dC, dI) B base G0 G0 EX1_partK s.heap 0 0 [(r0, 3, 4, .int ws_12), (r0, 3, 3, .int pl), (r0, 3, 5, .ref sa_), (r0, 3, 6, .ref ea_), (r0, 3, 2, .ref tx_), (r0, 3, 8, .ref ey_), (r0, 3, 7, .ref cc_), (r0, 3, 9, .ref bh)] [(cc_, 176, 40, ca 1, fc_147), (ey_, 177, 40, ca 1, fs_145), (ea_, 172, 40, ca 1, fs_141), (sa_, 171, 40, ca 1, fb_12), (tx_, 173, 1500, ca 1, ft)] [(jFdo, jDcc dC dI ca G0 (some r0) ph), (jFkd, jKD dC dI ca G0 (some r0) kq), ([(3, 0), (3, 1), (3, 2), (3, 3), (3, 4), (3, 5), (3, 6), (3, 7), (3, 8), (3, 9), (3, 10), (3, 11), (3, 12), (3, 13), (3, 14), (3, 15), (3, 16)], jOw (dC, dI) G0 3 r0 s.heap)] H_147 locs_147 → (0 ≤ v3_147.toInt ∧ v3_147.toInt ≤ ws_12.toInt ∧ jcPc ft pl.toInt fc_147 v3_147.toInt) → (ws_12.toInt - v3_147.toInt : Int) < N → ∀ ls : Array Slot, lv_has ls 5 [(0, .ref r0), (1, .ref r1), (2, .int v2_12), (3, .int v3_147)] → W p l e R s m ([.ref r0, .ref r1] : List Value).toArray below meth c H_147 locs_147 0 0 Q (F0 m 139 ls []) := by
                intro N
                induction N with
                | zero => intro v3_147 fc_147 H_147 locs_147 hh_147  hi_147 hm; exact absurd hm (by omega)
                | succ N L139 =>
                  intro v3_147 fc_147 H_147 locs_147 hh_147  hi_147 hm_147 ls hl
                  obtain ⟨hi_147_0, hi_147_1, hi_147_2⟩ := hi_147
                  refine lv_iload_n hx hb dX1_part_139 rfl (lv_at hl 3 rfl) ?_
                  refine lv_aload_n hx hb dX1_part_140 rfl (lv_at hl 0 rfl) ?_
                  refine j7_read hx hb hown hK (C := RX1) (T := TX1) (N := 17) rfl hly_3_4 hlk_69 (hh_147.at 0 rfl) dX1_part_141 ?_
                  refine lv_icmp_ge (tgt := 194) hx hb dX1_part_144 (by decide) (fun c_148 => ?_) (fun c_148 => ?_)
                  · skip
                    have c_148' : v3_147.toInt ≥ ws_12.toInt := jb_ge (rfl) (rfl) c_148
                    rw [hQ]
                    exact W.vret hx hb hr (fun t ht hW => ⟨⟨(ws_12, fb_12, fs_141, fs_145, fc_147), rfl, by (try dsimp only); refine ⟨by omega, by omega, ?_, ?_, ?_, ?_⟩; exact jSn.last (jSn.ce hi_12_5 (by omega)) (by omega) hv_138 ho_138; (have h9 := hi_12_7.end (by omega) (by omega); omega); (rw [show (ws_12.toInt) = v3_12.toInt by omega]; exact hP9); (rw [show (ws_12.toInt) = v3_147.toInt by omega]; exact hi_147_2), ⟨⟨⟨hh_147.rt (M1 := [(r0, 3, 4, .int ws_12)]) [0] rfl ht, by rw [ht]; exact hh_147.2.2.2.2.2.2.2.1.sub [3, 2, 1, 0] rfl⟩, by rw [ht]; exact hh_147.iv 2 rfl⟩, by rw [ht]; exact hh_147.2.2.2.2.2.2.2.2.sub (L1 := [(jFdo, jDcc dC dI ca G0 (some r0) ph), (jFkd, jKD dC dI ca G0 (some r0) kq)]) [0, 1] rfl⟩⟩, by rw [ht]; try exact hh_147.1.1, fun q h9 hq => by rw [ht]; try exact hh_147.1.2.1 q h9 hq⟩) hh_147.1.2.2 dX1_part_194
                  · skip
                    have c_148' : v3_147.toInt < ws_12.toInt := jb_ge_n (rfl) (rfl) c_148
                    obtain ⟨t1, t2, t3⟩ := hP9 v3_147.toInt.toNat (by omega)
                    have hf9 := hF9 v3_147.toInt.toNat (by omega)
                    rw [show ((v3_147.toInt.toNat : Nat) : Int) = v3_147.toInt by omega] at t1 t2 hf9
                    have hce := jcE.rg t3
                    have hcb := jcB.nn (f := ft) (n := pl.toInt) (by omega) v3_147.toInt.toNat
                    refine lv_aload_n hx hb dX1_part_147 rfl (lv_at hl 0 rfl) ?_
                    refine j7_read hx hb hown hK (C := RX1) (T := TX1) (N := 17) rfl hly_3_7 hlk_24 (hh_147.at 6 rfl) dX1_part_148 ?_
                    refine lv_iload_n hx hb dX1_part_151 rfl (lv_at hl 3 rfl) ?_
                    refine lv_iconst (v := 3) hx hb dX1_part_152 (by decide) ?_
                    refine lv_aload_n hx hb dX1_part_153 rfl (lv_at hl 0 rfl) ?_
                    refine j7_read hx hb hown hK (C := RX1) (T := TX1) (N := 17) rfl hly_3_8 hlk_27 (hh_147.at 5 rfl) dX1_part_154 ?_
                    refine lv_iload_n hx hb dX1_part_157 rfl (lv_at hl 3 rfl) ?_
                    refine j7_ialdM hx hb hK hh_147 hB177 1 rfl (by decide) hg_ey_ (x := v3_147.toInt) (rfl) (by omega) (j := 1) rfl dX1_part_158 (fun z_149 ez_149 (hz_149 : True) => ?_)
                    have hqz_149 : z_149.toInt = jSo fs_145 (v3_147.toInt) := by unfold jSo; rw [ez_149]
                    refine lv_if_le (tgt := 166) hx hb dX1_part_159 (by decide) (fun c_150 => ?_) (fun c_150 => ?_)
                    · skip
                      have c_150' : z_149.toInt ≤ 0 := jb_le (rfl) ((by decide)) c_150
                      refine lv_aload_n hx hb dX1_part_166 rfl (lv_at hl 1 rfl) ?_
                      refine lv_aload_n hx hb dX1_part_167 rfl (lv_at hl 0 rfl) ?_
                      refine j7_read hx hb hown hK (C := RX1) (T := TX1) (N := 17) rfl hly_3_2 hlk_15 (hh_147.at 4 rfl) dX1_part_168 ?_
                      refine lv_aload_n hx hb dX1_part_171 rfl (lv_at hl 0 rfl) ?_
                      refine j7_read hx hb hown hK (C := RX1) (T := TX1) (N := 17) rfl hly_3_5 hlk_18 (hh_147.at 2 rfl) dX1_part_172 ?_
                      refine lv_iload_n hx hb dX1_part_175 rfl (lv_at hl 3 rfl) ?_
                      refine j7_ialdM hx hb hK hh_147 hB171 1 rfl (by decide) hg_sa_ (x := v3_147.toInt) (rfl) (by omega) (j := 3) rfl dX1_part_176 (fun z_151 ez_151 (hz_151 : 0 ≤ z_151.toInt ∧ z_151.toInt ≤ 1500) => ?_)
                      have hqz_151 : z_151.toInt = jSo fb_12 (v3_147.toInt) := by unfold jSo; rw [ez_151]
                      refine lv_aload_n hx hb dX1_part_177 rfl (lv_at hl 0 rfl) ?_
                      refine j7_read hx hb hown hK (C := RX1) (T := TX1) (N := 17) rfl hly_3_6 hlk_21 (hh_147.at 3 rfl) dX1_part_178 ?_
                      refine lv_iload_n hx hb dX1_part_181 rfl (lv_at hl 3 rfl) ?_
                      refine j7_ialdM hx hb hK hh_147 hB172 1 rfl (by decide) hg_ea_ (x := v3_147.toInt) (rfl) (by omega) (j := 2) rfl dX1_part_182 (fun z_152 ez_152 (hz_152 : 0 ≤ z_152.toInt ∧ z_152.toInt ≤ 1500) => ?_)
                      have hqz_152 : z_152.toInt = jSo fs_141 (v3_147.toInt) := by unfold jSo; rw [ez_152]
                      refine va_calli (A0 := jA base) (H0 := s.heap) (va_runV (As := [.ref tx_, .int z_151, .int z_152]) (rest := [.int 3, .int v3_147, .ref cc_]) ⟨hx, hb, hml, hown, hts⟩ (uX10_scanT l dC dI ca base B hB hAp hB8 hB12 hB101 hB102 hB132 hB133 hB173 hB293 G0 H_147 r1 tx_ z_151 z_152 1500 pl.toInt ft) (cwV 3 hts (jgV (jWr_36 _ (List.mem_of_getElem? (i := 19) rfl)) (jWr_36 _ (List.mem_of_getElem? (i := 20) rfl)) (jWr_36 _ (List.mem_of_getElem? (i := 21) rfl)) (jWr_4 _ (List.mem_of_getElem? (i := 14) rfl)) (jWr_36 _ (List.mem_of_getElem? (i := 22) rfl))) rfl rfl rfl (by decide +kernel) ⟨by rw [← hR]; exact Nat.le_of_ble_eq_true rfl, by rw [← hR]; exact Nat.le_of_ble_eq_true rfl⟩) ⟨fun a U g mk q => by obtain ⟨q0, q1, q2, qK, q10, q11, q12, q13, q14⟩ := q; exact ⟨q0, q1, q2, jG.calling g mk a qK, q10, q11, q12, q13, q14⟩, hh_147.recv (C := RX10) (T := TX10) (N := 11) hB12 rfl (by decide) hg_r1 hK, fun U hU hW => ⟨rfl, hU, hh_147.2.1, hG.step hW hU hh_147.1, hg_r1, hg_tx_, jP.nil, (hh_147.2.2.2.2.2.2.2.1.sub (L1 := [(tx_, 173, 1500, ca 1, ft)]) [4] rfl), ⟨(by first | omega | rfl | assumption | (rw [hqz_151, hqz_152, t1, t2]; exact jcV.fl (by rw [← hf9, ← hqz_149]; omega)) | (have h9 := hqz_151; have h8 := hqz_152; omega)), (by first | omega | rfl | assumption | (rw [hqz_151, hqz_152, t1, t2]; exact jcV.fl (by rw [← hf9, ← hqz_149]; omega)) | (have h9 := hqz_151; have h8 := hqz_152; omega)), (by first | omega | rfl | assumption | (rw [hqz_151, hqz_152, t1, t2]; exact jcV.fl (by rw [← hf9, ← hqz_149]; omega)) | (have h9 := hqz_151; have h8 := hqz_152; omega)), (by first | omega | rfl | assumption | (rw [hqz_151, hqz_152, t1, t2]; exact jcV.fl (by rw [← hf9, ← hqz_149]; omega)) | (have h9 := hqz_151; have h8 := hqz_152; omega)), (by first | omega | rfl | assumption | (rw [hqz_151, hqz_152, t1, t2]; exact jcV.fl (by rw [← hf9, ← hqz_149]; omega)) | (have h9 := hqz_151; have h8 := hqz_152; omega)), (by first | omega | rfl | assumption | (rw [hqz_151, hqz_152, t1, t2]; exact jcV.fl (by rw [← hf9, ← hqz_149]; omega)) | (have h9 := hqz_151; have h8 := hqz_152; omega)), (by first | assumption | (rw [hqz_151, hqz_152, t1, t2]; exact jcV.fl (by rw [← hf9, ← hqz_149]; omega)) | (have h9 := hqz_151; have h8 := hqz_152; omega) | omega)⟩⟩⟩ rfl rfl hl.1 rfl (lv_room (Nat.le_of_ble_eq_true rfl)) dX1_part_183 ⟨Nat.zero_le _, Nat.zero_le _⟩) hh_147.1 (fun q _ h => h) (fun q h => h) (fun r_154 u_153 t_153 H_153 locs_153 ht_153 hvm_153 hr_154 hb_153 hz_153 hk_153 hS_153 => ?_)
                      rw [ht_153] at hb_153
                      obtain ⟨hb_1531, hb_1532, hb_1533, hb_1534, hb_1535⟩ := hb_153
                      have hh_153 : jSt (dC, dI) B base G0 G0 EX1_partK s.heap 0 0 [(r0, 3, 4, .int ws_12), (r0, 3, 3, .int pl), (r0, 3, 5, .ref sa_), (r0, 3, 6, .ref ea_), (r0, 3, 2, .ref tx_), (r0, 3, 8, .ref ey_), (r0, 3, 7, .ref cc_), (r0, 3, 9, .ref bh)] [(cc_, 176, 40, ca 1, fc_147), (ey_, 177, 40, ca 1, fs_145), (ea_, 172, 40, ca 1, fs_141), (sa_, 171, 40, ca 1, fb_12), (tx_, 173, 1500, ca 1, ft)] [(jFdo, jDcc dC dI ca G0 (some r0) ph), (jFkd, jKD dC dI ca G0 (some r0) kq), ([(3, 0), (3, 1), (3, 2), (3, 3), (3, 4), (3, 5), (3, 6), (3, 7), (3, 8), (3, 9), (3, 10), (3, 11), (3, 12), (3, 13), (3, 14), (3, 15), (3, 16)], jOw (dC, dI) G0 3 r0 s.heap)] H_153 locs_153 := ((hh_147.call hb_1531 hb_1532 hb_1533 hb_1534 hS_153 rfl (L1 := [(r0, 3, 4, .int ws_12), (r0, 3, 3, .int pl), (r0, 3, 5, .ref sa_), (r0, 3, 6, .ref ea_), (r0, 3, 2, .ref tx_), (r0, 3, 8, .ref ey_), (r0, 3, 7, .ref cc_), (r0, 3, 9, .ref bh)]) [0, 1, 2, 3, 4, 5, 6, 7] rfl rfl (M1 := [(cc_, 176, 40, ca 1, fc_147), (ey_, 177, 40, ca 1, fs_145), (ea_, 172, 40, ca 1, fs_141), (sa_, 171, 40, ca 1, fb_12), (tx_, 173, 1500, ca 1, ft)]) [0, 1, 2, 3, 4] rfl rfl (I1 := [(jFdo, jDcc dC dI ca G0 (some r0) ph), (jFkd, jKD dC dI ca G0 (some r0) kq), ([(3, 0), (3, 1), (3, 2), (3, 3), (3, 4), (3, 5), (3, 6), (3, 7), (3, 8), (3, 9), (3, 10), (3, 11), (3, 12), (3, 13), (3, 14), (3, 15), (3, 16)], jOw (dC, dI) G0 3 r0 s.heap)]) [0, 1, 2] rfl rfl).more hb_1535)
                      clear hh_147 ht_153 hvm_153 hz_153 hk_153 hS_153 hb_1531 hb_1532 hb_1533 hb_1534 hb_1535
                      obtain ⟨hr_154_0, hr_154_1, hr_154_2⟩ := hr_154
                      refine lv_iadd hx hb dX1_part_186 ?_
                      refine lv_topi (fun z_155 ez_155 => ?_)
                      have hz_155 : z_155.toInt = 3 + r_154.toInt := by rw [ez_155]; exact jb_iadd2 ((by decide)) (rfl) (by omega)
                      have hd_157 := hh_153.iv 1 rfl
                      have hd_157f := hh_153.at 6 rfl
                      have hh_158 := hh_153.sub (L1 := [(r0, 3, 4, .int ws_12), (r0, 3, 3, .int pl), (r0, 3, 5, .ref sa_), (r0, 3, 6, .ref ea_), (r0, 3, 2, .ref tx_), (r0, 3, 8, .ref ey_), (r0, 3, 7, .ref cc_), (r0, 3, 9, .ref bh)]) [0, 1, 2, 3, 4, 5, 6, 7] rfl (M1 := [(cc_, 176, 40, ca 1, fc_147), (ey_, 177, 40, ca 1, fs_145), (ea_, 172, 40, ca 1, fs_141), (sa_, 171, 40, ca 1, fb_12), (tx_, 173, 1500, ca 1, ft)]) [0, 1, 2, 3, 4] rfl (I1 := [(jFdo, jDcc dC dI ca G0 (some r0) ph), ([(3, 0), (3, 1), (3, 2), (3, 3), (3, 4), (3, 5), (3, 6), (3, 7), (3, 8), (3, 9), (3, 10), (3, 11), (3, 12), (3, 13), (3, 14), (3, 15), (3, 16)], jOw (dC, dI) G0 3 r0 s.heap)]) [0, 2] rfl
                      clear hh_153
                      refine j7_iastX hx hb hK hh_158 hB hB176 1 rfl (by decide) (by decide) rfl 0 rfl (M1 := [(ey_, 177, 40, ca 1, fs_145), (ea_, 172, 40, ca 1, fs_141), (sa_, 171, 40, ca 1, fb_12), (tx_, 173, 1500, ca 1, ft)]) [1, 2, 3, 4] rfl rfl rfl hg_cc_ (x := v3_147.toInt) (rfl) (by omega) (trivial) dX1_part_187 (fun H_156 locs_156 fs_159 hv_156 ho_156 hr_156 hh_156 => ?_)
                      have hv_156 : jSo fs_159 (v3_147.toInt) = z_155.toInt := by unfold jSo; rw [hv_156]; try exact rfl
                      clear hh_158
                      have hd_157n := jKD.a7 hd_157 hg_r0 hg_cc_ hd_157f hr_156
                      have hh_160 := hh_156.addI (jKD.ie hd_157n)
                      clear hh_156
                      clear hd_157 hd_157f hd_157n hr_156
                      obtain ⟨z_161, ez_161⟩ : ∃ y : Int32, y = v3_147 + 1 := ⟨_, rfl⟩
                      refine lv_iinc (v := z_161) (lv' := [(3, .int z_161), (0, .ref r0), (1, .ref r1), (2, .int v2_12)]) hx hb dX1_part_188 hl (k := 3) rfl (by rw [ez_161]; rfl) (by decide) rfl (fun ls hl => ?_)
                      have hz_161 : z_161.toInt = v3_147.toInt + 1 := by rw [ez_161]; exact jb_iadd2 (rfl) (by decide) (by omega)
                      refine lv_goto (tgt := 139) hx hb dX1_part_191 (by decide) ?_
                      exact L139 z_161 fs_159 _ _ (hh_160.sub (L1 := [(r0, 3, 4, .int ws_12), (r0, 3, 3, .int pl), (r0, 3, 5, .ref sa_), (r0, 3, 6, .ref ea_), (r0, 3, 2, .ref tx_), (r0, 3, 8, .ref ey_), (r0, 3, 7, .ref cc_), (r0, 3, 9, .ref bh)]) [0, 1, 2, 3, 4, 5, 6, 7] rfl (M1 := [(cc_, 176, 40, ca 1, fs_159), (ey_, 177, 40, ca 1, fs_145), (ea_, 172, 40, ca 1, fs_141), (sa_, 171, 40, ca 1, fb_12), (tx_, 173, 1500, ca 1, ft)]) [0, 1, 2, 3, 4] rfl (I1 := [(jFdo, jDcc dC dI ca G0 (some r0) ph), (jFkd, jKD dC dI ca G0 (some r0) kq), ([(3, 0), (3, 1), (3, 2), (3, 3), (3, 4), (3, 5), (3, 6), (3, 7), (3, 8), (3, 9), (3, 10), (3, 11), (3, 12), (3, 13), (3, 14), (3, 15), (3, 16)], jOw (dC, dI) G0 3 r0 s.heap)]) [1, 0, 2] rfl) (⟨by omega, by omega, hi_147_2.app (jUpd.mk (n := 40) hv_156 ho_156 rfl (by omega)) (by omega) (by omega) (jcC.t (t := r_154.toInt) (by rw [← hf9, ← hqz_149]; omega) (by have h9 := hr_154_0; rw [hqz_151, hqz_152, t1, t2] at h9; exact h9) (by omega)) (by omega)⟩) (by omega) _ (lv_sub hl [1, 2, 3, 0] rfl)
                    · skip
                      have c_150' : z_149.toInt > 0 := jb_le_n (rfl) ((by decide)) c_150
                      refine lv_iconst (v := 1) hx hb dX1_part_162 (by decide) ?_
                      refine lv_goto (tgt := 186) hx hb dX1_part_163 (by decide) ?_
                      refine lv_iadd hx hb dX1_part_186 ?_
                      refine lv_topi (fun z_162 ez_162 => ?_)
                      have hz_162 : z_162.toInt = 3 + 1 := by rw [ez_162]; exact jb_iadd2 ((by decide)) ((by decide)) (by omega)
                      have hd_164 := hh_147.iv 1 rfl
                      have hd_164f := hh_147.at 6 rfl
                      have hh_165 := hh_147.sub (L1 := [(r0, 3, 4, .int ws_12), (r0, 3, 3, .int pl), (r0, 3, 5, .ref sa_), (r0, 3, 6, .ref ea_), (r0, 3, 2, .ref tx_), (r0, 3, 8, .ref ey_), (r0, 3, 7, .ref cc_), (r0, 3, 9, .ref bh)]) [0, 1, 2, 3, 4, 5, 6, 7] rfl (M1 := [(cc_, 176, 40, ca 1, fc_147), (ey_, 177, 40, ca 1, fs_145), (ea_, 172, 40, ca 1, fs_141), (sa_, 171, 40, ca 1, fb_12), (tx_, 173, 1500, ca 1, ft)]) [0, 1, 2, 3, 4] rfl (I1 := [(jFdo, jDcc dC dI ca G0 (some r0) ph), ([(3, 0), (3, 1), (3, 2), (3, 3), (3, 4), (3, 5), (3, 6), (3, 7), (3, 8), (3, 9), (3, 10), (3, 11), (3, 12), (3, 13), (3, 14), (3, 15), (3, 16)], jOw (dC, dI) G0 3 r0 s.heap)]) [0, 2] rfl
                      clear hh_147
                      refine j7_iastX hx hb hK hh_165 hB hB176 1 rfl (by decide) (by decide) rfl 0 rfl (M1 := [(ey_, 177, 40, ca 1, fs_145), (ea_, 172, 40, ca 1, fs_141), (sa_, 171, 40, ca 1, fb_12), (tx_, 173, 1500, ca 1, ft)]) [1, 2, 3, 4] rfl rfl rfl hg_cc_ (x := v3_147.toInt) (rfl) (by omega) (trivial) dX1_part_187 (fun H_163 locs_163 fs_166 hv_163 ho_163 hr_163 hh_163 => ?_)
                      have hv_163 : jSo fs_166 (v3_147.toInt) = z_162.toInt := by unfold jSo; rw [hv_163]; try exact rfl
                      clear hh_165
                      have hd_164n := jKD.a7 hd_164 hg_r0 hg_cc_ hd_164f hr_163
                      have hh_167 := hh_163.addI (jKD.ie hd_164n)
                      clear hh_163
                      clear hd_164 hd_164f hd_164n hr_163
                      obtain ⟨z_168, ez_168⟩ : ∃ y : Int32, y = v3_147 + 1 := ⟨_, rfl⟩
                      refine lv_iinc (v := z_168) (lv' := [(3, .int z_168), (0, .ref r0), (1, .ref r1), (2, .int v2_12)]) hx hb dX1_part_188 hl (k := 3) rfl (by rw [ez_168]; rfl) (by decide) rfl (fun ls hl => ?_)
                      have hz_168 : z_168.toInt = v3_147.toInt + 1 := by rw [ez_168]; exact jb_iadd2 (rfl) (by decide) (by omega)
                      refine lv_goto (tgt := 139) hx hb dX1_part_191 (by decide) ?_
                      exact L139 z_168 fs_166 _ _ (hh_167.sub (L1 := [(r0, 3, 4, .int ws_12), (r0, 3, 3, .int pl), (r0, 3, 5, .ref sa_), (r0, 3, 6, .ref ea_), (r0, 3, 2, .ref tx_), (r0, 3, 8, .ref ey_), (r0, 3, 7, .ref cc_), (r0, 3, 9, .ref bh)]) [0, 1, 2, 3, 4, 5, 6, 7] rfl (M1 := [(cc_, 176, 40, ca 1, fs_166), (ey_, 177, 40, ca 1, fs_145), (ea_, 172, 40, ca 1, fs_141), (sa_, 171, 40, ca 1, fb_12), (tx_, 173, 1500, ca 1, ft)]) [0, 1, 2, 3, 4] rfl (I1 := [(jFdo, jDcc dC dI ca G0 (some r0) ph), (jFkd, jKD dC dI ca G0 (some r0) kq), ([(3, 0), (3, 1), (3, 2), (3, 3), (3, 4), (3, 5), (3, 6), (3, 7), (3, 8), (3, 9), (3, 10), (3, 11), (3, 12), (3, 13), (3, 14), (3, 15), (3, 16)], jOw (dC, dI) G0 3 r0 s.heap)]) [1, 0, 2] rfl) (⟨by omega, by omega, hi_147_2.app (jUpd.mk (n := 40) hv_163 ho_163 rfl (by omega)) (by omega) (by omega) (jcC.f (by rw [← hf9, ← hqz_149]; omega) (by omega)) (by omega)⟩) (by omega) _ (lv_sub hl [1, 2, 3, 0] rfl)
              exact L139 (ws_12.toInt - (0 : Int32).toInt : Int).toNat.succ 0 fc _ _ (hh_144.sub (L1 := [(r0, 3, 4, .int ws_12), (r0, 3, 3, .int pl), (r0, 3, 5, .ref sa_), (r0, 3, 6, .ref ea_), (r0, 3, 2, .ref tx_), (r0, 3, 8, .ref ey_), (r0, 3, 7, .ref cc_), (r0, 3, 9, .ref bh)]) [0, 1, 2, 3, 4, 5, 6, 7] rfl (M1 := [(cc_, 176, 40, ca 1, fc), (ey_, 177, 40, ca 1, fs_145), (ea_, 172, 40, ca 1, fs_141), (sa_, 171, 40, ca 1, fb_12), (tx_, 173, 1500, ca 1, ft)]) [4, 0, 1, 2, 3] rfl (I1 := [(jFdo, jDcc dC dI ca G0 (some r0) ph), (jFkd, jKD dC dI ca G0 (some r0) kq), ([(3, 0), (3, 1), (3, 2), (3, 3), (3, 4), (3, 5), (3, 6), (3, 7), (3, 8), (3, 9), (3, 10), (3, 11), (3, 12), (3, 13), (3, 14), (3, 15), (3, 16)], jOw (dC, dI) G0 3 r0 s.heap)]) [0, 1, 2] rfl) (⟨by omega, by omega, by rw [hk0]; exact jcPc.nil⟩) (by omega) _ (lv_sub hl [1, 2, 3, 0] rfl)
        · skip
          have c_91' : v2_12.toInt < pl.toInt := jb_ge_n (rfl) (rfl) c_91
          refine lv_aload_n hx hb dX1_part_27 rfl (lv_at hl 0 rfl) ?_
          refine lv_iload_n hx hb dX1_part_28 rfl (lv_at hl 2 rfl) ?_
          refine va_calli (A0 := jA base) (H0 := s.heap) (va_runV (As := [.int v2_12]) (rest := []) ⟨hx, hb, hml, hown, hts⟩ (uX1_sentenceEndP l dC dI ca base B hB hAp hB3 hB101 hB173 G0 H_12 r0 v2_12 n0 pl tx_ ft) (cwV 1 hts (jgV (jWr_36 _ (List.mem_of_getElem? (i := 15) rfl)) (jWr_36 _ (List.mem_of_getElem? (i := 16) rfl)) (jWr_36 _ (List.mem_of_getElem? (i := 17) rfl)) (jWr_2 _ (List.mem_of_getElem? (i := 21) rfl)) (jWr_36 _ (List.mem_of_getElem? (i := 18) rfl))) rfl rfl rfl (by decide +kernel) ⟨by rw [← hR]; exact Nat.le_of_ble_eq_true rfl, by rw [← hR]; exact Nat.le_of_ble_eq_true rfl⟩) ⟨fun a U g mk q => by obtain ⟨q0, q1, q2, qK, q10, q11, q12, q13, q14⟩ := q; exact ⟨q0, q1, q2, jG.calling g mk a qK, q10, q11, q12, q13, q14⟩, hh_12.recv (C := RX1) (T := TX1) (N := 17) hB3 rfl (by decide) hg_r0 hK, fun U hU hW => ⟨rfl, hU, hh_12.2.1, hG.step hW hU hh_12.1, hg_r0, hg_tx_, (hh_12.2.2.1.sub (L1 := [(r0, 3, 3, .int pl), (r0, 3, 2, .ref tx_)]) [1, 4] rfl), (hh_12.2.2.2.2.2.2.2.1.sub (L1 := [(tx_, 173, 1500, ca 1, ft)]) [3] rfl), by first | omega | (refine ⟨?_, ?_, ?_⟩ <;> (first | omega | rfl | assumption | decide | exact Or.inl rfl | exact Or.inr rfl | (simp only; omega)))⟩⟩ rfl rfl hl.1 rfl (lv_room (Nat.le_of_ble_eq_true rfl)) dX1_part_29 ⟨Nat.zero_le _, Nat.zero_le _⟩) hh_12.1 (fun q _ h => h) (fun q h => h) (fun r_170 u_169 t_169 H_169 locs_169 ht_169 hvm_169 hr_170 hb_169 hz_169 hk_169 hS_169 => ?_)
          rw [ht_169] at hb_169
          obtain ⟨hb_1691, hb_1692, hb_1693, hb_1694, hb_1695⟩ := hb_169
          have hh_169 : jSt (dC, dI) B base G0 G0 EX1_partK s.heap 0 0 [(r0, 3, 4, .int ws_12), (r0, 3, 3, .int pl), (r0, 3, 5, .ref sa_), (r0, 3, 6, .ref ea_), (r0, 3, 2, .ref tx_), (r0, 3, 8, .ref ey_), (r0, 3, 7, .ref cc_), (r0, 3, 9, .ref bh)] [(ey_, 177, 40, ca 1, fl_12), (ea_, 172, 40, ca 1, fe_12), (sa_, 171, 40, ca 1, fb_12), (tx_, 173, 1500, ca 1, ft), (cc_, 176, 40, ca 1, fc)] [(jFkd, jKD dC dI ca G0 (some r0) kq), ([(3, 0), (3, 1), (3, 2), (3, 3), (3, 4), (3, 5), (3, 6), (3, 7), (3, 8), (3, 9), (3, 10), (3, 11), (3, 12), (3, 13), (3, 14), (3, 15), (3, 16)], jOw (dC, dI) G0 3 r0 s.heap), (jFdo, jDcc dC dI ca G0 (some r0) ph)] H_169 locs_169 := ((hh_12.call hb_1691 hb_1692 hb_1693 hb_1694 hS_169 rfl (L1 := [(r0, 3, 4, .int ws_12), (r0, 3, 3, .int pl), (r0, 3, 5, .ref sa_), (r0, 3, 6, .ref ea_), (r0, 3, 2, .ref tx_), (r0, 3, 8, .ref ey_), (r0, 3, 7, .ref cc_), (r0, 3, 9, .ref bh)]) [0, 1, 2, 3, 4, 5, 6, 7] rfl rfl (M1 := [(ey_, 177, 40, ca 1, fl_12), (ea_, 172, 40, ca 1, fe_12), (sa_, 171, 40, ca 1, fb_12), (tx_, 173, 1500, ca 1, ft), (cc_, 176, 40, ca 1, fc)]) [0, 1, 2, 3, 4] rfl rfl (I1 := [(jFkd, jKD dC dI ca G0 (some r0) kq), ([(3, 0), (3, 1), (3, 2), (3, 3), (3, 4), (3, 5), (3, 6), (3, 7), (3, 8), (3, 9), (3, 10), (3, 11), (3, 12), (3, 13), (3, 14), (3, 15), (3, 16)], jOw (dC, dI) G0 3 r0 s.heap), (jFdo, jDcc dC dI ca G0 (some r0) ph)]) [0, 1, 2] rfl rfl).more hb_1695)
          clear hh_12 ht_169 hvm_169 hz_169 hk_169 hS_169 hb_1691 hb_1692 hb_1693 hb_1694 hb_1695
          obtain ⟨hr_170_0, hr_170_1⟩ := hr_170
          refine lv_istore (lv' := [(4, .int r_170), (0, .ref r0), (1, .ref r1), (2, .int v2_12), (3, .int v3_12)]) hx hb dX1_part_32 hl (by decide) rfl (fun ls hl => ?_)
          refine lv_aload_n hx hb dX1_part_34 rfl (lv_at hl 1 rfl) ?_
          refine j7_read hx hb hown hK (C := RX1) (T := TX1) (N := 17) rfl hly_3_5 hlk_18 (hh_169.at 2 rfl) dX1_part_35 ?_
          refine lv_iload_n hx hb dX1_part_38 rfl (lv_at hl 4 rfl) ?_
          refine lv_iload_n hx hb dX1_part_39 rfl (lv_at hl 3 rfl) ?_
          have hd_172 := hh_169.iv 0 rfl
          have hd_172e := hh_169.iv 2 rfl
          have hd_172f := hh_169.at 2 rfl
          have hh_173 := hh_169.sub (L1 := [(r0, 3, 4, .int ws_12), (r0, 3, 3, .int pl), (r0, 3, 5, .ref sa_), (r0, 3, 6, .ref ea_), (r0, 3, 2, .ref tx_), (r0, 3, 8, .ref ey_), (r0, 3, 7, .ref cc_), (r0, 3, 9, .ref bh)]) [0, 1, 2, 3, 4, 5, 6, 7] rfl (M1 := [(ey_, 177, 40, ca 1, fl_12), (ea_, 172, 40, ca 1, fe_12), (sa_, 171, 40, ca 1, fb_12), (tx_, 173, 1500, ca 1, ft), (cc_, 176, 40, ca 1, fc)]) [0, 1, 2, 3, 4] rfl (I1 := [([(3, 0), (3, 1), (3, 2), (3, 3), (3, 4), (3, 5), (3, 6), (3, 7), (3, 8), (3, 9), (3, 10), (3, 11), (3, 12), (3, 13), (3, 14), (3, 15), (3, 16)], jOw (dC, dI) G0 3 r0 s.heap)]) [1] rfl
          clear hh_169
          refine j7_iastX hx hb hK hh_173 hB hB171 1 rfl (by decide) (by decide) rfl 2 rfl (M1 := [(ey_, 177, 40, ca 1, fl_12), (ea_, 172, 40, ca 1, fe_12), (tx_, 173, 1500, ca 1, ft), (cc_, 176, 40, ca 1, fc)]) [0, 1, 3, 4] rfl rfl rfl hg_sa_ (x := v3_12.toInt) (rfl) (by omega) (by first | omega | (refine ⟨?_, ?_⟩ <;> (first | omega | rfl | assumption | decide | exact Or.inl rfl | exact Or.inr rfl | (simp only; omega)))) dX1_part_40 (fun H_171 locs_171 fs_174 hv_171 ho_171 hr_171 hh_171 => ?_)
          have hv_171 : jSo fs_174 (v3_12.toInt) = v2_12.toInt := by unfold jSo; rw [hv_171]; try exact rfl
          clear hh_173
          have hd_172n := jKD.a5 hd_172 hg_r0 hg_sa_ hd_172f hr_171
          have hh_175 := hh_171.addI (jKD.ie hd_172n)
          clear hh_171
          have hd_172m := jDcc.arr hd_172e hg_r0 hg_sa_ (Or.inl ⟨rfl, hd_172f⟩) hr_171
          have hh_176 := hh_175.addI (jDcc.ie hd_172m)
          clear hh_175
          clear hd_172 hd_172f hd_172n hr_171 hd_172e hd_172m
          refine lv_aload_n hx hb dX1_part_41 rfl (lv_at hl 1 rfl) ?_
          refine j7_read hx hb hown hK (C := RX1) (T := TX1) (N := 17) rfl hly_3_6 hlk_21 (hh_176.at 3 rfl) dX1_part_42 ?_
          refine lv_iload_n hx hb dX1_part_45 rfl (lv_at hl 4 rfl) ?_
          refine lv_iload hx hb dX1_part_46 (lv_at hl 0 rfl) ?_
          refine lv_if_ge (tgt := 58) hx hb dX1_part_48 (by decide) (fun c_177 => ?_) (fun c_177 => ?_)
          · skip
            have c_177' : r_170.toInt ≥ 0 := jb_ge (rfl) ((by decide)) c_177
            first | (have hr_170_1q := hr_170_1.resolve_left (by omega); clear hr_170_1) | (have hr_170_1q := hr_170_1.resolve_right (by omega); clear hr_170_1) | skip
            refine lv_iload hx hb dX1_part_58 (lv_at hl 0 rfl) ?_
            have hd_179 := hh_176.iv 1 rfl
            have hd_179e := hh_176.iv 0 rfl
            have hd_179f := hh_176.at 3 rfl
            have hh_180 := hh_176.sub (L1 := [(r0, 3, 4, .int ws_12), (r0, 3, 3, .int pl), (r0, 3, 5, .ref sa_), (r0, 3, 6, .ref ea_), (r0, 3, 2, .ref tx_), (r0, 3, 8, .ref ey_), (r0, 3, 7, .ref cc_), (r0, 3, 9, .ref bh)]) [0, 1, 2, 3, 4, 5, 6, 7] rfl (M1 := [(sa_, 171, 40, ca 1, fs_174), (ey_, 177, 40, ca 1, fl_12), (ea_, 172, 40, ca 1, fe_12), (tx_, 173, 1500, ca 1, ft), (cc_, 176, 40, ca 1, fc)]) [0, 1, 2, 3, 4] rfl (I1 := [([(3, 0), (3, 1), (3, 2), (3, 3), (3, 4), (3, 5), (3, 6), (3, 7), (3, 8), (3, 9), (3, 10), (3, 11), (3, 12), (3, 13), (3, 14), (3, 15), (3, 16)], jOw (dC, dI) G0 3 r0 s.heap)]) [2] rfl
            clear hh_176
            refine j7_iastX hx hb hK hh_180 hB hB172 1 rfl (by decide) (by decide) rfl 2 rfl (M1 := [(sa_, 171, 40, ca 1, fs_174), (ey_, 177, 40, ca 1, fl_12), (tx_, 173, 1500, ca 1, ft), (cc_, 176, 40, ca 1, fc)]) [0, 1, 3, 4] rfl rfl rfl hg_ea_ (x := v3_12.toInt) (rfl) (by omega) (by first | omega | (refine ⟨?_, ?_⟩ <;> (first | omega | rfl | assumption | decide | exact Or.inl rfl | exact Or.inr rfl | (simp only; omega)))) dX1_part_60 (fun H_178 locs_178 fs_181 hv_178 ho_178 hr_178 hh_178 => ?_)
            have hv_178 : jSo fs_181 (v3_12.toInt) = r_170.toInt := by unfold jSo; rw [hv_178]; try exact rfl
            clear hh_180
            have hd_179n := jKD.a6 hd_179 hg_r0 hg_ea_ hd_179f hr_178
            have hh_182 := hh_178.addI (jKD.ie hd_179n)
            clear hh_178
            have hd_179m := jDcc.arr hd_179e hg_r0 hg_ea_ (Or.inr ⟨rfl, hd_179f⟩) hr_178
            have hh_183 := hh_182.addI (jDcc.ie hd_179m)
            clear hh_182
            clear hd_179 hd_179f hd_179n hr_178 hd_179e hd_179m
            refine lv_aload_n hx hb dX1_part_61 rfl (lv_at hl 1 rfl) ?_
            refine j7_read hx hb hown hK (C := RX1) (T := TX1) (N := 17) rfl hly_3_8 hlk_27 (hh_183.at 5 rfl) dX1_part_62 ?_
            refine lv_iload_n hx hb dX1_part_65 rfl (lv_at hl 4 rfl) ?_
            refine lv_iload hx hb dX1_part_66 (lv_at hl 0 rfl) ?_
            refine lv_if_ge (tgt := 75) hx hb dX1_part_68 (by decide) (fun c_184 => ?_) (fun c_184 => ?_)
            · skip
              have c_184' : r_170.toInt ≥ 0 := jb_ge (rfl) ((by decide)) c_184
              first | (have hr_170_1q := hr_170_1.resolve_left (by omega); clear hr_170_1) | (have hr_170_1q := hr_170_1.resolve_right (by omega); clear hr_170_1) | skip
              refine lv_iconst (v := 0) hx hb dX1_part_75 (by decide) ?_
              have hc_185 := (hh_183.2.2.2.2.2.2.2.1 _ (List.mem_of_getElem? (i := 2) rfl)).2.2.2
              have hh_187 := hh_183.sub (L1 := [(r0, 3, 4, .int ws_12), (r0, 3, 3, .int pl), (r0, 3, 5, .ref sa_), (r0, 3, 6, .ref ea_), (r0, 3, 2, .ref tx_), (r0, 3, 8, .ref ey_), (r0, 3, 7, .ref cc_), (r0, 3, 9, .ref bh)]) [0, 1, 2, 3, 4, 5, 6, 7] rfl (M1 := [(ea_, 172, 40, ca 1, fs_181), (sa_, 171, 40, ca 1, fs_174), (tx_, 173, 1500, ca 1, ft), (cc_, 176, 40, ca 1, fc)]) [0, 1, 3, 4] rfl (I1 := [(jFdo, jDcc dC dI ca G0 (some r0) ph), (jFkd, jKD dC dI ca G0 (some r0) kq), ([(3, 0), (3, 1), (3, 2), (3, 3), (3, 4), (3, 5), (3, 6), (3, 7), (3, 8), (3, 9), (3, 10), (3, 11), (3, 12), (3, 13), (3, 14), (3, 15), (3, 16)], jOw (dC, dI) G0 3 r0 s.heap)]) [0, 1, 2] rfl
              clear hh_183
              refine j7_iastL hx hb hK hh_187 hB hB177 1 rfl (by decide) (by decide) rfl rfl rfl hg_ey_ (x := v3_12.toInt) (rfl) (by omega) (trivial) dX1_part_76 (fun H_185 locs_185 fs_186 hv_185 ho_185 hh_185 => ?_)
              have hv_185 : jSo fs_186 (v3_12.toInt) = 0 := by unfold jSo; rw [hv_185]; try exact (by decide)
              have ho_185 := ho_185 fl_12 hc_185
              clear hc_185
              clear hh_187
              refine lv_aload_n hx hb dX1_part_77 rfl (lv_at hl 1 rfl) ?_
              refine lv_iload_n hx hb dX1_part_78 rfl (lv_at hl 4 rfl) ?_
              refine lv_iconst (v := 1) hx hb dX1_part_79 (by decide) ?_
              refine lv_iadd hx hb dX1_part_80 ?_
              refine lv_topi (fun z_188 ez_188 => ?_)
              have hz_188 : z_188.toInt = v3_12.toInt + 1 := by rw [ez_188]; exact jb_iadd2 (rfl) ((by decide)) (by omega)
              have hdg_189 := hh_185.iv 1 rfl
              have hdg_189_5 := hh_185.at 2 rfl
              have hdg_189_6 := hh_185.at 3 rfl
              have hdg_189_7 := hh_185.at 6 rfl
              have hdg_189_9 := hh_185.at 7 rfl
              have hh_190 := hh_185.sub (L1 := [(r0, 3, 4, .int ws_12), (r0, 3, 3, .int pl), (r0, 3, 5, .ref sa_), (r0, 3, 6, .ref ea_), (r0, 3, 2, .ref tx_), (r0, 3, 8, .ref ey_), (r0, 3, 7, .ref cc_), (r0, 3, 9, .ref bh)]) [0, 1, 2, 3, 4, 5, 6, 7] rfl (M1 := [(ey_, 177, 40, ca 1, fs_186), (ea_, 172, 40, ca 1, fs_181), (sa_, 171, 40, ca 1, fs_174), (tx_, 173, 1500, ca 1, ft), (cc_, 176, 40, ca 1, fc)]) [0, 1, 2, 3, 4] rfl (I1 := [(jFdo, jDcc dC dI ca G0 (some r0) ph), ([(3, 0), (3, 1), (3, 2), (3, 3), (3, 4), (3, 5), (3, 6), (3, 7), (3, 8), (3, 9), (3, 10), (3, 11), (3, 12), (3, 13), (3, 14), (3, 15), (3, 16)], jOw (dC, dI) G0 3 r0 s.heap)]) [0, 2] rfl
              clear hh_185
              have hd_192 := hh_190.iv 0 rfl
              have hd_1925 := hh_190.at 2 rfl
              have hd_1926 := hh_190.at 3 rfl
              have hd_192o := hh_190.iv 1 rfl
              have hh_193 := hh_190.sub (L1 := [(r0, 3, 4, .int ws_12), (r0, 3, 3, .int pl), (r0, 3, 5, .ref sa_), (r0, 3, 6, .ref ea_), (r0, 3, 2, .ref tx_), (r0, 3, 8, .ref ey_), (r0, 3, 7, .ref cc_), (r0, 3, 9, .ref bh)]) [0, 1, 2, 3, 4, 5, 6, 7] rfl (M1 := [(ey_, 177, 40, ca 1, fs_186), (ea_, 172, 40, ca 1, fs_181), (sa_, 171, 40, ca 1, fs_174), (tx_, 173, 1500, ca 1, ft), (cc_, 176, 40, ca 1, fc)]) [0, 1, 2, 3, 4] rfl (I1 := []) [] rfl
              clear hh_190
              refine j7_putX hx hb hown hK hh_193 hB hAp hB3 (C := RX1) (T := TX1) (N := 17) rfl (by decide) hg_r0 (i := 4) (by decide) hly_3_4 rfl hlk_69 rfl (ty := .int) (v := .int z_188) (by decide +kernel) rfl rfl (⟨_, rfl, by omega, by omega⟩) rfl (L1 := [(r0, 3, 3, .int pl), (r0, 3, 5, .ref sa_), (r0, 3, 6, .ref ea_), (r0, 3, 2, .ref tx_), (r0, 3, 8, .ref ey_), (r0, 3, 7, .ref cc_), (r0, 3, 9, .ref bh)]) [1, 2, 3, 4, 5, 6, 7] rfl rfl rfl dX1_part_81 (fun H_191 locs_191 hr_191 hh_191 => ?_)
              clear hh_193
              have hd_192n := jDcc.fld hd_192 hg_r0 hr_191 hd_1925 hd_1926 (hh_191.at 2 rfl) (hh_191.at 3 rfl)
              have hd_192on := jOw.put hd_192o hr_191
              have hh_194 := hh_191.addI (jDcc.ie hd_192n)
              clear hh_191
              have hh_195 := hh_194.addI (jOw.ie (dC := dC) (dI := dI) (G0 := G0) (k := 3) (r := r0) (H0 := s.heap) (F := [(3, 0), (3, 1), (3, 2), (3, 3), (3, 4), (3, 5), (3, 6), (3, 7), (3, 8), (3, 9), (3, 10), (3, 11), (3, 12), (3, 13), (3, 14), (3, 15), (3, 16)]) (C := RX1) (T := TX1) (N := 17) rfl (by decide) hh_194.2.2.2.2.1 (hd_192on))
              clear hh_194
              clear hd_192 hd_192n hd_1925 hd_1926 hd_192o hd_192on
              have hdg_189n := jKD.fld (ca := ca) hdg_189 hg_r0 hr_191 hdg_189_5 hdg_189_6 hdg_189_7 hdg_189_9 (hh_195.at 2 rfl) (hh_195.at 3 rfl) (hh_195.at 6 rfl) (hh_195.at 7 rfl)
              have hh_196 := hh_195.addI (jKD.ie hdg_189n)
              clear hh_195
              clear hdg_189 hdg_189n hr_191 hdg_189_5 hdg_189_6 hdg_189_7 hdg_189_9
              refine lv_aload_n hx hb dX1_part_84 rfl (lv_at hl 1 rfl) ?_
              refine lv_aload_n hx hb dX1_part_85 rfl (lv_at hl 1 rfl) ?_
              refine j7_read hx hb hown hK (C := RX1) (T := TX1) (N := 17) rfl hly_3_6 hlk_21 (hh_196.at 3 rfl) dX1_part_86 ?_
              refine lv_iload_n hx hb dX1_part_89 rfl (lv_at hl 4 rfl) ?_
              refine j7_ialdM hx hb hK hh_196 hB172 1 rfl (by decide) hg_ea_ (x := v3_12.toInt) (rfl) (by omega) (j := 1) rfl dX1_part_90 (fun z_197 ez_197 (hz_197 : 0 ≤ z_197.toInt ∧ z_197.toInt ≤ 1500) => ?_)
              have hqz_197 : z_197.toInt = jSo fs_181 (v3_12.toInt) := by unfold jSo; rw [ez_197]
              refine va_calli (A0 := jA base) (H0 := s.heap) (va_runV (As := [.int z_197]) (rest := []) ⟨hx, hb, hml, hown, hts⟩ (uX1_sentenceBeginP l dC dI ca base B hB hAp hB3 hB101 hB173 G0 H_191 r0 z_197 n0 pl tx_ ft) (cwV 1 hts (jgV (jWr_36 _ (List.mem_of_getElem? (i := 6) rfl)) (jWr_36 _ (List.mem_of_getElem? (i := 7) rfl)) (jWr_36 _ (List.mem_of_getElem? (i := 8) rfl)) (jWr_2 _ (List.mem_of_getElem? (i := 21) rfl)) (jWr_36 _ (List.mem_of_getElem? (i := 9) rfl))) rfl rfl rfl (by decide +kernel) ⟨by rw [← hR]; exact Nat.le_of_ble_eq_true rfl, by rw [← hR]; exact Nat.le_of_ble_eq_true rfl⟩) ⟨fun a U g mk q => by obtain ⟨q0, q1, q2, qK, q10, q11, q12, q13, q14⟩ := q; exact ⟨q0, q1, q2, jG.calling g mk a qK, q10, q11, q12, q13, q14⟩, hh_196.recv (C := RX1) (T := TX1) (N := 17) hB3 rfl (by decide) hg_r0 hK, fun U hU hW => ⟨rfl, hU, hh_196.2.1, hG.step hW hU hh_196.1, hg_r0, hg_tx_, (hh_196.2.2.1.sub (L1 := [(r0, 3, 3, .int pl), (r0, 3, 2, .ref tx_)]) [1, 4] rfl), (hh_196.2.2.2.2.2.2.2.1.sub (L1 := [(tx_, 173, 1500, ca 1, ft)]) [3] rfl), by first | omega | (refine ⟨?_, ?_, ?_⟩ <;> (first | omega | rfl | assumption | decide | exact Or.inl rfl | exact Or.inr rfl | (simp only; omega)))⟩⟩ rfl rfl hl.1 rfl (lv_room (Nat.le_of_ble_eq_true rfl)) dX1_part_91 ⟨Nat.zero_le _, Nat.zero_le _⟩) hh_196.1 (fun q _ h => h) (fun q h => h) (fun r_199 u_198 t_198 H_198 locs_198 ht_198 hvm_198 hr_199 hb_198 hz_198 hk_198 hS_198 => ?_)
              rw [ht_198] at hb_198
              obtain ⟨hb_1981, hb_1982, hb_1983, hb_1984, hb_1985⟩ := hb_198
              have hh_198 : jSt (dC, dI) B base G0 G0 EX1_partK s.heap 0 0 [(r0, 3, 4, .int z_188), (r0, 3, 3, .int pl), (r0, 3, 5, .ref sa_), (r0, 3, 6, .ref ea_), (r0, 3, 2, .ref tx_), (r0, 3, 8, .ref ey_), (r0, 3, 7, .ref cc_), (r0, 3, 9, .ref bh)] [(ey_, 177, 40, ca 1, fs_186), (ea_, 172, 40, ca 1, fs_181), (sa_, 171, 40, ca 1, fs_174), (tx_, 173, 1500, ca 1, ft), (cc_, 176, 40, ca 1, fc)] [(jFkd, jKD dC dI ca G0 (some r0) kq), ([(3, 0), (3, 1), (3, 2), (3, 3), (3, 4), (3, 5), (3, 6), (3, 7), (3, 8), (3, 9), (3, 10), (3, 11), (3, 12), (3, 13), (3, 14), (3, 15), (3, 16)], jOw (dC, dI) G0 3 r0 s.heap), (jFdo, jDcc dC dI ca G0 (some r0) ph)] H_198 locs_198 := ((hh_196.call hb_1981 hb_1982 hb_1983 hb_1984 hS_198 rfl (L1 := [(r0, 3, 4, .int z_188), (r0, 3, 3, .int pl), (r0, 3, 5, .ref sa_), (r0, 3, 6, .ref ea_), (r0, 3, 2, .ref tx_), (r0, 3, 8, .ref ey_), (r0, 3, 7, .ref cc_), (r0, 3, 9, .ref bh)]) [0, 1, 2, 3, 4, 5, 6, 7] rfl rfl (M1 := [(ey_, 177, 40, ca 1, fs_186), (ea_, 172, 40, ca 1, fs_181), (sa_, 171, 40, ca 1, fs_174), (tx_, 173, 1500, ca 1, ft), (cc_, 176, 40, ca 1, fc)]) [0, 1, 2, 3, 4] rfl rfl (I1 := [(jFkd, jKD dC dI ca G0 (some r0) kq), ([(3, 0), (3, 1), (3, 2), (3, 3), (3, 4), (3, 5), (3, 6), (3, 7), (3, 8), (3, 9), (3, 10), (3, 11), (3, 12), (3, 13), (3, 14), (3, 15), (3, 16)], jOw (dC, dI) G0 3 r0 s.heap), (jFdo, jDcc dC dI ca G0 (some r0) ph)]) [0, 1, 2] rfl rfl).more hb_1985)
              clear hh_196 ht_198 hvm_198 hz_198 hk_198 hS_198 hb_1981 hb_1982 hb_1983 hb_1984 hb_1985
              obtain ⟨hr_199_0, hr_199_1, hr_199_2⟩ := hr_199
              refine lv_istore_n (lv' := [(2, .int r_199), (4, .int r_170), (0, .ref r0), (1, .ref r1), (3, .int v3_12)]) hx hb dX1_part_94 rfl hl (by decide) rfl (fun ls hl => ?_)
              obtain ⟨z_200, ez_200⟩ : ∃ y : Int32, y = v3_12 + 1 := ⟨_, rfl⟩
              refine lv_iinc (v := z_200) (lv' := [(3, .int z_200), (2, .int r_199), (4, .int r_170), (0, .ref r0), (1, .ref r1)]) hx hb dX1_part_95 hl (k := 4) rfl (by rw [ez_200]; rfl) (by decide) rfl (fun ls hl => ?_)
              have hz_200 : z_200.toInt = v3_12.toInt + 1 := by rw [ez_200]; exact jb_iadd2 (rfl) (by decide) (by omega)
              refine lv_goto (tgt := 13) hx hb dX1_part_98 (by decide) ?_
              exact L13 r_199 z_200 z_188 fs_174 fs_181 fs_186 (kf - 1) _ _ hh_198 ( by refine ⟨by omega, by omega, by omega, by omega, by omega, jSn.put hi_12_5 hi_12_6 hv_171 ho_171 hv_178 ho_178 (by omega) (by omega) (by omega) (by omega) (by omega) (by omega), jSn.nx hv_178 (by omega) (by omega), hi_12_7.step (by omega) (by omega) (by omega) (by rw [hr_199_0, hqz_197, hv_178]; congr 1; unfold jEn; rw [← hr_170_0]; first | (rw [if_pos (by omega)]; done) | (rw [if_neg (by omega)]; done) | (exfalso; omega)) (by omega), by omega, hi_12_9.app (jUpd.mk (n := 40) hv_171 ho_171 rfl (by omega)) (jUpd.mk (n := 40) hv_178 ho_178 rfl (by omega)) (jUpd.mk (n := 40) hv_185 ho_185 rfl (by omega)) (by omega) (by omega) (by omega) hi_12_10 (by unfold jEn; rw [← hr_170_0]; first | (rw [if_pos (by omega)]; done) | (rw [if_neg (by omega)]; done) | (exfalso; omega)) (by rw [← hr_170_0]; first | (rw [if_pos (by omega)]; done) | (rw [if_neg (by omega)]; done) | (exfalso; omega)) (by omega), jcB.nx (by omega) hi_12_10 (by rw [hr_199_0, hqz_197, hv_178]; congr 1; unfold jEn; rw [← hr_170_0]; first | (rw [if_pos (by omega)]; done) | (rw [if_neg (by omega)]; done) | (exfalso; omega)) (by omega)⟩) (by omega) _ (lv_sub hl [3, 4, 1, 0] rfl)
            · skip
              have c_184' : r_170.toInt < 0 := jb_ge_n (rfl) ((by decide)) c_184
              first | (have hr_170_1q := hr_170_1.resolve_left (by omega); clear hr_170_1) | (have hr_170_1q := hr_170_1.resolve_right (by omega); clear hr_170_1) | skip
              refine lv_iconst (v := 1) hx hb dX1_part_71 (by decide) ?_
              refine lv_goto (tgt := 76) hx hb dX1_part_72 (by decide) ?_
              have hc_201 := (hh_183.2.2.2.2.2.2.2.1 _ (List.mem_of_getElem? (i := 2) rfl)).2.2.2
              have hh_203 := hh_183.sub (L1 := [(r0, 3, 4, .int ws_12), (r0, 3, 3, .int pl), (r0, 3, 5, .ref sa_), (r0, 3, 6, .ref ea_), (r0, 3, 2, .ref tx_), (r0, 3, 8, .ref ey_), (r0, 3, 7, .ref cc_), (r0, 3, 9, .ref bh)]) [0, 1, 2, 3, 4, 5, 6, 7] rfl (M1 := [(ea_, 172, 40, ca 1, fs_181), (sa_, 171, 40, ca 1, fs_174), (tx_, 173, 1500, ca 1, ft), (cc_, 176, 40, ca 1, fc)]) [0, 1, 3, 4] rfl (I1 := [(jFdo, jDcc dC dI ca G0 (some r0) ph), (jFkd, jKD dC dI ca G0 (some r0) kq), ([(3, 0), (3, 1), (3, 2), (3, 3), (3, 4), (3, 5), (3, 6), (3, 7), (3, 8), (3, 9), (3, 10), (3, 11), (3, 12), (3, 13), (3, 14), (3, 15), (3, 16)], jOw (dC, dI) G0 3 r0 s.heap)]) [0, 1, 2] rfl
              clear hh_183
              refine j7_iastL hx hb hK hh_203 hB hB177 1 rfl (by decide) (by decide) rfl rfl rfl hg_ey_ (x := v3_12.toInt) (rfl) (by omega) (trivial) dX1_part_76 (fun H_201 locs_201 fs_202 hv_201 ho_201 hh_201 => ?_)
              have hv_201 : jSo fs_202 (v3_12.toInt) = 1 := by unfold jSo; rw [hv_201]; try exact (by decide)
              have ho_201 := ho_201 fl_12 hc_201
              clear hc_201
              clear hh_203
              refine lv_aload_n hx hb dX1_part_77 rfl (lv_at hl 1 rfl) ?_
              refine lv_iload_n hx hb dX1_part_78 rfl (lv_at hl 4 rfl) ?_
              refine lv_iconst (v := 1) hx hb dX1_part_79 (by decide) ?_
              refine lv_iadd hx hb dX1_part_80 ?_
              refine lv_topi (fun z_204 ez_204 => ?_)
              have hz_204 : z_204.toInt = v3_12.toInt + 1 := by rw [ez_204]; exact jb_iadd2 (rfl) ((by decide)) (by omega)
              have hdg_205 := hh_201.iv 1 rfl
              have hdg_205_5 := hh_201.at 2 rfl
              have hdg_205_6 := hh_201.at 3 rfl
              have hdg_205_7 := hh_201.at 6 rfl
              have hdg_205_9 := hh_201.at 7 rfl
              have hh_206 := hh_201.sub (L1 := [(r0, 3, 4, .int ws_12), (r0, 3, 3, .int pl), (r0, 3, 5, .ref sa_), (r0, 3, 6, .ref ea_), (r0, 3, 2, .ref tx_), (r0, 3, 8, .ref ey_), (r0, 3, 7, .ref cc_), (r0, 3, 9, .ref bh)]) [0, 1, 2, 3, 4, 5, 6, 7] rfl (M1 := [(ey_, 177, 40, ca 1, fs_202), (ea_, 172, 40, ca 1, fs_181), (sa_, 171, 40, ca 1, fs_174), (tx_, 173, 1500, ca 1, ft), (cc_, 176, 40, ca 1, fc)]) [0, 1, 2, 3, 4] rfl (I1 := [(jFdo, jDcc dC dI ca G0 (some r0) ph), ([(3, 0), (3, 1), (3, 2), (3, 3), (3, 4), (3, 5), (3, 6), (3, 7), (3, 8), (3, 9), (3, 10), (3, 11), (3, 12), (3, 13), (3, 14), (3, 15), (3, 16)], jOw (dC, dI) G0 3 r0 s.heap)]) [0, 2] rfl
              clear hh_201
              have hd_208 := hh_206.iv 0 rfl
              have hd_2085 := hh_206.at 2 rfl
              have hd_2086 := hh_206.at 3 rfl
              have hd_208o := hh_206.iv 1 rfl
              have hh_209 := hh_206.sub (L1 := [(r0, 3, 4, .int ws_12), (r0, 3, 3, .int pl), (r0, 3, 5, .ref sa_), (r0, 3, 6, .ref ea_), (r0, 3, 2, .ref tx_), (r0, 3, 8, .ref ey_), (r0, 3, 7, .ref cc_), (r0, 3, 9, .ref bh)]) [0, 1, 2, 3, 4, 5, 6, 7] rfl (M1 := [(ey_, 177, 40, ca 1, fs_202), (ea_, 172, 40, ca 1, fs_181), (sa_, 171, 40, ca 1, fs_174), (tx_, 173, 1500, ca 1, ft), (cc_, 176, 40, ca 1, fc)]) [0, 1, 2, 3, 4] rfl (I1 := []) [] rfl
              clear hh_206
              refine j7_putX hx hb hown hK hh_209 hB hAp hB3 (C := RX1) (T := TX1) (N := 17) rfl (by decide) hg_r0 (i := 4) (by decide) hly_3_4 rfl hlk_69 rfl (ty := .int) (v := .int z_204) (by decide +kernel) rfl rfl (⟨_, rfl, by omega, by omega⟩) rfl (L1 := [(r0, 3, 3, .int pl), (r0, 3, 5, .ref sa_), (r0, 3, 6, .ref ea_), (r0, 3, 2, .ref tx_), (r0, 3, 8, .ref ey_), (r0, 3, 7, .ref cc_), (r0, 3, 9, .ref bh)]) [1, 2, 3, 4, 5, 6, 7] rfl rfl rfl dX1_part_81 (fun H_207 locs_207 hr_207 hh_207 => ?_)
              clear hh_209
              have hd_208n := jDcc.fld hd_208 hg_r0 hr_207 hd_2085 hd_2086 (hh_207.at 2 rfl) (hh_207.at 3 rfl)
              have hd_208on := jOw.put hd_208o hr_207
              have hh_210 := hh_207.addI (jDcc.ie hd_208n)
              clear hh_207
              have hh_211 := hh_210.addI (jOw.ie (dC := dC) (dI := dI) (G0 := G0) (k := 3) (r := r0) (H0 := s.heap) (F := [(3, 0), (3, 1), (3, 2), (3, 3), (3, 4), (3, 5), (3, 6), (3, 7), (3, 8), (3, 9), (3, 10), (3, 11), (3, 12), (3, 13), (3, 14), (3, 15), (3, 16)]) (C := RX1) (T := TX1) (N := 17) rfl (by decide) hh_210.2.2.2.2.1 (hd_208on))
              clear hh_210
              clear hd_208 hd_208n hd_2085 hd_2086 hd_208o hd_208on
              have hdg_205n := jKD.fld (ca := ca) hdg_205 hg_r0 hr_207 hdg_205_5 hdg_205_6 hdg_205_7 hdg_205_9 (hh_211.at 2 rfl) (hh_211.at 3 rfl) (hh_211.at 6 rfl) (hh_211.at 7 rfl)
              have hh_212 := hh_211.addI (jKD.ie hdg_205n)
              clear hh_211
              clear hdg_205 hdg_205n hr_207 hdg_205_5 hdg_205_6 hdg_205_7 hdg_205_9
              refine lv_aload_n hx hb dX1_part_84 rfl (lv_at hl 1 rfl) ?_
              refine lv_aload_n hx hb dX1_part_85 rfl (lv_at hl 1 rfl) ?_
              refine j7_read hx hb hown hK (C := RX1) (T := TX1) (N := 17) rfl hly_3_6 hlk_21 (hh_212.at 3 rfl) dX1_part_86 ?_
              refine lv_iload_n hx hb dX1_part_89 rfl (lv_at hl 4 rfl) ?_
              refine j7_ialdM hx hb hK hh_212 hB172 1 rfl (by decide) hg_ea_ (x := v3_12.toInt) (rfl) (by omega) (j := 1) rfl dX1_part_90 (fun z_213 ez_213 (hz_213 : 0 ≤ z_213.toInt ∧ z_213.toInt ≤ 1500) => ?_)
              have hqz_213 : z_213.toInt = jSo fs_181 (v3_12.toInt) := by unfold jSo; rw [ez_213]
              refine va_calli (A0 := jA base) (H0 := s.heap) (va_runV (As := [.int z_213]) (rest := []) ⟨hx, hb, hml, hown, hts⟩ (uX1_sentenceBeginP l dC dI ca base B hB hAp hB3 hB101 hB173 G0 H_207 r0 z_213 n0 pl tx_ ft) (cwV 1 hts (jgV (jWr_36 _ (List.mem_of_getElem? (i := 6) rfl)) (jWr_36 _ (List.mem_of_getElem? (i := 7) rfl)) (jWr_36 _ (List.mem_of_getElem? (i := 8) rfl)) (jWr_2 _ (List.mem_of_getElem? (i := 21) rfl)) (jWr_36 _ (List.mem_of_getElem? (i := 9) rfl))) rfl rfl rfl (by decide +kernel) ⟨by rw [← hR]; exact Nat.le_of_ble_eq_true rfl, by rw [← hR]; exact Nat.le_of_ble_eq_true rfl⟩) ⟨fun a U g mk q => by obtain ⟨q0, q1, q2, qK, q10, q11, q12, q13, q14⟩ := q; exact ⟨q0, q1, q2, jG.calling g mk a qK, q10, q11, q12, q13, q14⟩, hh_212.recv (C := RX1) (T := TX1) (N := 17) hB3 rfl (by decide) hg_r0 hK, fun U hU hW => ⟨rfl, hU, hh_212.2.1, hG.step hW hU hh_212.1, hg_r0, hg_tx_, (hh_212.2.2.1.sub (L1 := [(r0, 3, 3, .int pl), (r0, 3, 2, .ref tx_)]) [1, 4] rfl), (hh_212.2.2.2.2.2.2.2.1.sub (L1 := [(tx_, 173, 1500, ca 1, ft)]) [3] rfl), by first | omega | (refine ⟨?_, ?_, ?_⟩ <;> (first | omega | rfl | assumption | decide | exact Or.inl rfl | exact Or.inr rfl | (simp only; omega)))⟩⟩ rfl rfl hl.1 rfl (lv_room (Nat.le_of_ble_eq_true rfl)) dX1_part_91 ⟨Nat.zero_le _, Nat.zero_le _⟩) hh_212.1 (fun q _ h => h) (fun q h => h) (fun r_215 u_214 t_214 H_214 locs_214 ht_214 hvm_214 hr_215 hb_214 hz_214 hk_214 hS_214 => ?_)
              rw [ht_214] at hb_214
              obtain ⟨hb_2141, hb_2142, hb_2143, hb_2144, hb_2145⟩ := hb_214
              have hh_214 : jSt (dC, dI) B base G0 G0 EX1_partK s.heap 0 0 [(r0, 3, 4, .int z_204), (r0, 3, 3, .int pl), (r0, 3, 5, .ref sa_), (r0, 3, 6, .ref ea_), (r0, 3, 2, .ref tx_), (r0, 3, 8, .ref ey_), (r0, 3, 7, .ref cc_), (r0, 3, 9, .ref bh)] [(ey_, 177, 40, ca 1, fs_202), (ea_, 172, 40, ca 1, fs_181), (sa_, 171, 40, ca 1, fs_174), (tx_, 173, 1500, ca 1, ft), (cc_, 176, 40, ca 1, fc)] [(jFkd, jKD dC dI ca G0 (some r0) kq), ([(3, 0), (3, 1), (3, 2), (3, 3), (3, 4), (3, 5), (3, 6), (3, 7), (3, 8), (3, 9), (3, 10), (3, 11), (3, 12), (3, 13), (3, 14), (3, 15), (3, 16)], jOw (dC, dI) G0 3 r0 s.heap), (jFdo, jDcc dC dI ca G0 (some r0) ph)] H_214 locs_214 := ((hh_212.call hb_2141 hb_2142 hb_2143 hb_2144 hS_214 rfl (L1 := [(r0, 3, 4, .int z_204), (r0, 3, 3, .int pl), (r0, 3, 5, .ref sa_), (r0, 3, 6, .ref ea_), (r0, 3, 2, .ref tx_), (r0, 3, 8, .ref ey_), (r0, 3, 7, .ref cc_), (r0, 3, 9, .ref bh)]) [0, 1, 2, 3, 4, 5, 6, 7] rfl rfl (M1 := [(ey_, 177, 40, ca 1, fs_202), (ea_, 172, 40, ca 1, fs_181), (sa_, 171, 40, ca 1, fs_174), (tx_, 173, 1500, ca 1, ft), (cc_, 176, 40, ca 1, fc)]) [0, 1, 2, 3, 4] rfl rfl (I1 := [(jFkd, jKD dC dI ca G0 (some r0) kq), ([(3, 0), (3, 1), (3, 2), (3, 3), (3, 4), (3, 5), (3, 6), (3, 7), (3, 8), (3, 9), (3, 10), (3, 11), (3, 12), (3, 13), (3, 14), (3, 15), (3, 16)], jOw (dC, dI) G0 3 r0 s.heap), (jFdo, jDcc dC dI ca G0 (some r0) ph)]) [0, 1, 2] rfl rfl).more hb_2145)
              clear hh_212 ht_214 hvm_214 hz_214 hk_214 hS_214 hb_2141 hb_2142 hb_2143 hb_2144 hb_2145
              obtain ⟨hr_215_0, hr_215_1, hr_215_2⟩ := hr_215
              refine lv_istore_n (lv' := [(2, .int r_215), (4, .int r_170), (0, .ref r0), (1, .ref r1), (3, .int v3_12)]) hx hb dX1_part_94 rfl hl (by decide) rfl (fun ls hl => ?_)
              obtain ⟨z_216, ez_216⟩ : ∃ y : Int32, y = v3_12 + 1 := ⟨_, rfl⟩
              refine lv_iinc (v := z_216) (lv' := [(3, .int z_216), (2, .int r_215), (4, .int r_170), (0, .ref r0), (1, .ref r1)]) hx hb dX1_part_95 hl (k := 4) rfl (by rw [ez_216]; rfl) (by decide) rfl (fun ls hl => ?_)
              have hz_216 : z_216.toInt = v3_12.toInt + 1 := by rw [ez_216]; exact jb_iadd2 (rfl) (by decide) (by omega)
              refine lv_goto (tgt := 13) hx hb dX1_part_98 (by decide) ?_
              exact L13 r_215 z_216 z_204 fs_174 fs_181 fs_202 (kf - 1) _ _ hh_214 ( by refine ⟨by omega, by omega, by omega, by omega, by omega, jSn.put hi_12_5 hi_12_6 hv_171 ho_171 hv_178 ho_178 (by omega) (by omega) (by omega) (by omega) (by omega) (by omega), jSn.nx hv_178 (by omega) (by omega), hi_12_7.step (by omega) (by omega) (by omega) (by rw [hr_215_0, hqz_213, hv_178]; congr 1; unfold jEn; rw [← hr_170_0]; first | (rw [if_pos (by omega)]; done) | (rw [if_neg (by omega)]; done) | (exfalso; omega)) (by omega), by omega, hi_12_9.app (jUpd.mk (n := 40) hv_171 ho_171 rfl (by omega)) (jUpd.mk (n := 40) hv_178 ho_178 rfl (by omega)) (jUpd.mk (n := 40) hv_201 ho_201 rfl (by omega)) (by omega) (by omega) (by omega) hi_12_10 (by unfold jEn; rw [← hr_170_0]; first | (rw [if_pos (by omega)]; done) | (rw [if_neg (by omega)]; done) | (exfalso; omega)) (by rw [← hr_170_0]; first | (rw [if_pos (by omega)]; done) | (rw [if_neg (by omega)]; done) | (exfalso; omega)) (by omega), jcB.nx (by omega) hi_12_10 (by rw [hr_215_0, hqz_213, hv_178]; congr 1; unfold jEn; rw [← hr_170_0]; first | (rw [if_pos (by omega)]; done) | (rw [if_neg (by omega)]; done) | (exfalso; omega)) (by omega)⟩) (by omega) _ (lv_sub hl [3, 4, 1, 0] rfl)
          · skip
            have c_177' : r_170.toInt < 0 := jb_ge_n (rfl) ((by decide)) c_177
            first | (have hr_170_1q := hr_170_1.resolve_left (by omega); clear hr_170_1) | (have hr_170_1q := hr_170_1.resolve_right (by omega); clear hr_170_1) | skip
            refine lv_aload_n hx hb dX1_part_51 rfl (lv_at hl 1 rfl) ?_
            refine j7_read hx hb hown hK (C := RX1) (T := TX1) (N := 17) rfl hly_3_3 hlk_42 (hh_176.at 1 rfl) dX1_part_52 ?_
            refine lv_goto (tgt := 60) hx hb dX1_part_55 (by decide) ?_
            have hd_218 := hh_176.iv 1 rfl
            have hd_218e := hh_176.iv 0 rfl
            have hd_218f := hh_176.at 3 rfl
            have hh_219 := hh_176.sub (L1 := [(r0, 3, 4, .int ws_12), (r0, 3, 3, .int pl), (r0, 3, 5, .ref sa_), (r0, 3, 6, .ref ea_), (r0, 3, 2, .ref tx_), (r0, 3, 8, .ref ey_), (r0, 3, 7, .ref cc_), (r0, 3, 9, .ref bh)]) [0, 1, 2, 3, 4, 5, 6, 7] rfl (M1 := [(sa_, 171, 40, ca 1, fs_174), (ey_, 177, 40, ca 1, fl_12), (ea_, 172, 40, ca 1, fe_12), (tx_, 173, 1500, ca 1, ft), (cc_, 176, 40, ca 1, fc)]) [0, 1, 2, 3, 4] rfl (I1 := [([(3, 0), (3, 1), (3, 2), (3, 3), (3, 4), (3, 5), (3, 6), (3, 7), (3, 8), (3, 9), (3, 10), (3, 11), (3, 12), (3, 13), (3, 14), (3, 15), (3, 16)], jOw (dC, dI) G0 3 r0 s.heap)]) [2] rfl
            clear hh_176
            refine j7_iastX hx hb hK hh_219 hB hB172 1 rfl (by decide) (by decide) rfl 2 rfl (M1 := [(sa_, 171, 40, ca 1, fs_174), (ey_, 177, 40, ca 1, fl_12), (tx_, 173, 1500, ca 1, ft), (cc_, 176, 40, ca 1, fc)]) [0, 1, 3, 4] rfl rfl rfl hg_ea_ (x := v3_12.toInt) (rfl) (by omega) (by first | omega | (refine ⟨?_, ?_⟩ <;> (first | omega | rfl | assumption | decide | exact Or.inl rfl | exact Or.inr rfl | (simp only; omega)))) dX1_part_60 (fun H_217 locs_217 fs_220 hv_217 ho_217 hr_217 hh_217 => ?_)
            have hv_217 : jSo fs_220 (v3_12.toInt) = pl.toInt := by unfold jSo; rw [hv_217]; try exact rfl
            clear hh_219
            have hd_218n := jKD.a6 hd_218 hg_r0 hg_ea_ hd_218f hr_217
            have hh_221 := hh_217.addI (jKD.ie hd_218n)
            clear hh_217
            have hd_218m := jDcc.arr hd_218e hg_r0 hg_ea_ (Or.inr ⟨rfl, hd_218f⟩) hr_217
            have hh_222 := hh_221.addI (jDcc.ie hd_218m)
            clear hh_221
            clear hd_218 hd_218f hd_218n hr_217 hd_218e hd_218m
            refine lv_aload_n hx hb dX1_part_61 rfl (lv_at hl 1 rfl) ?_
            refine j7_read hx hb hown hK (C := RX1) (T := TX1) (N := 17) rfl hly_3_8 hlk_27 (hh_222.at 5 rfl) dX1_part_62 ?_
            refine lv_iload_n hx hb dX1_part_65 rfl (lv_at hl 4 rfl) ?_
            refine lv_iload hx hb dX1_part_66 (lv_at hl 0 rfl) ?_
            refine lv_if_ge (tgt := 75) hx hb dX1_part_68 (by decide) (fun c_223 => ?_) (fun c_223 => ?_)
            · skip
              have c_223' : r_170.toInt ≥ 0 := jb_ge (rfl) ((by decide)) c_223
              first | (have hr_170_1q := hr_170_1.resolve_left (by omega); clear hr_170_1) | (have hr_170_1q := hr_170_1.resolve_right (by omega); clear hr_170_1) | skip
              refine lv_iconst (v := 0) hx hb dX1_part_75 (by decide) ?_
              have hc_224 := (hh_222.2.2.2.2.2.2.2.1 _ (List.mem_of_getElem? (i := 2) rfl)).2.2.2
              have hh_226 := hh_222.sub (L1 := [(r0, 3, 4, .int ws_12), (r0, 3, 3, .int pl), (r0, 3, 5, .ref sa_), (r0, 3, 6, .ref ea_), (r0, 3, 2, .ref tx_), (r0, 3, 8, .ref ey_), (r0, 3, 7, .ref cc_), (r0, 3, 9, .ref bh)]) [0, 1, 2, 3, 4, 5, 6, 7] rfl (M1 := [(ea_, 172, 40, ca 1, fs_220), (sa_, 171, 40, ca 1, fs_174), (tx_, 173, 1500, ca 1, ft), (cc_, 176, 40, ca 1, fc)]) [0, 1, 3, 4] rfl (I1 := [(jFdo, jDcc dC dI ca G0 (some r0) ph), (jFkd, jKD dC dI ca G0 (some r0) kq), ([(3, 0), (3, 1), (3, 2), (3, 3), (3, 4), (3, 5), (3, 6), (3, 7), (3, 8), (3, 9), (3, 10), (3, 11), (3, 12), (3, 13), (3, 14), (3, 15), (3, 16)], jOw (dC, dI) G0 3 r0 s.heap)]) [0, 1, 2] rfl
              clear hh_222
              refine j7_iastL hx hb hK hh_226 hB hB177 1 rfl (by decide) (by decide) rfl rfl rfl hg_ey_ (x := v3_12.toInt) (rfl) (by omega) (trivial) dX1_part_76 (fun H_224 locs_224 fs_225 hv_224 ho_224 hh_224 => ?_)
              have hv_224 : jSo fs_225 (v3_12.toInt) = 0 := by unfold jSo; rw [hv_224]; try exact (by decide)
              have ho_224 := ho_224 fl_12 hc_224
              clear hc_224
              clear hh_226
              refine lv_aload_n hx hb dX1_part_77 rfl (lv_at hl 1 rfl) ?_
              refine lv_iload_n hx hb dX1_part_78 rfl (lv_at hl 4 rfl) ?_
              refine lv_iconst (v := 1) hx hb dX1_part_79 (by decide) ?_
              refine lv_iadd hx hb dX1_part_80 ?_
              refine lv_topi (fun z_227 ez_227 => ?_)
              have hz_227 : z_227.toInt = v3_12.toInt + 1 := by rw [ez_227]; exact jb_iadd2 (rfl) ((by decide)) (by omega)
              have hdg_228 := hh_224.iv 1 rfl
              have hdg_228_5 := hh_224.at 2 rfl
              have hdg_228_6 := hh_224.at 3 rfl
              have hdg_228_7 := hh_224.at 6 rfl
              have hdg_228_9 := hh_224.at 7 rfl
              have hh_229 := hh_224.sub (L1 := [(r0, 3, 4, .int ws_12), (r0, 3, 3, .int pl), (r0, 3, 5, .ref sa_), (r0, 3, 6, .ref ea_), (r0, 3, 2, .ref tx_), (r0, 3, 8, .ref ey_), (r0, 3, 7, .ref cc_), (r0, 3, 9, .ref bh)]) [0, 1, 2, 3, 4, 5, 6, 7] rfl (M1 := [(ey_, 177, 40, ca 1, fs_225), (ea_, 172, 40, ca 1, fs_220), (sa_, 171, 40, ca 1, fs_174), (tx_, 173, 1500, ca 1, ft), (cc_, 176, 40, ca 1, fc)]) [0, 1, 2, 3, 4] rfl (I1 := [(jFdo, jDcc dC dI ca G0 (some r0) ph), ([(3, 0), (3, 1), (3, 2), (3, 3), (3, 4), (3, 5), (3, 6), (3, 7), (3, 8), (3, 9), (3, 10), (3, 11), (3, 12), (3, 13), (3, 14), (3, 15), (3, 16)], jOw (dC, dI) G0 3 r0 s.heap)]) [0, 2] rfl
              clear hh_224
              have hd_231 := hh_229.iv 0 rfl
              have hd_2315 := hh_229.at 2 rfl
              have hd_2316 := hh_229.at 3 rfl
              have hd_231o := hh_229.iv 1 rfl
              have hh_232 := hh_229.sub (L1 := [(r0, 3, 4, .int ws_12), (r0, 3, 3, .int pl), (r0, 3, 5, .ref sa_), (r0, 3, 6, .ref ea_), (r0, 3, 2, .ref tx_), (r0, 3, 8, .ref ey_), (r0, 3, 7, .ref cc_), (r0, 3, 9, .ref bh)]) [0, 1, 2, 3, 4, 5, 6, 7] rfl (M1 := [(ey_, 177, 40, ca 1, fs_225), (ea_, 172, 40, ca 1, fs_220), (sa_, 171, 40, ca 1, fs_174), (tx_, 173, 1500, ca 1, ft), (cc_, 176, 40, ca 1, fc)]) [0, 1, 2, 3, 4] rfl (I1 := []) [] rfl
              clear hh_229
              refine j7_putX hx hb hown hK hh_232 hB hAp hB3 (C := RX1) (T := TX1) (N := 17) rfl (by decide) hg_r0 (i := 4) (by decide) hly_3_4 rfl hlk_69 rfl (ty := .int) (v := .int z_227) (by decide +kernel) rfl rfl (⟨_, rfl, by omega, by omega⟩) rfl (L1 := [(r0, 3, 3, .int pl), (r0, 3, 5, .ref sa_), (r0, 3, 6, .ref ea_), (r0, 3, 2, .ref tx_), (r0, 3, 8, .ref ey_), (r0, 3, 7, .ref cc_), (r0, 3, 9, .ref bh)]) [1, 2, 3, 4, 5, 6, 7] rfl rfl rfl dX1_part_81 (fun H_230 locs_230 hr_230 hh_230 => ?_)
              clear hh_232
              have hd_231n := jDcc.fld hd_231 hg_r0 hr_230 hd_2315 hd_2316 (hh_230.at 2 rfl) (hh_230.at 3 rfl)
              have hd_231on := jOw.put hd_231o hr_230
              have hh_233 := hh_230.addI (jDcc.ie hd_231n)
              clear hh_230
              have hh_234 := hh_233.addI (jOw.ie (dC := dC) (dI := dI) (G0 := G0) (k := 3) (r := r0) (H0 := s.heap) (F := [(3, 0), (3, 1), (3, 2), (3, 3), (3, 4), (3, 5), (3, 6), (3, 7), (3, 8), (3, 9), (3, 10), (3, 11), (3, 12), (3, 13), (3, 14), (3, 15), (3, 16)]) (C := RX1) (T := TX1) (N := 17) rfl (by decide) hh_233.2.2.2.2.1 (hd_231on))
              clear hh_233
              clear hd_231 hd_231n hd_2315 hd_2316 hd_231o hd_231on
              have hdg_228n := jKD.fld (ca := ca) hdg_228 hg_r0 hr_230 hdg_228_5 hdg_228_6 hdg_228_7 hdg_228_9 (hh_234.at 2 rfl) (hh_234.at 3 rfl) (hh_234.at 6 rfl) (hh_234.at 7 rfl)
              have hh_235 := hh_234.addI (jKD.ie hdg_228n)
              clear hh_234
              clear hdg_228 hdg_228n hr_230 hdg_228_5 hdg_228_6 hdg_228_7 hdg_228_9
              refine lv_aload_n hx hb dX1_part_84 rfl (lv_at hl 1 rfl) ?_
              refine lv_aload_n hx hb dX1_part_85 rfl (lv_at hl 1 rfl) ?_
              refine j7_read hx hb hown hK (C := RX1) (T := TX1) (N := 17) rfl hly_3_6 hlk_21 (hh_235.at 3 rfl) dX1_part_86 ?_
              refine lv_iload_n hx hb dX1_part_89 rfl (lv_at hl 4 rfl) ?_
              refine j7_ialdM hx hb hK hh_235 hB172 1 rfl (by decide) hg_ea_ (x := v3_12.toInt) (rfl) (by omega) (j := 1) rfl dX1_part_90 (fun z_236 ez_236 (hz_236 : 0 ≤ z_236.toInt ∧ z_236.toInt ≤ 1500) => ?_)
              have hqz_236 : z_236.toInt = jSo fs_220 (v3_12.toInt) := by unfold jSo; rw [ez_236]
              refine va_calli (A0 := jA base) (H0 := s.heap) (va_runV (As := [.int z_236]) (rest := []) ⟨hx, hb, hml, hown, hts⟩ (uX1_sentenceBeginP l dC dI ca base B hB hAp hB3 hB101 hB173 G0 H_230 r0 z_236 n0 pl tx_ ft) (cwV 1 hts (jgV (jWr_36 _ (List.mem_of_getElem? (i := 6) rfl)) (jWr_36 _ (List.mem_of_getElem? (i := 7) rfl)) (jWr_36 _ (List.mem_of_getElem? (i := 8) rfl)) (jWr_2 _ (List.mem_of_getElem? (i := 21) rfl)) (jWr_36 _ (List.mem_of_getElem? (i := 9) rfl))) rfl rfl rfl (by decide +kernel) ⟨by rw [← hR]; exact Nat.le_of_ble_eq_true rfl, by rw [← hR]; exact Nat.le_of_ble_eq_true rfl⟩) ⟨fun a U g mk q => by obtain ⟨q0, q1, q2, qK, q10, q11, q12, q13, q14⟩ := q; exact ⟨q0, q1, q2, jG.calling g mk a qK, q10, q11, q12, q13, q14⟩, hh_235.recv (C := RX1) (T := TX1) (N := 17) hB3 rfl (by decide) hg_r0 hK, fun U hU hW => ⟨rfl, hU, hh_235.2.1, hG.step hW hU hh_235.1, hg_r0, hg_tx_, (hh_235.2.2.1.sub (L1 := [(r0, 3, 3, .int pl), (r0, 3, 2, .ref tx_)]) [1, 4] rfl), (hh_235.2.2.2.2.2.2.2.1.sub (L1 := [(tx_, 173, 1500, ca 1, ft)]) [3] rfl), by first | omega | (refine ⟨?_, ?_, ?_⟩ <;> (first | omega | rfl | assumption | decide | exact Or.inl rfl | exact Or.inr rfl | (simp only; omega)))⟩⟩ rfl rfl hl.1 rfl (lv_room (Nat.le_of_ble_eq_true rfl)) dX1_part_91 ⟨Nat.zero_le _, Nat.zero_le _⟩) hh_235.1 (fun q _ h => h) (fun q h => h) (fun r_238 u_237 t_237 H_237 locs_237 ht_237 hvm_237 hr_238 hb_237 hz_237 hk_237 hS_237 => ?_)
              rw [ht_237] at hb_237
              obtain ⟨hb_2371, hb_2372, hb_2373, hb_2374, hb_2375⟩ := hb_237
              have hh_237 : jSt (dC, dI) B base G0 G0 EX1_partK s.heap 0 0 [(r0, 3, 4, .int z_227), (r0, 3, 3, .int pl), (r0, 3, 5, .ref sa_), (r0, 3, 6, .ref ea_), (r0, 3, 2, .ref tx_), (r0, 3, 8, .ref ey_), (r0, 3, 7, .ref cc_), (r0, 3, 9, .ref bh)] [(ey_, 177, 40, ca 1, fs_225), (ea_, 172, 40, ca 1, fs_220), (sa_, 171, 40, ca 1, fs_174), (tx_, 173, 1500, ca 1, ft), (cc_, 176, 40, ca 1, fc)] [(jFkd, jKD dC dI ca G0 (some r0) kq), ([(3, 0), (3, 1), (3, 2), (3, 3), (3, 4), (3, 5), (3, 6), (3, 7), (3, 8), (3, 9), (3, 10), (3, 11), (3, 12), (3, 13), (3, 14), (3, 15), (3, 16)], jOw (dC, dI) G0 3 r0 s.heap), (jFdo, jDcc dC dI ca G0 (some r0) ph)] H_237 locs_237 := ((hh_235.call hb_2371 hb_2372 hb_2373 hb_2374 hS_237 rfl (L1 := [(r0, 3, 4, .int z_227), (r0, 3, 3, .int pl), (r0, 3, 5, .ref sa_), (r0, 3, 6, .ref ea_), (r0, 3, 2, .ref tx_), (r0, 3, 8, .ref ey_), (r0, 3, 7, .ref cc_), (r0, 3, 9, .ref bh)]) [0, 1, 2, 3, 4, 5, 6, 7] rfl rfl (M1 := [(ey_, 177, 40, ca 1, fs_225), (ea_, 172, 40, ca 1, fs_220), (sa_, 171, 40, ca 1, fs_174), (tx_, 173, 1500, ca 1, ft), (cc_, 176, 40, ca 1, fc)]) [0, 1, 2, 3, 4] rfl rfl (I1 := [(jFkd, jKD dC dI ca G0 (some r0) kq), ([(3, 0), (3, 1), (3, 2), (3, 3), (3, 4), (3, 5), (3, 6), (3, 7), (3, 8), (3, 9), (3, 10), (3, 11), (3, 12), (3, 13), (3, 14), (3, 15), (3, 16)], jOw (dC, dI) G0 3 r0 s.heap), (jFdo, jDcc dC dI ca G0 (some r0) ph)]) [0, 1, 2] rfl rfl).more hb_2375)
              clear hh_235 ht_237 hvm_237 hz_237 hk_237 hS_237 hb_2371 hb_2372 hb_2373 hb_2374 hb_2375
              obtain ⟨hr_238_0, hr_238_1, hr_238_2⟩ := hr_238
              refine lv_istore_n (lv' := [(2, .int r_238), (4, .int r_170), (0, .ref r0), (1, .ref r1), (3, .int v3_12)]) hx hb dX1_part_94 rfl hl (by decide) rfl (fun ls hl => ?_)
              obtain ⟨z_239, ez_239⟩ : ∃ y : Int32, y = v3_12 + 1 := ⟨_, rfl⟩
              refine lv_iinc (v := z_239) (lv' := [(3, .int z_239), (2, .int r_238), (4, .int r_170), (0, .ref r0), (1, .ref r1)]) hx hb dX1_part_95 hl (k := 4) rfl (by rw [ez_239]; rfl) (by decide) rfl (fun ls hl => ?_)
              have hz_239 : z_239.toInt = v3_12.toInt + 1 := by rw [ez_239]; exact jb_iadd2 (rfl) (by decide) (by omega)
              refine lv_goto (tgt := 13) hx hb dX1_part_98 (by decide) ?_
              exact L13 r_238 z_239 z_227 fs_174 fs_220 fs_225 (kf - 1) _ _ hh_237 ( by refine ⟨by omega, by omega, by omega, by omega, by omega, jSn.put hi_12_5 hi_12_6 hv_171 ho_171 hv_217 ho_217 (by omega) (by omega) (by omega) (by omega) (by omega) (by omega), jSn.nx hv_217 (by omega) (by omega), hi_12_7.step (by omega) (by omega) (by omega) (by rw [hr_238_0, hqz_236, hv_217]; congr 1; unfold jEn; rw [← hr_170_0]; first | (rw [if_pos (by omega)]; done) | (rw [if_neg (by omega)]; done) | (exfalso; omega)) (by omega), by omega, hi_12_9.app (jUpd.mk (n := 40) hv_171 ho_171 rfl (by omega)) (jUpd.mk (n := 40) hv_217 ho_217 rfl (by omega)) (jUpd.mk (n := 40) hv_224 ho_224 rfl (by omega)) (by omega) (by omega) (by omega) hi_12_10 (by unfold jEn; rw [← hr_170_0]; first | (rw [if_pos (by omega)]; done) | (rw [if_neg (by omega)]; done) | (exfalso; omega)) (by rw [← hr_170_0]; first | (rw [if_pos (by omega)]; done) | (rw [if_neg (by omega)]; done) | (exfalso; omega)) (by omega), jcB.nx (by omega) hi_12_10 (by rw [hr_238_0, hqz_236, hv_217]; congr 1; unfold jEn; rw [← hr_170_0]; first | (rw [if_pos (by omega)]; done) | (rw [if_neg (by omega)]; done) | (exfalso; omega)) (by omega)⟩) (by omega) _ (lv_sub hl [3, 4, 1, 0] rfl)
            · skip
              have c_223' : r_170.toInt < 0 := jb_ge_n (rfl) ((by decide)) c_223
              first | (have hr_170_1q := hr_170_1.resolve_left (by omega); clear hr_170_1) | (have hr_170_1q := hr_170_1.resolve_right (by omega); clear hr_170_1) | skip
              refine lv_iconst (v := 1) hx hb dX1_part_71 (by decide) ?_
              refine lv_goto (tgt := 76) hx hb dX1_part_72 (by decide) ?_
              have hc_240 := (hh_222.2.2.2.2.2.2.2.1 _ (List.mem_of_getElem? (i := 2) rfl)).2.2.2
              have hh_242 := hh_222.sub (L1 := [(r0, 3, 4, .int ws_12), (r0, 3, 3, .int pl), (r0, 3, 5, .ref sa_), (r0, 3, 6, .ref ea_), (r0, 3, 2, .ref tx_), (r0, 3, 8, .ref ey_), (r0, 3, 7, .ref cc_), (r0, 3, 9, .ref bh)]) [0, 1, 2, 3, 4, 5, 6, 7] rfl (M1 := [(ea_, 172, 40, ca 1, fs_220), (sa_, 171, 40, ca 1, fs_174), (tx_, 173, 1500, ca 1, ft), (cc_, 176, 40, ca 1, fc)]) [0, 1, 3, 4] rfl (I1 := [(jFdo, jDcc dC dI ca G0 (some r0) ph), (jFkd, jKD dC dI ca G0 (some r0) kq), ([(3, 0), (3, 1), (3, 2), (3, 3), (3, 4), (3, 5), (3, 6), (3, 7), (3, 8), (3, 9), (3, 10), (3, 11), (3, 12), (3, 13), (3, 14), (3, 15), (3, 16)], jOw (dC, dI) G0 3 r0 s.heap)]) [0, 1, 2] rfl
              clear hh_222
              refine j7_iastL hx hb hK hh_242 hB hB177 1 rfl (by decide) (by decide) rfl rfl rfl hg_ey_ (x := v3_12.toInt) (rfl) (by omega) (trivial) dX1_part_76 (fun H_240 locs_240 fs_241 hv_240 ho_240 hh_240 => ?_)
              have hv_240 : jSo fs_241 (v3_12.toInt) = 1 := by unfold jSo; rw [hv_240]; try exact (by decide)
              have ho_240 := ho_240 fl_12 hc_240
              clear hc_240
              clear hh_242
              refine lv_aload_n hx hb dX1_part_77 rfl (lv_at hl 1 rfl) ?_
              refine lv_iload_n hx hb dX1_part_78 rfl (lv_at hl 4 rfl) ?_
              refine lv_iconst (v := 1) hx hb dX1_part_79 (by decide) ?_
              refine lv_iadd hx hb dX1_part_80 ?_
              refine lv_topi (fun z_243 ez_243 => ?_)
              have hz_243 : z_243.toInt = v3_12.toInt + 1 := by rw [ez_243]; exact jb_iadd2 (rfl) ((by decide)) (by omega)
              have hdg_244 := hh_240.iv 1 rfl
              have hdg_244_5 := hh_240.at 2 rfl
              have hdg_244_6 := hh_240.at 3 rfl
              have hdg_244_7 := hh_240.at 6 rfl
              have hdg_244_9 := hh_240.at 7 rfl
              have hh_245 := hh_240.sub (L1 := [(r0, 3, 4, .int ws_12), (r0, 3, 3, .int pl), (r0, 3, 5, .ref sa_), (r0, 3, 6, .ref ea_), (r0, 3, 2, .ref tx_), (r0, 3, 8, .ref ey_), (r0, 3, 7, .ref cc_), (r0, 3, 9, .ref bh)]) [0, 1, 2, 3, 4, 5, 6, 7] rfl (M1 := [(ey_, 177, 40, ca 1, fs_241), (ea_, 172, 40, ca 1, fs_220), (sa_, 171, 40, ca 1, fs_174), (tx_, 173, 1500, ca 1, ft), (cc_, 176, 40, ca 1, fc)]) [0, 1, 2, 3, 4] rfl (I1 := [(jFdo, jDcc dC dI ca G0 (some r0) ph), ([(3, 0), (3, 1), (3, 2), (3, 3), (3, 4), (3, 5), (3, 6), (3, 7), (3, 8), (3, 9), (3, 10), (3, 11), (3, 12), (3, 13), (3, 14), (3, 15), (3, 16)], jOw (dC, dI) G0 3 r0 s.heap)]) [0, 2] rfl
              clear hh_240
              have hd_247 := hh_245.iv 0 rfl
              have hd_2475 := hh_245.at 2 rfl
              have hd_2476 := hh_245.at 3 rfl
              have hd_247o := hh_245.iv 1 rfl
              have hh_248 := hh_245.sub (L1 := [(r0, 3, 4, .int ws_12), (r0, 3, 3, .int pl), (r0, 3, 5, .ref sa_), (r0, 3, 6, .ref ea_), (r0, 3, 2, .ref tx_), (r0, 3, 8, .ref ey_), (r0, 3, 7, .ref cc_), (r0, 3, 9, .ref bh)]) [0, 1, 2, 3, 4, 5, 6, 7] rfl (M1 := [(ey_, 177, 40, ca 1, fs_241), (ea_, 172, 40, ca 1, fs_220), (sa_, 171, 40, ca 1, fs_174), (tx_, 173, 1500, ca 1, ft), (cc_, 176, 40, ca 1, fc)]) [0, 1, 2, 3, 4] rfl (I1 := []) [] rfl
              clear hh_245
              refine j7_putX hx hb hown hK hh_248 hB hAp hB3 (C := RX1) (T := TX1) (N := 17) rfl (by decide) hg_r0 (i := 4) (by decide) hly_3_4 rfl hlk_69 rfl (ty := .int) (v := .int z_243) (by decide +kernel) rfl rfl (⟨_, rfl, by omega, by omega⟩) rfl (L1 := [(r0, 3, 3, .int pl), (r0, 3, 5, .ref sa_), (r0, 3, 6, .ref ea_), (r0, 3, 2, .ref tx_), (r0, 3, 8, .ref ey_), (r0, 3, 7, .ref cc_), (r0, 3, 9, .ref bh)]) [1, 2, 3, 4, 5, 6, 7] rfl rfl rfl dX1_part_81 (fun H_246 locs_246 hr_246 hh_246 => ?_)
              clear hh_248
              have hd_247n := jDcc.fld hd_247 hg_r0 hr_246 hd_2475 hd_2476 (hh_246.at 2 rfl) (hh_246.at 3 rfl)
              have hd_247on := jOw.put hd_247o hr_246
              have hh_249 := hh_246.addI (jDcc.ie hd_247n)
              clear hh_246
              have hh_250 := hh_249.addI (jOw.ie (dC := dC) (dI := dI) (G0 := G0) (k := 3) (r := r0) (H0 := s.heap) (F := [(3, 0), (3, 1), (3, 2), (3, 3), (3, 4), (3, 5), (3, 6), (3, 7), (3, 8), (3, 9), (3, 10), (3, 11), (3, 12), (3, 13), (3, 14), (3, 15), (3, 16)]) (C := RX1) (T := TX1) (N := 17) rfl (by decide) hh_249.2.2.2.2.1 (hd_247on))
              clear hh_249
              clear hd_247 hd_247n hd_2475 hd_2476 hd_247o hd_247on
              have hdg_244n := jKD.fld (ca := ca) hdg_244 hg_r0 hr_246 hdg_244_5 hdg_244_6 hdg_244_7 hdg_244_9 (hh_250.at 2 rfl) (hh_250.at 3 rfl) (hh_250.at 6 rfl) (hh_250.at 7 rfl)
              have hh_251 := hh_250.addI (jKD.ie hdg_244n)
              clear hh_250
              clear hdg_244 hdg_244n hr_246 hdg_244_5 hdg_244_6 hdg_244_7 hdg_244_9
              refine lv_aload_n hx hb dX1_part_84 rfl (lv_at hl 1 rfl) ?_
              refine lv_aload_n hx hb dX1_part_85 rfl (lv_at hl 1 rfl) ?_
              refine j7_read hx hb hown hK (C := RX1) (T := TX1) (N := 17) rfl hly_3_6 hlk_21 (hh_251.at 3 rfl) dX1_part_86 ?_
              refine lv_iload_n hx hb dX1_part_89 rfl (lv_at hl 4 rfl) ?_
              refine j7_ialdM hx hb hK hh_251 hB172 1 rfl (by decide) hg_ea_ (x := v3_12.toInt) (rfl) (by omega) (j := 1) rfl dX1_part_90 (fun z_252 ez_252 (hz_252 : 0 ≤ z_252.toInt ∧ z_252.toInt ≤ 1500) => ?_)
              have hqz_252 : z_252.toInt = jSo fs_220 (v3_12.toInt) := by unfold jSo; rw [ez_252]
              refine va_calli (A0 := jA base) (H0 := s.heap) (va_runV (As := [.int z_252]) (rest := []) ⟨hx, hb, hml, hown, hts⟩ (uX1_sentenceBeginP l dC dI ca base B hB hAp hB3 hB101 hB173 G0 H_246 r0 z_252 n0 pl tx_ ft) (cwV 1 hts (jgV (jWr_36 _ (List.mem_of_getElem? (i := 6) rfl)) (jWr_36 _ (List.mem_of_getElem? (i := 7) rfl)) (jWr_36 _ (List.mem_of_getElem? (i := 8) rfl)) (jWr_2 _ (List.mem_of_getElem? (i := 21) rfl)) (jWr_36 _ (List.mem_of_getElem? (i := 9) rfl))) rfl rfl rfl (by decide +kernel) ⟨by rw [← hR]; exact Nat.le_of_ble_eq_true rfl, by rw [← hR]; exact Nat.le_of_ble_eq_true rfl⟩) ⟨fun a U g mk q => by obtain ⟨q0, q1, q2, qK, q10, q11, q12, q13, q14⟩ := q; exact ⟨q0, q1, q2, jG.calling g mk a qK, q10, q11, q12, q13, q14⟩, hh_251.recv (C := RX1) (T := TX1) (N := 17) hB3 rfl (by decide) hg_r0 hK, fun U hU hW => ⟨rfl, hU, hh_251.2.1, hG.step hW hU hh_251.1, hg_r0, hg_tx_, (hh_251.2.2.1.sub (L1 := [(r0, 3, 3, .int pl), (r0, 3, 2, .ref tx_)]) [1, 4] rfl), (hh_251.2.2.2.2.2.2.2.1.sub (L1 := [(tx_, 173, 1500, ca 1, ft)]) [3] rfl), by first | omega | (refine ⟨?_, ?_, ?_⟩ <;> (first | omega | rfl | assumption | decide | exact Or.inl rfl | exact Or.inr rfl | (simp only; omega)))⟩⟩ rfl rfl hl.1 rfl (lv_room (Nat.le_of_ble_eq_true rfl)) dX1_part_91 ⟨Nat.zero_le _, Nat.zero_le _⟩) hh_251.1 (fun q _ h => h) (fun q h => h) (fun r_254 u_253 t_253 H_253 locs_253 ht_253 hvm_253 hr_254 hb_253 hz_253 hk_253 hS_253 => ?_)
              rw [ht_253] at hb_253
              obtain ⟨hb_2531, hb_2532, hb_2533, hb_2534, hb_2535⟩ := hb_253
              have hh_253 : jSt (dC, dI) B base G0 G0 EX1_partK s.heap 0 0 [(r0, 3, 4, .int z_243), (r0, 3, 3, .int pl), (r0, 3, 5, .ref sa_), (r0, 3, 6, .ref ea_), (r0, 3, 2, .ref tx_), (r0, 3, 8, .ref ey_), (r0, 3, 7, .ref cc_), (r0, 3, 9, .ref bh)] [(ey_, 177, 40, ca 1, fs_241), (ea_, 172, 40, ca 1, fs_220), (sa_, 171, 40, ca 1, fs_174), (tx_, 173, 1500, ca 1, ft), (cc_, 176, 40, ca 1, fc)] [(jFkd, jKD dC dI ca G0 (some r0) kq), ([(3, 0), (3, 1), (3, 2), (3, 3), (3, 4), (3, 5), (3, 6), (3, 7), (3, 8), (3, 9), (3, 10), (3, 11), (3, 12), (3, 13), (3, 14), (3, 15), (3, 16)], jOw (dC, dI) G0 3 r0 s.heap), (jFdo, jDcc dC dI ca G0 (some r0) ph)] H_253 locs_253 := ((hh_251.call hb_2531 hb_2532 hb_2533 hb_2534 hS_253 rfl (L1 := [(r0, 3, 4, .int z_243), (r0, 3, 3, .int pl), (r0, 3, 5, .ref sa_), (r0, 3, 6, .ref ea_), (r0, 3, 2, .ref tx_), (r0, 3, 8, .ref ey_), (r0, 3, 7, .ref cc_), (r0, 3, 9, .ref bh)]) [0, 1, 2, 3, 4, 5, 6, 7] rfl rfl (M1 := [(ey_, 177, 40, ca 1, fs_241), (ea_, 172, 40, ca 1, fs_220), (sa_, 171, 40, ca 1, fs_174), (tx_, 173, 1500, ca 1, ft), (cc_, 176, 40, ca 1, fc)]) [0, 1, 2, 3, 4] rfl rfl (I1 := [(jFkd, jKD dC dI ca G0 (some r0) kq), ([(3, 0), (3, 1), (3, 2), (3, 3), (3, 4), (3, 5), (3, 6), (3, 7), (3, 8), (3, 9), (3, 10), (3, 11), (3, 12), (3, 13), (3, 14), (3, 15), (3, 16)], jOw (dC, dI) G0 3 r0 s.heap), (jFdo, jDcc dC dI ca G0 (some r0) ph)]) [0, 1, 2] rfl rfl).more hb_2535)
              clear hh_251 ht_253 hvm_253 hz_253 hk_253 hS_253 hb_2531 hb_2532 hb_2533 hb_2534 hb_2535
              obtain ⟨hr_254_0, hr_254_1, hr_254_2⟩ := hr_254
              refine lv_istore_n (lv' := [(2, .int r_254), (4, .int r_170), (0, .ref r0), (1, .ref r1), (3, .int v3_12)]) hx hb dX1_part_94 rfl hl (by decide) rfl (fun ls hl => ?_)
              obtain ⟨z_255, ez_255⟩ : ∃ y : Int32, y = v3_12 + 1 := ⟨_, rfl⟩
              refine lv_iinc (v := z_255) (lv' := [(3, .int z_255), (2, .int r_254), (4, .int r_170), (0, .ref r0), (1, .ref r1)]) hx hb dX1_part_95 hl (k := 4) rfl (by rw [ez_255]; rfl) (by decide) rfl (fun ls hl => ?_)
              have hz_255 : z_255.toInt = v3_12.toInt + 1 := by rw [ez_255]; exact jb_iadd2 (rfl) (by decide) (by omega)
              refine lv_goto (tgt := 13) hx hb dX1_part_98 (by decide) ?_
              exact L13 r_254 z_255 z_243 fs_174 fs_220 fs_241 (kf - 1) _ _ hh_253 ( by refine ⟨by omega, by omega, by omega, by omega, by omega, jSn.put hi_12_5 hi_12_6 hv_171 ho_171 hv_217 ho_217 (by omega) (by omega) (by omega) (by omega) (by omega) (by omega), jSn.nx hv_217 (by omega) (by omega), hi_12_7.step (by omega) (by omega) (by omega) (by rw [hr_254_0, hqz_252, hv_217]; congr 1; unfold jEn; rw [← hr_170_0]; first | (rw [if_pos (by omega)]; done) | (rw [if_neg (by omega)]; done) | (exfalso; omega)) (by omega), by omega, hi_12_9.app (jUpd.mk (n := 40) hv_171 ho_171 rfl (by omega)) (jUpd.mk (n := 40) hv_217 ho_217 rfl (by omega)) (jUpd.mk (n := 40) hv_240 ho_240 rfl (by omega)) (by omega) (by omega) (by omega) hi_12_10 (by unfold jEn; rw [← hr_170_0]; first | (rw [if_pos (by omega)]; done) | (rw [if_neg (by omega)]; done) | (exfalso; omega)) (by rw [← hr_170_0]; first | (rw [if_pos (by omega)]; done) | (rw [if_neg (by omega)]; done) | (exfalso; omega)) (by omega), jcB.nx (by omega) hi_12_10 (by rw [hr_254_0, hqz_252, hv_217]; congr 1; unfold jEn; rw [← hr_170_0]; first | (rw [if_pos (by omega)]; done) | (rw [if_neg (by omega)]; done) | (exfalso; omega)) (by omega)⟩) (by omega) _ (lv_sub hl [3, 4, 1, 0] rfl)
  exact L13 (40 - (0 : Int32).toInt : Int).toNat.succ r_11 0 0 fb fe fl ((pl.toInt - jGap ft pl.toInt 0).toNat + 2) _ _ (hh_10.sub (L1 := [(r0, 3, 4, .int 0), (r0, 3, 3, .int pl), (r0, 3, 5, .ref sa_), (r0, 3, 6, .ref ea_), (r0, 3, 2, .ref tx_), (r0, 3, 8, .ref ey_), (r0, 3, 7, .ref cc_), (r0, 3, 9, .ref bh)]) [0, 1, 2, 3, 4, 5, 6, 7] rfl (M1 := [(ey_, 177, 40, ca 1, fl), (ea_, 172, 40, ca 1, fe), (sa_, 171, 40, ca 1, fb), (tx_, 173, 1500, ca 1, ft), (cc_, 176, 40, ca 1, fc)]) [3, 1, 0, 2, 4] rfl (I1 := [(jFkd, jKD dC dI ca G0 (some r0) kq), ([(3, 0), (3, 1), (3, 2), (3, 3), (3, 4), (3, 5), (3, 6), (3, 7), (3, 8), (3, 9), (3, 10), (3, 11), (3, 12), (3, 13), (3, 14), (3, 15), (3, 16)], jOw (dC, dI) G0 3 r0 s.heap), (jFdo, jDcc dC dI ca G0 (some r0) ph)]) [0, 1, 2] rfl) (by refine ⟨by omega, by omega, by omega, by omega, by omega, jSn.zero (by omega), Or.inl (by omega), ?_, by omega, by rw [hk0]; exact jcQ.nil, by rw [hk0]; exact hr_11_0⟩; rw [hk0, hr_11_0]; exact Or.inl ⟨by omega, rfl⟩) (by omega) _ (lv_sub hl [2, 3, 1, 0] rfl)
end
