section
def EX1_partE : List (Nat × Nat) := [(3, 4), (8, 3), (12, 3), (101, 0), (102, 0), (132, 0), (133, 0), (171, 0), (172, 0), (293, 0)]
set_option maxHeartbeats 4000000 in
set_option maxRecDepth 20000 in
theorem uX1_partE (l : Launch) (dC : Nat → ClassId) (dI : Nat → Nat → Nat) (ca : Nat → ClassId) (base : Nat) (B : jF) (hB : jBok B) (hAp : jAp (dC, dI)) (hB3 : ∀ n G a H, B 3 n G a H ↔ jOb (dC, dI) 3 17 (F3 n G) a H) (hB8 : ∀ n G a H, B 8 n G a H ↔ jOb (dC, dI) 8 4 (F8 n G) a H) (hB12 : ∀ n G a H, B 12 n G a H ↔ jOb (dC, dI) 12 11 (F12b n G) a H) (hB101 : ∀ n G a H, B 101 n G a H ↔ jAr (dC, dI) (ca 1) (fun j z => True) n a H) (hB102 : ∀ n G a H, B 102 n G a H ↔ jAl (dC, dI) (ca 2) n a H) (hB132 : ∀ n G a H, B 132 n G a H ↔ jAr (dC, dI) (ca 1) (fun j z => 0 ≤ z.toInt ∧ z.toInt ≤ 10) n a H) (hB133 : ∀ n G a H, B 133 n G a H ↔ jAr (dC, dI) (ca 1) (fun j z => 0 ≤ z.toInt ∧ z.toInt ≤ 8192) n a H) (hB171 : ∀ n G a H, B 171 n G a H ↔ jAr (dC, dI) (ca 1) (fun j z => 0 ≤ z.toInt ∧ z.toInt ≤ 1500) n a H) (hB172 : ∀ n G a H, B 172 n G a H ↔ jAr (dC, dI) (ca 1) (fun j z => 0 ≤ z.toInt ∧ z.toInt ≤ 1500) n a H) (hB173 : ∀ n G a H, B 173 n G a H ↔ jAr (dC, dI) (ca 1) (fun j z => True) n a H) (hB293 : ∀ n G a H, B 293 n G a H ↔ jAr (dC, dI) (ca 1) (fun j z => -1 ≤ z.toInt ∧ z.toInt ≤ 8191) n a H) (G0 : jT) (H0 : Heap) (r0 : Nat) (r1 : Nat) (n0 : Nat) (pl : Int32) (sa_ : Nat) (ea_ : Nat) (ph : Nat) (fb : Nat → Int32) (fe : Nat → Int32) : Met l yX1_part (jw yX1_part cX1_part 5 none) ({ frames := 6, cells := 0, slots := 0, locals := 208 }) (va_Pc [.ref r0, .ref r1] (fun U => U.heap = H0 ∧ jX B base G0 [] H0 ∧ jG dC dI ca base U ∧ G0 r0 = some (3, n0) ∧ G0 r1 = some (12, 0) ∧ G0 sa_ = some (171, 40) ∧ G0 ea_ = some (172, 40) ∧ jP (dC, dI) G0 H0 [(r0, 3, 3, .int pl), (r0, 3, 5, .ref sa_), (r0, 3, 6, .ref ea_)] ∧ jMc (dC, dI) G0 H0 [(sa_, 171, 40, ca 1, fb), (ea_, 172, 40, ca 1, fe)] ∧ jIs (dC, dI) G0 H0 [(jFdo, jDcc dC dI ca G0 (some r0) ph)] ∧ 0 ≤ pl.toInt ∧ pl.toInt ≤ 1500)) (va_Qv (S := Int32 × (Nat → Int32) × (Nat → Int32)) (fun u => 0 ≤ u.1.toInt ∧ u.1.toInt ≤ 40 ∧ jSn u.2.1 u.2.2 u.1.toInt pl.toInt) (fun u t => ((jRt (dC, dI) B base G0 EX1_partE H0 [(r0, 3, 4, .int u.1)] t.heap ∧ jMc (dC, dI) G0 t.heap [(sa_, 171, 40, ca 1, u.2.1), (ea_, 172, 40, ca 1, u.2.2)]) ∧ jOw (dC, dI) G0 3 r0 H0 t.heap) ∧ jIs (dC, dI) G0 t.heap [(jFdo, jDcc dC dI ca G0 (some r0) ph)]) (jA base)) 0 0 (jA base) := by
  refine Met.ofW (cc := cX1_part) (maxL := 5) (ret := none) (by decide) rfl ?_
  intro p e s m args below meth c s₁ Bd hml hv
  obtain ⟨rfl, hH0, hX, hG, hg_r0, hg_r1, hg_sa_, hg_ea_, hP0, hM0, hI0, hp0, hp1⟩ := hv
  have hK := hG.1
  have hx := Bd.exec
  have hb := Bd.bytes
  have hr := Bd.returns
  have hts := atoms_spec (ws := (jw yX1_part cX1_part 5 none)) Bd.pre
  have htw : ∀ w ∈ jWl, w.before _ s = true := fun w h => hts w (List.mem_cons_of_mem _ h)
  have hown : s.vm.findClass RX1 = some m.cls := findClass_of_methodNamed Bd.named
  have hlocks := Bd.notSynchronized
  obtain ⟨Q, hQ⟩ : ∃ Q, Q = MQ below (va_Qv (S := Int32 × (Nat → Int32) × (Nat → Int32)) (fun u => 0 ≤ u.1.toInt ∧ u.1.toInt ≤ 40 ∧ jSn u.2.1 u.2.2 u.1.toInt pl.toInt) (fun u t => ((jRt (dC, dI) B base G0 EX1_partE H0 [(r0, 3, 4, .int u.1)] t.heap ∧ jMc (dC, dI) G0 t.heap [(sa_, 171, 40, ca 1, u.2.1), (ea_, 172, 40, ca 1, u.2.2)]) ∧ jOw (dC, dI) G0 3 r0 H0 t.heap) ∧ jIs (dC, dI) G0 t.heap [(jFdo, jDcc dC dI ca G0 (some r0) ph)]) (jA base)) ([.ref r0, .ref r1] : List Value).toArray s 0 0 (jA base) := ⟨_, rfl⟩
  rw [← hQ]
  have hl := lv_entry ([.ref r0, .ref r1]) (n := 5) (Nat.le_of_ble_eq_true rfl)
  rw [lg_entry_eq]
  generalize (lg_sl ([.ref r0, .ref r1]) ++ List.replicate (5 - (lg_sl ([.ref r0, .ref r1])).length) Slot.unset).toArray = ls at hl ⊢
  have hl : lv_has ls 5 [(0, .ref r0), (1, .ref r1)] := hl
  generalize hR : (headSpec (jw yX1_part cX1_part 5 none) ({ frames := 6, cells := 0, slots := 0, locals := 208 })).room = R
  subst hH0
  have hh : jSt (dC, dI) B base G0 G0 EX1_partE s.heap 0 0 [(r0, 3, 3, .int pl), (r0, 3, 5, .ref sa_), (r0, 3, 6, .ref ea_)] [(sa_, 171, 40, ca 1, fb), (ea_, 172, 40, ca 1, fe)] [(jFdo, jDcc dC dI ca G0 (some r0) ph)] s.heap [] := jSt.start hX hP0 hM0 hI0
  clear hX hP0
  have hk0 : (0 : Int32).toInt = 0 := by decide
  have hk1 : (1 : Int32).toInt = 1 := by decide
  have hk2 : (2 : Int32).toInt = 2 := by decide
  have hk3 : (3 : Int32).toInt = 3 := by decide
  have hk39 : (39 : Int32).toInt = 39 := by decide
  have hk40 : (40 : Int32).toInt = 40 := by decide
  have hly_3_2 := htw (u_lay RX1 TX1 2) (jWc_wsX10 _ (u_in_lay (by decide)))
  have hly_3_3 := htw (u_lay RX1 TX1 3) (jWc_wsX10 _ (u_in_lay (by decide)))
  have hly_3_4 := htw (u_lay RX1 TX1 4) (jWc_wsX10 _ (u_in_lay (by decide)))
  have hly_3_5 := htw (u_lay RX1 TX1 5) (jWc_wsX10 _ (u_in_lay (by decide)))
  have hly_3_6 := htw (u_lay RX1 TX1 6) (jWc_wsX10 _ (u_in_lay (by decide)))
  have hly_3_7 := htw (u_lay RX1 TX1 7) (jWc_wsX10 _ (u_in_lay (by decide)))
  have hly_3_8 := htw (u_lay RX1 TX1 8) (jWc_wsX10 _ (u_in_lay (by decide)))
  have hlk_69 := (htw (.fieldLink RX1 69 "ProofServer$Document" "sentences" "I") (jWr_29 _ (List.mem_of_getElem? (i := 14) rfl)))
  have hlk_42 := (htw (.fieldLink RX1 42 "ProofServer$Document" "length" "I") (jWr_29 _ (List.mem_of_getElem? (i := 5) rfl)))
  have hlk_18 := (htw (.fieldLink RX1 18 "ProofServer$Document" "starts" "[I") (jWr_10 _ (List.mem_of_getElem? (i := 7) rfl)))
  have hlk_21 := (htw (.fieldLink RX1 21 "ProofServer$Document" "ends" "[I") (jWr_10 _ (List.mem_of_getElem? (i := 8) rfl)))
  have hlk_27 := (htw (.fieldLink RX1 27 "ProofServer$Document" "early" "[I") (jWr_10 _ (List.mem_of_getElem? (i := 10) rfl)))
  have hlk_24 := (htw (.fieldLink RX1 24 "ProofServer$Document" "costs" "[I") (jWr_10 _ (List.mem_of_getElem? (i := 9) rfl)))
  have hlk_15 := (htw (.fieldLink RX1 15 "ProofServer$Document" "text" "[I") (jWr_10 _ (List.mem_of_getElem? (i := 6) rfl)))
  have hh_1 := hh.addI (jOw.ie (dC := dC) (dI := dI) (G0 := G0) (k := 3) (r := r0) (H0 := s.heap) (F := [(3, 0), (3, 1), (3, 2), (3, 3), (3, 4), (3, 5), (3, 6), (3, 7), (3, 8), (3, 9), (3, 10), (3, 11), (3, 12), (3, 13), (3, 14), (3, 15), (3, 16)]) (C := RX1) (T := TX1) (N := 17) rfl (by decide) hh.2.2.2.2.1 (jOw.rf))
  clear hh
  refine lv_aload_n hx hb dX1_part_0 rfl (lv_at hl 0 rfl) ?_
  refine lv_iconst (v := 0) hx hb dX1_part_1 (by decide) ?_
  have hd_3 := hh_1.iv 1 rfl
  have hd_35 := hh_1.at 1 rfl
  have hd_36 := hh_1.at 2 rfl
  have hd_3o := hh_1.iv 0 rfl
  have hh_4 := hh_1.sub (L1 := [(r0, 3, 3, .int pl), (r0, 3, 5, .ref sa_), (r0, 3, 6, .ref ea_)]) [0, 1, 2] rfl (M1 := [(sa_, 171, 40, ca 1, fb), (ea_, 172, 40, ca 1, fe)]) [0, 1] rfl (I1 := []) [] rfl
  clear hh_1
  refine j7_putX hx hb hown hK hh_4 hB hAp hB3 (C := RX1) (T := TX1) (N := 17) rfl (by decide) hg_r0 (i := 4) (by decide) hly_3_4 rfl hlk_69 rfl (ty := .int) (v := .int 0) (by decide +kernel) rfl rfl (⟨_, rfl, by omega, by omega⟩) rfl (L1 := [(r0, 3, 3, .int pl), (r0, 3, 5, .ref sa_), (r0, 3, 6, .ref ea_)]) [0, 1, 2] rfl rfl rfl dX1_part_2 (fun H_2 locs_2 hr_2 hh_2 => ?_)
  clear hh_4
  have hd_3n := jDcc.fld hd_3 hg_r0 hr_2 hd_35 hd_36 (hh_2.at 2 rfl) (hh_2.at 3 rfl)
  have hd_3on := jOw.put hd_3o hr_2
  have hh_5 := hh_2.addI (jDcc.ie hd_3n)
  clear hh_2
  have hh_6 := hh_5.addI (jOw.ie (dC := dC) (dI := dI) (G0 := G0) (k := 3) (r := r0) (H0 := s.heap) (F := [(3, 0), (3, 1), (3, 2), (3, 3), (3, 4), (3, 5), (3, 6), (3, 7), (3, 8), (3, 9), (3, 10), (3, 11), (3, 12), (3, 13), (3, 14), (3, 15), (3, 16)]) (C := RX1) (T := TX1) (N := 17) rfl (by decide) hh_5.2.2.2.2.1 (hd_3on))
  clear hh_5
  clear hd_3 hd_3n hd_35 hd_36 hr_2 hd_3o hd_3on
  refine lv_aload_n hx hb dX1_part_5 rfl (lv_at hl 0 rfl) ?_
  refine lv_iconst (v := 0) hx hb dX1_part_6 (by decide) ?_
  refine va_calli (A0 := jA base) (H0 := s.heap) (va_runV (As := [.int 0]) (rest := []) ⟨hx, hb, hml, hown, hts⟩ (uX1_sentenceBeginS l dC dI ca base B hB hAp hB3 hB101 hB173 G0 H_2 r0 0 n0 pl) (cwV 1 hts (jgV (jWr_36 _ (List.mem_of_getElem? (i := 6) rfl)) (jWr_36 _ (List.mem_of_getElem? (i := 7) rfl)) (jWr_36 _ (List.mem_of_getElem? (i := 8) rfl)) (jWr_2 _ (List.mem_of_getElem? (i := 21) rfl)) (jWr_36 _ (List.mem_of_getElem? (i := 9) rfl))) rfl rfl rfl (by decide +kernel) ⟨by rw [← hR]; exact Nat.le_of_ble_eq_true rfl, by rw [← hR]; exact Nat.le_of_ble_eq_true rfl⟩) ⟨fun a U g mk q => by obtain ⟨q0, q1, q2, qK, q10, q11, q12⟩ := q; exact ⟨q0, q1, q2, jG.calling g mk a qK, q10, q11, q12⟩, hh_6.recv (C := RX1) (T := TX1) (N := 17) hB3 rfl (by decide) hg_r0 hK, fun U hU hW => ⟨rfl, hU, hh_6.2.1, hG.step hW hU hh_6.1, hg_r0, (hh_6.2.2.1.sub (L1 := [(r0, 3, 3, .int pl)]) [1] rfl), by first | omega | (refine ⟨?_, ?_, ?_⟩ <;> (first | omega | rfl | assumption | decide | exact Or.inl rfl | exact Or.inr rfl | (simp only; omega)))⟩⟩ rfl rfl hl.1 rfl (lv_room (Nat.le_of_ble_eq_true rfl)) dX1_part_7 ⟨Nat.zero_le _, Nat.zero_le _⟩) hh_6.1 (fun q _ h => h) (fun q h => h) (fun r_8 u_7 t_7 H_7 locs_7 ht_7 hvm_7 hr_8 hb_7 hz_7 hk_7 hS_7 => ?_)
  rw [ht_7] at hb_7
  obtain ⟨hb_71, hb_72, hb_73, hb_74, hb_75⟩ := hb_7
  have hh_7 : jSt (dC, dI) B base G0 G0 EX1_partE s.heap 0 0 [(r0, 3, 4, .int 0), (r0, 3, 3, .int pl), (r0, 3, 5, .ref sa_), (r0, 3, 6, .ref ea_)] [(sa_, 171, 40, ca 1, fb), (ea_, 172, 40, ca 1, fe)] [([(3, 0), (3, 1), (3, 2), (3, 3), (3, 4), (3, 5), (3, 6), (3, 7), (3, 8), (3, 9), (3, 10), (3, 11), (3, 12), (3, 13), (3, 14), (3, 15), (3, 16)], jOw (dC, dI) G0 3 r0 s.heap), (jFdo, jDcc dC dI ca G0 (some r0) ph)] H_7 locs_7 := ((hh_6.call hb_71 hb_72 hb_73 hb_74 hS_7 rfl (L1 := [(r0, 3, 4, .int 0), (r0, 3, 3, .int pl), (r0, 3, 5, .ref sa_), (r0, 3, 6, .ref ea_)]) [0, 1, 2, 3] rfl rfl (M1 := [(sa_, 171, 40, ca 1, fb), (ea_, 172, 40, ca 1, fe)]) [0, 1] rfl rfl (I1 := [([(3, 0), (3, 1), (3, 2), (3, 3), (3, 4), (3, 5), (3, 6), (3, 7), (3, 8), (3, 9), (3, 10), (3, 11), (3, 12), (3, 13), (3, 14), (3, 15), (3, 16)], jOw (dC, dI) G0 3 r0 s.heap), (jFdo, jDcc dC dI ca G0 (some r0) ph)]) [0, 1] rfl rfl).more hb_75)
  clear hh_6 ht_7 hvm_7 hz_7 hk_7 hS_7 hb_71 hb_72 hb_73 hb_74 hb_75
  obtain ⟨hr_8_0, hr_8_1⟩ := hr_8
  refine lv_istore_n (lv' := [(2, .int r_8), (0, .ref r0), (1, .ref r1)]) hx hb dX1_part_10 rfl hl (by decide) rfl (fun ls hl => ?_)
  refine lv_iconst (v := 0) hx hb dX1_part_11 (by decide) ?_
  refine lv_istore_n (lv' := [(3, .int 0), (2, .int r_8), (0, .ref r0), (1, .ref r1)]) hx hb dX1_part_12 rfl hl (by decide) rfl (fun ls hl => ?_)
  have L13 : ∀ (N : Nat) (v2_9 : Int32) (v3_9 : Int32) (ws_9 : Int32) (fb_9 : Nat → Int32) (fe_9 : Nat → Int32) (H_9 : Heap) (locs_9 : List Loc), jSt (dC, dI) B base G0 G0 EX1_partE s.heap 0 0 [(r0, 3, 4, .int ws_9), (r0, 3, 3, .int pl), (r0, 3, 5, .ref sa_), (r0, 3, 6, .ref ea_)] [(ea_, 172, 40, ca 1, fe_9), (sa_, 171, 40, ca 1, fb_9)] [([(3, 0), (3, 1), (3, 2), (3, 3), (3, 4), (3, 5), (3, 6), (3, 7), (3, 8), (3, 9), (3, 10), (3, 11), (3, 12), (3, 13), (3, 14), (3, 15), (3, 16)], jOw (dC, dI) G0 3 r0 s.heap), (jFdo, jDcc dC dI ca G0 (some r0) ph)] H_9 locs_9 → (0 ≤ v3_9.toInt ∧ v3_9.toInt ≤ 40 ∧ 0 ≤ v2_9.toInt ∧ v2_9.toInt ≤ pl.toInt ∧ ws_9.toInt = v3_9.toInt ∧ jSn fb_9 fe_9 v3_9.toInt pl.toInt ∧ (v3_9.toInt = 0 ∨ jSo fe_9 (v3_9.toInt - 1) ≤ v2_9.toInt)) → (40 - v3_9.toInt : Int) < N → ∀ ls : Array Slot, lv_has ls 5 [(0, .ref r0), (1, .ref r1), (2, .int v2_9), (3, .int v3_9)] → W p l e R s m ([.ref r0, .ref r1] : List Value).toArray below meth c H_9 locs_9 0 0 Q (F0 m 13 ls []) := by
    intro N
    induction N with
    | zero => intro v2_9 v3_9 ws_9 fb_9 fe_9 H_9 locs_9 hh_9  hi_9 hm; exact absurd hm (by omega)
    | succ N L13 =>
      intro v2_9 v3_9 ws_9 fb_9 fe_9 H_9 locs_9 hh_9  hi_9 hm_9 ls hl
      obtain ⟨hi_9_0, hi_9_1, hi_9_2, hi_9_3, hi_9_4, hi_9_5, hi_9_6⟩ := hi_9
      refine lv_iload_n hx hb dX1_part_13 rfl (lv_at hl 3 rfl) ?_
      refine lv_bipush (v := 40) hx hb dX1_part_14 (by decide) ?_
      refine lv_icmp_ge (tgt := 101) hx hb dX1_part_16 (by decide) (fun c_10 => ?_) (fun c_10 => ?_)
      · skip
        have c_10' : v3_9.toInt ≥ 40 := jb_ge (rfl) ((by decide)) c_10
        refine lv_iload_n hx hb dX1_part_101 rfl (lv_at hl 2 rfl) ?_
        refine lv_aload_n hx hb dX1_part_102 rfl (lv_at hl 0 rfl) ?_
        refine j7_read hx hb hown hK (C := RX1) (T := TX1) (N := 17) rfl hly_3_3 hlk_42 (hh_9.at 1 rfl) dX1_part_103 ?_
        refine lv_icmp_ge (tgt := 137) hx hb dX1_part_106 (by decide) (fun c_11 => ?_) (fun c_11 => ?_)
        · skip
          have c_11' : v2_9.toInt ≥ pl.toInt := jb_ge (rfl) (rfl) c_11
          refine lv_iconst (v := 0) hx hb dX1_part_137 (by decide) ?_
          refine lv_istore_n (lv' := [(3, .int 0), (0, .ref r0), (1, .ref r1), (2, .int v2_9)]) hx hb dX1_part_138 rfl hl (by decide) rfl (fun ls hl => ?_)
          have L139 : ∀ (N : Nat) (v3_12 : Int32) (H_12 : Heap) (locs_12 : List Loc), jSt (dC, dI) B base G0 G0 EX1_partE s.heap 0 0 [(r0, 3, 4, .int ws_9), (r0, 3, 3, .int pl), (r0, 3, 5, .ref sa_), (r0, 3, 6, .ref ea_)] [(ea_, 172, 40, ca 1, fe_9), (sa_, 171, 40, ca 1, fb_9)] [([(3, 0), (3, 1), (3, 2), (3, 3), (3, 4), (3, 5), (3, 6), (3, 7), (3, 8), (3, 9), (3, 10), (3, 11), (3, 12), (3, 13), (3, 14), (3, 15), (3, 16)], jOw (dC, dI) G0 3 r0 s.heap), (jFdo, jDcc dC dI ca G0 (some r0) ph)] H_12 locs_12 → (0 ≤ v3_12.toInt ∧ v3_12.toInt ≤ ws_9.toInt) → (ws_9.toInt - v3_12.toInt : Int) < N → ∀ ls : Array Slot, lv_has ls 5 [(0, .ref r0), (1, .ref r1), (2, .int v2_9), (3, .int v3_12)] → W p l e R s m ([.ref r0, .ref r1] : List Value).toArray below meth c H_12 locs_12 0 0 Q (F0 m 139 ls []) := by
            intro N
            induction N with
            | zero => intro v3_12 H_12 locs_12 hh_12  hi_12 hm; exact absurd hm (by omega)
            | succ N L139 =>
              intro v3_12 H_12 locs_12 hh_12  hi_12 hm_12 ls hl
              obtain ⟨hi_12_0, hi_12_1⟩ := hi_12
              refine lv_iload_n hx hb dX1_part_139 rfl (lv_at hl 3 rfl) ?_
              refine lv_aload_n hx hb dX1_part_140 rfl (lv_at hl 0 rfl) ?_
              refine j7_read hx hb hown hK (C := RX1) (T := TX1) (N := 17) rfl hly_3_4 hlk_69 (hh_12.at 0 rfl) dX1_part_141 ?_
              refine lv_icmp_ge (tgt := 194) hx hb dX1_part_144 (by decide) (fun c_13 => ?_) (fun c_13 => ?_)
              · skip
                have c_13' : v3_12.toInt ≥ ws_9.toInt := jb_ge (rfl) (rfl) c_13
                rw [hQ]
                exact W.vret hx hb hr (fun t ht hW => ⟨⟨(ws_9, fb_9, fe_9), rfl, by (try dsimp only); refine ⟨by omega, by omega, ?_⟩; exact jSn.ce hi_9_5 (by omega), ⟨⟨⟨hh_12.rt (M1 := [(r0, 3, 4, .int ws_9)]) [0] rfl ht, by rw [ht]; exact hh_12.2.2.2.2.2.2.2.1.sub [1, 0] rfl⟩, by rw [ht]; exact hh_12.iv 0 rfl⟩, by rw [ht]; exact hh_12.2.2.2.2.2.2.2.2.sub (L1 := [(jFdo, jDcc dC dI ca G0 (some r0) ph)]) [1] rfl⟩⟩, by rw [ht]; try exact hh_12.1.1, fun q h9 hq => by rw [ht]; try exact hh_12.1.2.1 q h9 hq⟩) hh_12.1.2.2 dX1_part_194
              · skip
                have c_13' : v3_12.toInt < ws_9.toInt := jb_ge_n (rfl) (rfl) c_13
                refine lv_aload_n hx hb dX1_part_147 rfl (lv_at hl 0 rfl) ?_
                obtain ⟨v_14, hv_14, hh_15⟩ := hh_12.pin (C := RX1) (T := TX1) (N := 17) hB3 rfl (by decide) hg_r0 (i := 7) (by decide) rfl
                clear hh_12
                obtain ⟨costs_16, rfl, hg_costs_16⟩ := hv_14
                refine j7_read hx hb hown hK (C := RX1) (T := TX1) (N := 17) rfl hly_3_7 hlk_24 (hh_15.at 0 rfl) dX1_part_148 ?_
                refine lv_iload_n hx hb dX1_part_151 rfl (lv_at hl 3 rfl) ?_
                refine lv_iconst (v := 3) hx hb dX1_part_152 (by decide) ?_
                refine lv_aload_n hx hb dX1_part_153 rfl (lv_at hl 0 rfl) ?_
                obtain ⟨v_17, hv_17, hh_18⟩ := hh_15.pin (C := RX1) (T := TX1) (N := 17) hB3 rfl (by decide) hg_r0 (i := 8) (by decide) rfl
                clear hh_15
                obtain ⟨early_19, rfl, hg_early_19⟩ := hv_17
                refine j7_read hx hb hown hK (C := RX1) (T := TX1) (N := 17) rfl hly_3_8 hlk_27 (hh_18.at 0 rfl) dX1_part_154 ?_
                refine lv_iload_n hx hb dX1_part_157 rfl (lv_at hl 3 rfl) ?_
                refine j7_iald hx hb hK hh_18 hB101 1 rfl (by decide) hg_early_19 (x := v3_12.toInt) (rfl) (by omega) dX1_part_158 (fun z_20 (hz_20 : True) => ?_)
                refine lv_if_le (tgt := 166) hx hb dX1_part_159 (by decide) (fun c_21 => ?_) (fun c_21 => ?_)
                · skip
                  have c_21' : z_20.toInt ≤ 0 := jb_le (rfl) ((by decide)) c_21
                  refine lv_aload_n hx hb dX1_part_166 rfl (lv_at hl 1 rfl) ?_
                  refine lv_aload_n hx hb dX1_part_167 rfl (lv_at hl 0 rfl) ?_
                  obtain ⟨v_22, hv_22, hh_23⟩ := hh_18.pin (C := RX1) (T := TX1) (N := 17) hB3 rfl (by decide) hg_r0 (i := 2) (by decide) rfl
                  clear hh_18
                  obtain ⟨text_24, rfl, hg_text_24⟩ := hv_22
                  refine j7_read hx hb hown hK (C := RX1) (T := TX1) (N := 17) rfl hly_3_2 hlk_15 (hh_23.at 0 rfl) dX1_part_168 ?_
                  refine lv_aload_n hx hb dX1_part_171 rfl (lv_at hl 0 rfl) ?_
                  refine j7_read hx hb hown hK (C := RX1) (T := TX1) (N := 17) rfl hly_3_5 hlk_18 (hh_23.at 5 rfl) dX1_part_172 ?_
                  refine lv_iload_n hx hb dX1_part_175 rfl (lv_at hl 3 rfl) ?_
                  refine j7_ialdM hx hb hK hh_23 hB171 1 rfl (by decide) hg_sa_ (x := v3_12.toInt) (rfl) (by omega) (j := 1) rfl dX1_part_176 (fun z_25 ez_25 (hz_25 : 0 ≤ z_25.toInt ∧ z_25.toInt ≤ 1500) => ?_)
                  have hqz_25 : z_25.toInt = jSo fb_9 (v3_12.toInt) := by unfold jSo; rw [ez_25]
                  refine lv_aload_n hx hb dX1_part_177 rfl (lv_at hl 0 rfl) ?_
                  refine j7_read hx hb hown hK (C := RX1) (T := TX1) (N := 17) rfl hly_3_6 hlk_21 (hh_23.at 6 rfl) dX1_part_178 ?_
                  refine lv_iload_n hx hb dX1_part_181 rfl (lv_at hl 3 rfl) ?_
                  refine j7_ialdM hx hb hK hh_23 hB172 1 rfl (by decide) hg_ea_ (x := v3_12.toInt) (rfl) (by omega) (j := 0) rfl dX1_part_182 (fun z_26 ez_26 (hz_26 : 0 ≤ z_26.toInt ∧ z_26.toInt ≤ 1500) => ?_)
                  have hqz_26 : z_26.toInt = jSo fe_9 (v3_12.toInt) := by unfold jSo; rw [ez_26]
                  refine va_calli (A0 := jA base) (H0 := s.heap) (va_runV (As := [.ref text_24, .int z_25, .int z_26]) (rest := [.int 3, .int v3_12, .ref costs_16]) ⟨hx, hb, hml, hown, hts⟩ (uX10_scanBt9 l dC dI ca base B hB hAp hB8 hB12 hB101 hB102 hB132 hB133 hB173 hB293 G0 H_12 r1 text_24 z_25 z_26 1500) (cwV 3 hts (jgV (jWr_36 _ (List.mem_of_getElem? (i := 19) rfl)) (jWr_36 _ (List.mem_of_getElem? (i := 20) rfl)) (jWr_36 _ (List.mem_of_getElem? (i := 21) rfl)) (jWr_4 _ (List.mem_of_getElem? (i := 14) rfl)) (jWr_36 _ (List.mem_of_getElem? (i := 22) rfl))) rfl rfl rfl (by decide +kernel) ⟨by rw [← hR]; exact Nat.le_of_ble_eq_true rfl, by rw [← hR]; exact Nat.le_of_ble_eq_true rfl⟩) ⟨fun a U g mk q => by obtain ⟨q0, q1, q2, qK, q10, q11, q12, q13⟩ := q; exact ⟨q0, q1, q2, jG.calling g mk a qK, q10, q11, q12, q13⟩, hh_23.recv (C := RX10) (T := TX10) (N := 11) hB12 rfl (by decide) hg_r1 hK, fun U hU hW => ⟨rfl, hU, hh_23.2.1, hG.step hW hU hh_23.1, hg_r1, hg_text_24, jP.nil, by first | omega | (refine ⟨?_, ?_⟩ <;> (first | omega | rfl | assumption | decide | exact Or.inl rfl | exact Or.inr rfl | (simp only; omega)))⟩⟩ rfl rfl hl.1 rfl (lv_room (Nat.le_of_ble_eq_true rfl)) dX1_part_183 ⟨Nat.zero_le _, Nat.zero_le _⟩) hh_23.1 (fun q _ h => h) (fun q h => h) (fun r_28 u_27 t_27 H_27 locs_27 ht_27 hvm_27 hr_28 hb_27 hz_27 hk_27 hS_27 => ?_)
                  rw [ht_27] at hb_27
                  obtain ⟨hb_271, hb_272, hb_273, hb_274, hb_275⟩ := hb_27
                  have hh_27 : jSt (dC, dI) B base G0 G0 EX1_partE s.heap 0 0 [(r0, 3, 2, .ref text_24), (r0, 3, 8, .ref early_19), (r0, 3, 7, .ref costs_16), (r0, 3, 4, .int ws_9), (r0, 3, 3, .int pl), (r0, 3, 5, .ref sa_), (r0, 3, 6, .ref ea_)] [(ea_, 172, 40, ca 1, fe_9), (sa_, 171, 40, ca 1, fb_9)] [([(3, 0), (3, 1), (3, 2), (3, 3), (3, 4), (3, 5), (3, 6), (3, 7), (3, 8), (3, 9), (3, 10), (3, 11), (3, 12), (3, 13), (3, 14), (3, 15), (3, 16)], jOw (dC, dI) G0 3 r0 s.heap), (jFdo, jDcc dC dI ca G0 (some r0) ph)] H_27 locs_27 := ((hh_23.call hb_271 hb_272 hb_273 hb_274 hS_27 rfl (L1 := [(r0, 3, 2, .ref text_24), (r0, 3, 8, .ref early_19), (r0, 3, 7, .ref costs_16), (r0, 3, 4, .int ws_9), (r0, 3, 3, .int pl), (r0, 3, 5, .ref sa_), (r0, 3, 6, .ref ea_)]) [0, 1, 2, 3, 4, 5, 6] rfl rfl (M1 := [(ea_, 172, 40, ca 1, fe_9), (sa_, 171, 40, ca 1, fb_9)]) [0, 1] rfl rfl (I1 := [([(3, 0), (3, 1), (3, 2), (3, 3), (3, 4), (3, 5), (3, 6), (3, 7), (3, 8), (3, 9), (3, 10), (3, 11), (3, 12), (3, 13), (3, 14), (3, 15), (3, 16)], jOw (dC, dI) G0 3 r0 s.heap), (jFdo, jDcc dC dI ca G0 (some r0) ph)]) [0, 1] rfl rfl).more hb_275)
                  clear hh_23 ht_27 hvm_27 hz_27 hk_27 hS_27 hb_271 hb_272 hb_273 hb_274 hb_275
                  obtain ⟨hr_28_0, hr_28_1⟩ := hr_28
                  refine lv_iadd hx hb dX1_part_186 ?_
                  refine lv_topi (fun z_29 ez_29 => ?_)
                  refine j7_iast hx hb hK hh_27 hB hB101 1 rfl (by decide) (by decide) rfl rfl rfl hg_costs_16 (x := v3_12.toInt) (rfl) (by omega) (trivial) dX1_part_187 (fun H_30 locs_30 hh_30 => ?_)
                  clear hh_27
                  obtain ⟨z_31, ez_31⟩ : ∃ y : Int32, y = v3_12 + 1 := ⟨_, rfl⟩
                  refine lv_iinc (v := z_31) (lv' := [(3, .int z_31), (0, .ref r0), (1, .ref r1), (2, .int v2_9)]) hx hb dX1_part_188 hl (k := 3) rfl (by rw [ez_31]; rfl) (by decide) rfl (fun ls hl => ?_)
                  have hz_31 : z_31.toInt = v3_12.toInt + 1 := by rw [ez_31]; exact jb_iadd2 (rfl) (by decide) (by omega)
                  refine lv_goto (tgt := 139) hx hb dX1_part_191 (by decide) ?_
                  exact L139 z_31 _ _ (hh_30.sub (L1 := [(r0, 3, 4, .int ws_9), (r0, 3, 3, .int pl), (r0, 3, 5, .ref sa_), (r0, 3, 6, .ref ea_)]) [3, 4, 5, 6] rfl (M1 := [(ea_, 172, 40, ca 1, fe_9), (sa_, 171, 40, ca 1, fb_9)]) [0, 1] rfl (I1 := [([(3, 0), (3, 1), (3, 2), (3, 3), (3, 4), (3, 5), (3, 6), (3, 7), (3, 8), (3, 9), (3, 10), (3, 11), (3, 12), (3, 13), (3, 14), (3, 15), (3, 16)], jOw (dC, dI) G0 3 r0 s.heap), (jFdo, jDcc dC dI ca G0 (some r0) ph)]) [0, 1] rfl) (by first | omega | (refine ⟨?_, ?_⟩ <;> (first | omega | rfl | assumption | decide | exact Or.inl rfl | exact Or.inr rfl | (simp only; omega)))) (by omega) _ (lv_sub hl [1, 2, 3, 0] rfl)
                · skip
                  have c_21' : z_20.toInt > 0 := jb_le_n (rfl) ((by decide)) c_21
                  refine lv_iconst (v := 1) hx hb dX1_part_162 (by decide) ?_
                  refine lv_goto (tgt := 186) hx hb dX1_part_163 (by decide) ?_
                  refine lv_iadd hx hb dX1_part_186 ?_
                  refine lv_topi (fun z_32 ez_32 => ?_)
                  refine j7_iast hx hb hK hh_18 hB hB101 1 rfl (by decide) (by decide) rfl rfl rfl hg_costs_16 (x := v3_12.toInt) (rfl) (by omega) (trivial) dX1_part_187 (fun H_33 locs_33 hh_33 => ?_)
                  clear hh_18
                  obtain ⟨z_34, ez_34⟩ : ∃ y : Int32, y = v3_12 + 1 := ⟨_, rfl⟩
                  refine lv_iinc (v := z_34) (lv' := [(3, .int z_34), (0, .ref r0), (1, .ref r1), (2, .int v2_9)]) hx hb dX1_part_188 hl (k := 3) rfl (by rw [ez_34]; rfl) (by decide) rfl (fun ls hl => ?_)
                  have hz_34 : z_34.toInt = v3_12.toInt + 1 := by rw [ez_34]; exact jb_iadd2 (rfl) (by decide) (by omega)
                  refine lv_goto (tgt := 139) hx hb dX1_part_191 (by decide) ?_
                  exact L139 z_34 _ _ (hh_33.sub (L1 := [(r0, 3, 4, .int ws_9), (r0, 3, 3, .int pl), (r0, 3, 5, .ref sa_), (r0, 3, 6, .ref ea_)]) [2, 3, 4, 5] rfl (M1 := [(ea_, 172, 40, ca 1, fe_9), (sa_, 171, 40, ca 1, fb_9)]) [0, 1] rfl (I1 := [([(3, 0), (3, 1), (3, 2), (3, 3), (3, 4), (3, 5), (3, 6), (3, 7), (3, 8), (3, 9), (3, 10), (3, 11), (3, 12), (3, 13), (3, 14), (3, 15), (3, 16)], jOw (dC, dI) G0 3 r0 s.heap), (jFdo, jDcc dC dI ca G0 (some r0) ph)]) [0, 1] rfl) (by first | omega | (refine ⟨?_, ?_⟩ <;> (first | omega | rfl | assumption | decide | exact Or.inl rfl | exact Or.inr rfl | (simp only; omega)))) (by omega) _ (lv_sub hl [1, 2, 3, 0] rfl)
          exact L139 (ws_9.toInt - (0 : Int32).toInt : Int).toNat.succ 0 _ _ hh_9 (by first | omega | (refine ⟨?_, ?_⟩ <;> (first | omega | rfl | assumption | decide | exact Or.inl rfl | exact Or.inr rfl | (simp only; omega)))) (by omega) _ (lv_sub hl [1, 2, 3, 0] rfl)
        · skip
          have c_11' : v2_9.toInt < pl.toInt := jb_ge_n (rfl) (rfl) c_11
          refine lv_aload_n hx hb dX1_part_109 rfl (lv_at hl 0 rfl) ?_
          refine j7_read hx hb hown hK (C := RX1) (T := TX1) (N := 17) rfl hly_3_4 hlk_69 (hh_9.at 0 rfl) dX1_part_110 ?_
          refine lv_bipush (v := 40) hx hb dX1_part_113 (by decide) ?_
          refine lv_icmp_ne (tgt := 137) hx hb dX1_part_115 (by decide) (fun c_35 => ?_) (fun c_35 => ?_)
          · skip
            have c_35' : ws_9.toInt ≠ 40 := jb_ne (rfl) ((by decide)) c_35
            refine lv_iconst (v := 0) hx hb dX1_part_137 (by decide) ?_
            refine lv_istore_n (lv' := [(3, .int 0), (0, .ref r0), (1, .ref r1), (2, .int v2_9)]) hx hb dX1_part_138 rfl hl (by decide) rfl (fun ls hl => ?_)
            have L139 : ∀ (N : Nat) (v3_36 : Int32) (H_36 : Heap) (locs_36 : List Loc), jSt (dC, dI) B base G0 G0 EX1_partE s.heap 0 0 [(r0, 3, 4, .int ws_9), (r0, 3, 3, .int pl), (r0, 3, 5, .ref sa_), (r0, 3, 6, .ref ea_)] [(ea_, 172, 40, ca 1, fe_9), (sa_, 171, 40, ca 1, fb_9)] [([(3, 0), (3, 1), (3, 2), (3, 3), (3, 4), (3, 5), (3, 6), (3, 7), (3, 8), (3, 9), (3, 10), (3, 11), (3, 12), (3, 13), (3, 14), (3, 15), (3, 16)], jOw (dC, dI) G0 3 r0 s.heap), (jFdo, jDcc dC dI ca G0 (some r0) ph)] H_36 locs_36 → (0 ≤ v3_36.toInt ∧ v3_36.toInt ≤ ws_9.toInt) → (ws_9.toInt - v3_36.toInt : Int) < N → ∀ ls : Array Slot, lv_has ls 5 [(0, .ref r0), (1, .ref r1), (2, .int v2_9), (3, .int v3_36)] → W p l e R s m ([.ref r0, .ref r1] : List Value).toArray below meth c H_36 locs_36 0 0 Q (F0 m 139 ls []) := by
              intro N
              induction N with
              | zero => intro v3_36 H_36 locs_36 hh_36  hi_36 hm; exact absurd hm (by omega)
              | succ N L139 =>
                intro v3_36 H_36 locs_36 hh_36  hi_36 hm_36 ls hl
                obtain ⟨hi_36_0, hi_36_1⟩ := hi_36
                refine lv_iload_n hx hb dX1_part_139 rfl (lv_at hl 3 rfl) ?_
                refine lv_aload_n hx hb dX1_part_140 rfl (lv_at hl 0 rfl) ?_
                refine j7_read hx hb hown hK (C := RX1) (T := TX1) (N := 17) rfl hly_3_4 hlk_69 (hh_36.at 0 rfl) dX1_part_141 ?_
                refine lv_icmp_ge (tgt := 194) hx hb dX1_part_144 (by decide) (fun c_37 => ?_) (fun c_37 => ?_)
                · skip
                  have c_37' : v3_36.toInt ≥ ws_9.toInt := jb_ge (rfl) (rfl) c_37
                  rw [hQ]
                  exact W.vret hx hb hr (fun t ht hW => ⟨⟨(ws_9, fb_9, fe_9), rfl, by (try dsimp only); refine ⟨by omega, by omega, ?_⟩; exact jSn.ce hi_9_5 (by omega), ⟨⟨⟨hh_36.rt (M1 := [(r0, 3, 4, .int ws_9)]) [0] rfl ht, by rw [ht]; exact hh_36.2.2.2.2.2.2.2.1.sub [1, 0] rfl⟩, by rw [ht]; exact hh_36.iv 0 rfl⟩, by rw [ht]; exact hh_36.2.2.2.2.2.2.2.2.sub (L1 := [(jFdo, jDcc dC dI ca G0 (some r0) ph)]) [1] rfl⟩⟩, by rw [ht]; try exact hh_36.1.1, fun q h9 hq => by rw [ht]; try exact hh_36.1.2.1 q h9 hq⟩) hh_36.1.2.2 dX1_part_194
                · skip
                  have c_37' : v3_36.toInt < ws_9.toInt := jb_ge_n (rfl) (rfl) c_37
                  refine lv_aload_n hx hb dX1_part_147 rfl (lv_at hl 0 rfl) ?_
                  obtain ⟨v_38, hv_38, hh_39⟩ := hh_36.pin (C := RX1) (T := TX1) (N := 17) hB3 rfl (by decide) hg_r0 (i := 7) (by decide) rfl
                  clear hh_36
                  obtain ⟨costs_40, rfl, hg_costs_40⟩ := hv_38
                  refine j7_read hx hb hown hK (C := RX1) (T := TX1) (N := 17) rfl hly_3_7 hlk_24 (hh_39.at 0 rfl) dX1_part_148 ?_
                  refine lv_iload_n hx hb dX1_part_151 rfl (lv_at hl 3 rfl) ?_
                  refine lv_iconst (v := 3) hx hb dX1_part_152 (by decide) ?_
                  refine lv_aload_n hx hb dX1_part_153 rfl (lv_at hl 0 rfl) ?_
                  obtain ⟨v_41, hv_41, hh_42⟩ := hh_39.pin (C := RX1) (T := TX1) (N := 17) hB3 rfl (by decide) hg_r0 (i := 8) (by decide) rfl
                  clear hh_39
                  obtain ⟨early_43, rfl, hg_early_43⟩ := hv_41
                  refine j7_read hx hb hown hK (C := RX1) (T := TX1) (N := 17) rfl hly_3_8 hlk_27 (hh_42.at 0 rfl) dX1_part_154 ?_
                  refine lv_iload_n hx hb dX1_part_157 rfl (lv_at hl 3 rfl) ?_
                  refine j7_iald hx hb hK hh_42 hB101 1 rfl (by decide) hg_early_43 (x := v3_36.toInt) (rfl) (by omega) dX1_part_158 (fun z_44 (hz_44 : True) => ?_)
                  refine lv_if_le (tgt := 166) hx hb dX1_part_159 (by decide) (fun c_45 => ?_) (fun c_45 => ?_)
                  · skip
                    have c_45' : z_44.toInt ≤ 0 := jb_le (rfl) ((by decide)) c_45
                    refine lv_aload_n hx hb dX1_part_166 rfl (lv_at hl 1 rfl) ?_
                    refine lv_aload_n hx hb dX1_part_167 rfl (lv_at hl 0 rfl) ?_
                    obtain ⟨v_46, hv_46, hh_47⟩ := hh_42.pin (C := RX1) (T := TX1) (N := 17) hB3 rfl (by decide) hg_r0 (i := 2) (by decide) rfl
                    clear hh_42
                    obtain ⟨text_48, rfl, hg_text_48⟩ := hv_46
                    refine j7_read hx hb hown hK (C := RX1) (T := TX1) (N := 17) rfl hly_3_2 hlk_15 (hh_47.at 0 rfl) dX1_part_168 ?_
                    refine lv_aload_n hx hb dX1_part_171 rfl (lv_at hl 0 rfl) ?_
                    refine j7_read hx hb hown hK (C := RX1) (T := TX1) (N := 17) rfl hly_3_5 hlk_18 (hh_47.at 5 rfl) dX1_part_172 ?_
                    refine lv_iload_n hx hb dX1_part_175 rfl (lv_at hl 3 rfl) ?_
                    refine j7_ialdM hx hb hK hh_47 hB171 1 rfl (by decide) hg_sa_ (x := v3_36.toInt) (rfl) (by omega) (j := 1) rfl dX1_part_176 (fun z_49 ez_49 (hz_49 : 0 ≤ z_49.toInt ∧ z_49.toInt ≤ 1500) => ?_)
                    have hqz_49 : z_49.toInt = jSo fb_9 (v3_36.toInt) := by unfold jSo; rw [ez_49]
                    refine lv_aload_n hx hb dX1_part_177 rfl (lv_at hl 0 rfl) ?_
                    refine j7_read hx hb hown hK (C := RX1) (T := TX1) (N := 17) rfl hly_3_6 hlk_21 (hh_47.at 6 rfl) dX1_part_178 ?_
                    refine lv_iload_n hx hb dX1_part_181 rfl (lv_at hl 3 rfl) ?_
                    refine j7_ialdM hx hb hK hh_47 hB172 1 rfl (by decide) hg_ea_ (x := v3_36.toInt) (rfl) (by omega) (j := 0) rfl dX1_part_182 (fun z_50 ez_50 (hz_50 : 0 ≤ z_50.toInt ∧ z_50.toInt ≤ 1500) => ?_)
                    have hqz_50 : z_50.toInt = jSo fe_9 (v3_36.toInt) := by unfold jSo; rw [ez_50]
                    refine va_calli (A0 := jA base) (H0 := s.heap) (va_runV (As := [.ref text_48, .int z_49, .int z_50]) (rest := [.int 3, .int v3_36, .ref costs_40]) ⟨hx, hb, hml, hown, hts⟩ (uX10_scanBt9 l dC dI ca base B hB hAp hB8 hB12 hB101 hB102 hB132 hB133 hB173 hB293 G0 H_36 r1 text_48 z_49 z_50 1500) (cwV 3 hts (jgV (jWr_36 _ (List.mem_of_getElem? (i := 19) rfl)) (jWr_36 _ (List.mem_of_getElem? (i := 20) rfl)) (jWr_36 _ (List.mem_of_getElem? (i := 21) rfl)) (jWr_4 _ (List.mem_of_getElem? (i := 14) rfl)) (jWr_36 _ (List.mem_of_getElem? (i := 22) rfl))) rfl rfl rfl (by decide +kernel) ⟨by rw [← hR]; exact Nat.le_of_ble_eq_true rfl, by rw [← hR]; exact Nat.le_of_ble_eq_true rfl⟩) ⟨fun a U g mk q => by obtain ⟨q0, q1, q2, qK, q10, q11, q12, q13⟩ := q; exact ⟨q0, q1, q2, jG.calling g mk a qK, q10, q11, q12, q13⟩, hh_47.recv (C := RX10) (T := TX10) (N := 11) hB12 rfl (by decide) hg_r1 hK, fun U hU hW => ⟨rfl, hU, hh_47.2.1, hG.step hW hU hh_47.1, hg_r1, hg_text_48, jP.nil, by first | omega | (refine ⟨?_, ?_⟩ <;> (first | omega | rfl | assumption | decide | exact Or.inl rfl | exact Or.inr rfl | (simp only; omega)))⟩⟩ rfl rfl hl.1 rfl (lv_room (Nat.le_of_ble_eq_true rfl)) dX1_part_183 ⟨Nat.zero_le _, Nat.zero_le _⟩) hh_47.1 (fun q _ h => h) (fun q h => h) (fun r_52 u_51 t_51 H_51 locs_51 ht_51 hvm_51 hr_52 hb_51 hz_51 hk_51 hS_51 => ?_)
                    rw [ht_51] at hb_51
                    obtain ⟨hb_511, hb_512, hb_513, hb_514, hb_515⟩ := hb_51
                    have hh_51 : jSt (dC, dI) B base G0 G0 EX1_partE s.heap 0 0 [(r0, 3, 2, .ref text_48), (r0, 3, 8, .ref early_43), (r0, 3, 7, .ref costs_40), (r0, 3, 4, .int ws_9), (r0, 3, 3, .int pl), (r0, 3, 5, .ref sa_), (r0, 3, 6, .ref ea_)] [(ea_, 172, 40, ca 1, fe_9), (sa_, 171, 40, ca 1, fb_9)] [([(3, 0), (3, 1), (3, 2), (3, 3), (3, 4), (3, 5), (3, 6), (3, 7), (3, 8), (3, 9), (3, 10), (3, 11), (3, 12), (3, 13), (3, 14), (3, 15), (3, 16)], jOw (dC, dI) G0 3 r0 s.heap), (jFdo, jDcc dC dI ca G0 (some r0) ph)] H_51 locs_51 := ((hh_47.call hb_511 hb_512 hb_513 hb_514 hS_51 rfl (L1 := [(r0, 3, 2, .ref text_48), (r0, 3, 8, .ref early_43), (r0, 3, 7, .ref costs_40), (r0, 3, 4, .int ws_9), (r0, 3, 3, .int pl), (r0, 3, 5, .ref sa_), (r0, 3, 6, .ref ea_)]) [0, 1, 2, 3, 4, 5, 6] rfl rfl (M1 := [(ea_, 172, 40, ca 1, fe_9), (sa_, 171, 40, ca 1, fb_9)]) [0, 1] rfl rfl (I1 := [([(3, 0), (3, 1), (3, 2), (3, 3), (3, 4), (3, 5), (3, 6), (3, 7), (3, 8), (3, 9), (3, 10), (3, 11), (3, 12), (3, 13), (3, 14), (3, 15), (3, 16)], jOw (dC, dI) G0 3 r0 s.heap), (jFdo, jDcc dC dI ca G0 (some r0) ph)]) [0, 1] rfl rfl).more hb_515)
                    clear hh_47 ht_51 hvm_51 hz_51 hk_51 hS_51 hb_511 hb_512 hb_513 hb_514 hb_515
                    obtain ⟨hr_52_0, hr_52_1⟩ := hr_52
                    refine lv_iadd hx hb dX1_part_186 ?_
                    refine lv_topi (fun z_53 ez_53 => ?_)
                    refine j7_iast hx hb hK hh_51 hB hB101 1 rfl (by decide) (by decide) rfl rfl rfl hg_costs_40 (x := v3_36.toInt) (rfl) (by omega) (trivial) dX1_part_187 (fun H_54 locs_54 hh_54 => ?_)
                    clear hh_51
                    obtain ⟨z_55, ez_55⟩ : ∃ y : Int32, y = v3_36 + 1 := ⟨_, rfl⟩
                    refine lv_iinc (v := z_55) (lv' := [(3, .int z_55), (0, .ref r0), (1, .ref r1), (2, .int v2_9)]) hx hb dX1_part_188 hl (k := 3) rfl (by rw [ez_55]; rfl) (by decide) rfl (fun ls hl => ?_)
                    have hz_55 : z_55.toInt = v3_36.toInt + 1 := by rw [ez_55]; exact jb_iadd2 (rfl) (by decide) (by omega)
                    refine lv_goto (tgt := 139) hx hb dX1_part_191 (by decide) ?_
                    exact L139 z_55 _ _ (hh_54.sub (L1 := [(r0, 3, 4, .int ws_9), (r0, 3, 3, .int pl), (r0, 3, 5, .ref sa_), (r0, 3, 6, .ref ea_)]) [3, 4, 5, 6] rfl (M1 := [(ea_, 172, 40, ca 1, fe_9), (sa_, 171, 40, ca 1, fb_9)]) [0, 1] rfl (I1 := [([(3, 0), (3, 1), (3, 2), (3, 3), (3, 4), (3, 5), (3, 6), (3, 7), (3, 8), (3, 9), (3, 10), (3, 11), (3, 12), (3, 13), (3, 14), (3, 15), (3, 16)], jOw (dC, dI) G0 3 r0 s.heap), (jFdo, jDcc dC dI ca G0 (some r0) ph)]) [0, 1] rfl) (by first | omega | (refine ⟨?_, ?_⟩ <;> (first | omega | rfl | assumption | decide | exact Or.inl rfl | exact Or.inr rfl | (simp only; omega)))) (by omega) _ (lv_sub hl [1, 2, 3, 0] rfl)
                  · skip
                    have c_45' : z_44.toInt > 0 := jb_le_n (rfl) ((by decide)) c_45
                    refine lv_iconst (v := 1) hx hb dX1_part_162 (by decide) ?_
                    refine lv_goto (tgt := 186) hx hb dX1_part_163 (by decide) ?_
                    refine lv_iadd hx hb dX1_part_186 ?_
                    refine lv_topi (fun z_56 ez_56 => ?_)
                    refine j7_iast hx hb hK hh_42 hB hB101 1 rfl (by decide) (by decide) rfl rfl rfl hg_costs_40 (x := v3_36.toInt) (rfl) (by omega) (trivial) dX1_part_187 (fun H_57 locs_57 hh_57 => ?_)
                    clear hh_42
                    obtain ⟨z_58, ez_58⟩ : ∃ y : Int32, y = v3_36 + 1 := ⟨_, rfl⟩
                    refine lv_iinc (v := z_58) (lv' := [(3, .int z_58), (0, .ref r0), (1, .ref r1), (2, .int v2_9)]) hx hb dX1_part_188 hl (k := 3) rfl (by rw [ez_58]; rfl) (by decide) rfl (fun ls hl => ?_)
                    have hz_58 : z_58.toInt = v3_36.toInt + 1 := by rw [ez_58]; exact jb_iadd2 (rfl) (by decide) (by omega)
                    refine lv_goto (tgt := 139) hx hb dX1_part_191 (by decide) ?_
                    exact L139 z_58 _ _ (hh_57.sub (L1 := [(r0, 3, 4, .int ws_9), (r0, 3, 3, .int pl), (r0, 3, 5, .ref sa_), (r0, 3, 6, .ref ea_)]) [2, 3, 4, 5] rfl (M1 := [(ea_, 172, 40, ca 1, fe_9), (sa_, 171, 40, ca 1, fb_9)]) [0, 1] rfl (I1 := [([(3, 0), (3, 1), (3, 2), (3, 3), (3, 4), (3, 5), (3, 6), (3, 7), (3, 8), (3, 9), (3, 10), (3, 11), (3, 12), (3, 13), (3, 14), (3, 15), (3, 16)], jOw (dC, dI) G0 3 r0 s.heap), (jFdo, jDcc dC dI ca G0 (some r0) ph)]) [0, 1] rfl) (by first | omega | (refine ⟨?_, ?_⟩ <;> (first | omega | rfl | assumption | decide | exact Or.inl rfl | exact Or.inr rfl | (simp only; omega)))) (by omega) _ (lv_sub hl [1, 2, 3, 0] rfl)
            exact L139 (ws_9.toInt - (0 : Int32).toInt : Int).toNat.succ 0 _ _ hh_9 (by first | omega | (refine ⟨?_, ?_⟩ <;> (first | omega | rfl | assumption | decide | exact Or.inl rfl | exact Or.inr rfl | (simp only; omega)))) (by omega) _ (lv_sub hl [1, 2, 3, 0] rfl)
          · skip
            have c_35' : ws_9.toInt = 40 := jb_ne_n (rfl) ((by decide)) c_35
            refine lv_aload_n hx hb dX1_part_118 rfl (lv_at hl 0 rfl) ?_
            refine j7_read hx hb hown hK (C := RX1) (T := TX1) (N := 17) rfl hly_3_6 hlk_21 (hh_9.at 3 rfl) dX1_part_119 ?_
            refine lv_bipush (v := 39) hx hb dX1_part_122 (by decide) ?_
            refine lv_aload_n hx hb dX1_part_124 rfl (lv_at hl 0 rfl) ?_
            refine j7_read hx hb hown hK (C := RX1) (T := TX1) (N := 17) rfl hly_3_3 hlk_42 (hh_9.at 1 rfl) dX1_part_125 ?_
            have hd_60 := hh_9.iv 1 rfl
            have hh_61 := hh_9.sub (L1 := [(r0, 3, 4, .int ws_9), (r0, 3, 3, .int pl), (r0, 3, 5, .ref sa_), (r0, 3, 6, .ref ea_)]) [0, 1, 2, 3] rfl (M1 := [(ea_, 172, 40, ca 1, fe_9), (sa_, 171, 40, ca 1, fb_9)]) [0, 1] rfl (I1 := [([(3, 0), (3, 1), (3, 2), (3, 3), (3, 4), (3, 5), (3, 6), (3, 7), (3, 8), (3, 9), (3, 10), (3, 11), (3, 12), (3, 13), (3, 14), (3, 15), (3, 16)], jOw (dC, dI) G0 3 r0 s.heap)]) [0] rfl
            clear hh_9
            have hd_60f := hh_61.at 3 rfl
            refine j7_iastX hx hb hK hh_61 hB hB172 1 rfl (by decide) (by decide) rfl 0 rfl (M1 := [(sa_, 171, 40, ca 1, fb_9)]) [1] rfl rfl rfl hg_ea_ (x := 39) ((by decide)) (by omega) (by first | omega | (refine ⟨?_, ?_⟩ <;> (first | omega | rfl | assumption | decide | exact Or.inl rfl | exact Or.inr rfl | (simp only; omega)))) dX1_part_128 (fun H_59 locs_59 fs_62 hv_59 ho_59 hr_59 hh_59 => ?_)
            have hv_59 : jSo fs_62 (39) = pl.toInt := by unfold jSo; rw [hv_59]; try exact rfl
            clear hh_61
            have hd_60n := jDcc.arr hd_60 hg_r0 hg_ea_ (Or.inr ⟨rfl, hd_60f⟩) hr_59
            have hh_63 := hh_59.addI (jDcc.ie hd_60n)
            clear hh_59
            clear hd_60 hd_60f hd_60n hr_59
            refine lv_aload_n hx hb dX1_part_129 rfl (lv_at hl 0 rfl) ?_
            obtain ⟨v_64, hv_64, hh_65⟩ := hh_63.pin (C := RX1) (T := TX1) (N := 17) hB3 rfl (by decide) hg_r0 (i := 8) (by decide) rfl
            clear hh_63
            obtain ⟨early_66, rfl, hg_early_66⟩ := hv_64
            refine j7_read hx hb hown hK (C := RX1) (T := TX1) (N := 17) rfl hly_3_8 hlk_27 (hh_65.at 0 rfl) dX1_part_130 ?_
            refine lv_bipush (v := 39) hx hb dX1_part_133 (by decide) ?_
            refine lv_iconst (v := 2) hx hb dX1_part_135 (by decide) ?_
            refine j7_iast hx hb hK hh_65 hB hB101 1 rfl (by decide) (by decide) rfl rfl rfl hg_early_66 (x := 39) ((by decide)) (by omega) (trivial) dX1_part_136 (fun H_67 locs_67 hh_67 => ?_)
            clear hh_65
            refine lv_iconst (v := 0) hx hb dX1_part_137 (by decide) ?_
            refine lv_istore_n (lv' := [(3, .int 0), (0, .ref r0), (1, .ref r1), (2, .int v2_9)]) hx hb dX1_part_138 rfl hl (by decide) rfl (fun ls hl => ?_)
            have L139 : ∀ (N : Nat) (v3_68 : Int32) (H_68 : Heap) (locs_68 : List Loc), jSt (dC, dI) B base G0 G0 EX1_partE s.heap 0 0 [(r0, 3, 8, .ref early_66), (r0, 3, 4, .int ws_9), (r0, 3, 3, .int pl), (r0, 3, 5, .ref sa_), (r0, 3, 6, .ref ea_)] [(ea_, 172, 40, ca 1, fs_62), (sa_, 171, 40, ca 1, fb_9)] [(jFdo, jDcc dC dI ca G0 (some r0) ph), ([(3, 0), (3, 1), (3, 2), (3, 3), (3, 4), (3, 5), (3, 6), (3, 7), (3, 8), (3, 9), (3, 10), (3, 11), (3, 12), (3, 13), (3, 14), (3, 15), (3, 16)], jOw (dC, dI) G0 3 r0 s.heap)] H_68 locs_68 → (0 ≤ v3_68.toInt ∧ v3_68.toInt ≤ ws_9.toInt) → (ws_9.toInt - v3_68.toInt : Int) < N → ∀ ls : Array Slot, lv_has ls 5 [(0, .ref r0), (1, .ref r1), (2, .int v2_9), (3, .int v3_68)] → W p l e R s m ([.ref r0, .ref r1] : List Value).toArray below meth c H_68 locs_68 0 0 Q (F0 m 139 ls []) := by
              intro N
              induction N with
              | zero => intro v3_68 H_68 locs_68 hh_68  hi_68 hm; exact absurd hm (by omega)
              | succ N L139 =>
                intro v3_68 H_68 locs_68 hh_68  hi_68 hm_68 ls hl
                obtain ⟨hi_68_0, hi_68_1⟩ := hi_68
                refine lv_iload_n hx hb dX1_part_139 rfl (lv_at hl 3 rfl) ?_
                refine lv_aload_n hx hb dX1_part_140 rfl (lv_at hl 0 rfl) ?_
                refine j7_read hx hb hown hK (C := RX1) (T := TX1) (N := 17) rfl hly_3_4 hlk_69 (hh_68.at 1 rfl) dX1_part_141 ?_
                refine lv_icmp_ge (tgt := 194) hx hb dX1_part_144 (by decide) (fun c_69 => ?_) (fun c_69 => ?_)
                · skip
                  have c_69' : v3_68.toInt ≥ ws_9.toInt := jb_ge (rfl) (rfl) c_69
                  rw [hQ]
                  exact W.vret hx hb hr (fun t ht hW => ⟨⟨(ws_9, fb_9, fs_62), rfl, by (try dsimp only); refine ⟨by omega, by omega, ?_⟩; exact jSn.last (jSn.ce hi_9_5 (by omega)) (by omega) hv_59 ho_59, ⟨⟨⟨hh_68.rt (M1 := [(r0, 3, 4, .int ws_9)]) [1] rfl ht, by rw [ht]; exact hh_68.2.2.2.2.2.2.2.1.sub [1, 0] rfl⟩, by rw [ht]; exact hh_68.iv 1 rfl⟩, by rw [ht]; exact hh_68.2.2.2.2.2.2.2.2.sub (L1 := [(jFdo, jDcc dC dI ca G0 (some r0) ph)]) [0] rfl⟩⟩, by rw [ht]; try exact hh_68.1.1, fun q h9 hq => by rw [ht]; try exact hh_68.1.2.1 q h9 hq⟩) hh_68.1.2.2 dX1_part_194
                · skip
                  have c_69' : v3_68.toInt < ws_9.toInt := jb_ge_n (rfl) (rfl) c_69
                  refine lv_aload_n hx hb dX1_part_147 rfl (lv_at hl 0 rfl) ?_
                  obtain ⟨v_70, hv_70, hh_71⟩ := hh_68.pin (C := RX1) (T := TX1) (N := 17) hB3 rfl (by decide) hg_r0 (i := 7) (by decide) rfl
                  clear hh_68
                  obtain ⟨costs_72, rfl, hg_costs_72⟩ := hv_70
                  refine j7_read hx hb hown hK (C := RX1) (T := TX1) (N := 17) rfl hly_3_7 hlk_24 (hh_71.at 0 rfl) dX1_part_148 ?_
                  refine lv_iload_n hx hb dX1_part_151 rfl (lv_at hl 3 rfl) ?_
                  refine lv_iconst (v := 3) hx hb dX1_part_152 (by decide) ?_
                  refine lv_aload_n hx hb dX1_part_153 rfl (lv_at hl 0 rfl) ?_
                  refine j7_read hx hb hown hK (C := RX1) (T := TX1) (N := 17) rfl hly_3_8 hlk_27 (hh_71.at 1 rfl) dX1_part_154 ?_
                  refine lv_iload_n hx hb dX1_part_157 rfl (lv_at hl 3 rfl) ?_
                  refine j7_iald hx hb hK hh_71 hB101 1 rfl (by decide) hg_early_66 (x := v3_68.toInt) (rfl) (by omega) dX1_part_158 (fun z_73 (hz_73 : True) => ?_)
                  refine lv_if_le (tgt := 166) hx hb dX1_part_159 (by decide) (fun c_74 => ?_) (fun c_74 => ?_)
                  · skip
                    have c_74' : z_73.toInt ≤ 0 := jb_le (rfl) ((by decide)) c_74
                    refine lv_aload_n hx hb dX1_part_166 rfl (lv_at hl 1 rfl) ?_
                    refine lv_aload_n hx hb dX1_part_167 rfl (lv_at hl 0 rfl) ?_
                    obtain ⟨v_75, hv_75, hh_76⟩ := hh_71.pin (C := RX1) (T := TX1) (N := 17) hB3 rfl (by decide) hg_r0 (i := 2) (by decide) rfl
                    clear hh_71
                    obtain ⟨text_77, rfl, hg_text_77⟩ := hv_75
                    refine j7_read hx hb hown hK (C := RX1) (T := TX1) (N := 17) rfl hly_3_2 hlk_15 (hh_76.at 0 rfl) dX1_part_168 ?_
                    refine lv_aload_n hx hb dX1_part_171 rfl (lv_at hl 0 rfl) ?_
                    refine j7_read hx hb hown hK (C := RX1) (T := TX1) (N := 17) rfl hly_3_5 hlk_18 (hh_76.at 5 rfl) dX1_part_172 ?_
                    refine lv_iload_n hx hb dX1_part_175 rfl (lv_at hl 3 rfl) ?_
                    refine j7_ialdM hx hb hK hh_76 hB171 1 rfl (by decide) hg_sa_ (x := v3_68.toInt) (rfl) (by omega) (j := 1) rfl dX1_part_176 (fun z_78 ez_78 (hz_78 : 0 ≤ z_78.toInt ∧ z_78.toInt ≤ 1500) => ?_)
                    have hqz_78 : z_78.toInt = jSo fb_9 (v3_68.toInt) := by unfold jSo; rw [ez_78]
                    refine lv_aload_n hx hb dX1_part_177 rfl (lv_at hl 0 rfl) ?_
                    refine j7_read hx hb hown hK (C := RX1) (T := TX1) (N := 17) rfl hly_3_6 hlk_21 (hh_76.at 6 rfl) dX1_part_178 ?_
                    refine lv_iload_n hx hb dX1_part_181 rfl (lv_at hl 3 rfl) ?_
                    refine j7_ialdM hx hb hK hh_76 hB172 1 rfl (by decide) hg_ea_ (x := v3_68.toInt) (rfl) (by omega) (j := 0) rfl dX1_part_182 (fun z_79 ez_79 (hz_79 : 0 ≤ z_79.toInt ∧ z_79.toInt ≤ 1500) => ?_)
                    have hqz_79 : z_79.toInt = jSo fs_62 (v3_68.toInt) := by unfold jSo; rw [ez_79]
                    refine va_calli (A0 := jA base) (H0 := s.heap) (va_runV (As := [.ref text_77, .int z_78, .int z_79]) (rest := [.int 3, .int v3_68, .ref costs_72]) ⟨hx, hb, hml, hown, hts⟩ (uX10_scanBt9 l dC dI ca base B hB hAp hB8 hB12 hB101 hB102 hB132 hB133 hB173 hB293 G0 H_68 r1 text_77 z_78 z_79 1500) (cwV 3 hts (jgV (jWr_36 _ (List.mem_of_getElem? (i := 19) rfl)) (jWr_36 _ (List.mem_of_getElem? (i := 20) rfl)) (jWr_36 _ (List.mem_of_getElem? (i := 21) rfl)) (jWr_4 _ (List.mem_of_getElem? (i := 14) rfl)) (jWr_36 _ (List.mem_of_getElem? (i := 22) rfl))) rfl rfl rfl (by decide +kernel) ⟨by rw [← hR]; exact Nat.le_of_ble_eq_true rfl, by rw [← hR]; exact Nat.le_of_ble_eq_true rfl⟩) ⟨fun a U g mk q => by obtain ⟨q0, q1, q2, qK, q10, q11, q12, q13⟩ := q; exact ⟨q0, q1, q2, jG.calling g mk a qK, q10, q11, q12, q13⟩, hh_76.recv (C := RX10) (T := TX10) (N := 11) hB12 rfl (by decide) hg_r1 hK, fun U hU hW => ⟨rfl, hU, hh_76.2.1, hG.step hW hU hh_76.1, hg_r1, hg_text_77, jP.nil, by first | omega | (refine ⟨?_, ?_⟩ <;> (first | omega | rfl | assumption | decide | exact Or.inl rfl | exact Or.inr rfl | (simp only; omega)))⟩⟩ rfl rfl hl.1 rfl (lv_room (Nat.le_of_ble_eq_true rfl)) dX1_part_183 ⟨Nat.zero_le _, Nat.zero_le _⟩) hh_76.1 (fun q _ h => h) (fun q h => h) (fun r_81 u_80 t_80 H_80 locs_80 ht_80 hvm_80 hr_81 hb_80 hz_80 hk_80 hS_80 => ?_)
                    rw [ht_80] at hb_80
                    obtain ⟨hb_801, hb_802, hb_803, hb_804, hb_805⟩ := hb_80
                    have hh_80 : jSt (dC, dI) B base G0 G0 EX1_partE s.heap 0 0 [(r0, 3, 2, .ref text_77), (r0, 3, 7, .ref costs_72), (r0, 3, 8, .ref early_66), (r0, 3, 4, .int ws_9), (r0, 3, 3, .int pl), (r0, 3, 5, .ref sa_), (r0, 3, 6, .ref ea_)] [(ea_, 172, 40, ca 1, fs_62), (sa_, 171, 40, ca 1, fb_9)] [(jFdo, jDcc dC dI ca G0 (some r0) ph), ([(3, 0), (3, 1), (3, 2), (3, 3), (3, 4), (3, 5), (3, 6), (3, 7), (3, 8), (3, 9), (3, 10), (3, 11), (3, 12), (3, 13), (3, 14), (3, 15), (3, 16)], jOw (dC, dI) G0 3 r0 s.heap)] H_80 locs_80 := ((hh_76.call hb_801 hb_802 hb_803 hb_804 hS_80 rfl (L1 := [(r0, 3, 2, .ref text_77), (r0, 3, 7, .ref costs_72), (r0, 3, 8, .ref early_66), (r0, 3, 4, .int ws_9), (r0, 3, 3, .int pl), (r0, 3, 5, .ref sa_), (r0, 3, 6, .ref ea_)]) [0, 1, 2, 3, 4, 5, 6] rfl rfl (M1 := [(ea_, 172, 40, ca 1, fs_62), (sa_, 171, 40, ca 1, fb_9)]) [0, 1] rfl rfl (I1 := [(jFdo, jDcc dC dI ca G0 (some r0) ph), ([(3, 0), (3, 1), (3, 2), (3, 3), (3, 4), (3, 5), (3, 6), (3, 7), (3, 8), (3, 9), (3, 10), (3, 11), (3, 12), (3, 13), (3, 14), (3, 15), (3, 16)], jOw (dC, dI) G0 3 r0 s.heap)]) [0, 1] rfl rfl).more hb_805)
                    clear hh_76 ht_80 hvm_80 hz_80 hk_80 hS_80 hb_801 hb_802 hb_803 hb_804 hb_805
                    obtain ⟨hr_81_0, hr_81_1⟩ := hr_81
                    refine lv_iadd hx hb dX1_part_186 ?_
                    refine lv_topi (fun z_82 ez_82 => ?_)
                    refine j7_iast hx hb hK hh_80 hB hB101 1 rfl (by decide) (by decide) rfl rfl rfl hg_costs_72 (x := v3_68.toInt) (rfl) (by omega) (trivial) dX1_part_187 (fun H_83 locs_83 hh_83 => ?_)
                    clear hh_80
                    obtain ⟨z_84, ez_84⟩ : ∃ y : Int32, y = v3_68 + 1 := ⟨_, rfl⟩
                    refine lv_iinc (v := z_84) (lv' := [(3, .int z_84), (0, .ref r0), (1, .ref r1), (2, .int v2_9)]) hx hb dX1_part_188 hl (k := 3) rfl (by rw [ez_84]; rfl) (by decide) rfl (fun ls hl => ?_)
                    have hz_84 : z_84.toInt = v3_68.toInt + 1 := by rw [ez_84]; exact jb_iadd2 (rfl) (by decide) (by omega)
                    refine lv_goto (tgt := 139) hx hb dX1_part_191 (by decide) ?_
                    exact L139 z_84 _ _ (hh_83.sub (L1 := [(r0, 3, 8, .ref early_66), (r0, 3, 4, .int ws_9), (r0, 3, 3, .int pl), (r0, 3, 5, .ref sa_), (r0, 3, 6, .ref ea_)]) [2, 3, 4, 5, 6] rfl (M1 := [(ea_, 172, 40, ca 1, fs_62), (sa_, 171, 40, ca 1, fb_9)]) [0, 1] rfl (I1 := [(jFdo, jDcc dC dI ca G0 (some r0) ph), ([(3, 0), (3, 1), (3, 2), (3, 3), (3, 4), (3, 5), (3, 6), (3, 7), (3, 8), (3, 9), (3, 10), (3, 11), (3, 12), (3, 13), (3, 14), (3, 15), (3, 16)], jOw (dC, dI) G0 3 r0 s.heap)]) [0, 1] rfl) (by first | omega | (refine ⟨?_, ?_⟩ <;> (first | omega | rfl | assumption | decide | exact Or.inl rfl | exact Or.inr rfl | (simp only; omega)))) (by omega) _ (lv_sub hl [1, 2, 3, 0] rfl)
                  · skip
                    have c_74' : z_73.toInt > 0 := jb_le_n (rfl) ((by decide)) c_74
                    refine lv_iconst (v := 1) hx hb dX1_part_162 (by decide) ?_
                    refine lv_goto (tgt := 186) hx hb dX1_part_163 (by decide) ?_
                    refine lv_iadd hx hb dX1_part_186 ?_
                    refine lv_topi (fun z_85 ez_85 => ?_)
                    refine j7_iast hx hb hK hh_71 hB hB101 1 rfl (by decide) (by decide) rfl rfl rfl hg_costs_72 (x := v3_68.toInt) (rfl) (by omega) (trivial) dX1_part_187 (fun H_86 locs_86 hh_86 => ?_)
                    clear hh_71
                    obtain ⟨z_87, ez_87⟩ : ∃ y : Int32, y = v3_68 + 1 := ⟨_, rfl⟩
                    refine lv_iinc (v := z_87) (lv' := [(3, .int z_87), (0, .ref r0), (1, .ref r1), (2, .int v2_9)]) hx hb dX1_part_188 hl (k := 3) rfl (by rw [ez_87]; rfl) (by decide) rfl (fun ls hl => ?_)
                    have hz_87 : z_87.toInt = v3_68.toInt + 1 := by rw [ez_87]; exact jb_iadd2 (rfl) (by decide) (by omega)
                    refine lv_goto (tgt := 139) hx hb dX1_part_191 (by decide) ?_
                    exact L139 z_87 _ _ (hh_86.sub (L1 := [(r0, 3, 8, .ref early_66), (r0, 3, 4, .int ws_9), (r0, 3, 3, .int pl), (r0, 3, 5, .ref sa_), (r0, 3, 6, .ref ea_)]) [1, 2, 3, 4, 5] rfl (M1 := [(ea_, 172, 40, ca 1, fs_62), (sa_, 171, 40, ca 1, fb_9)]) [0, 1] rfl (I1 := [(jFdo, jDcc dC dI ca G0 (some r0) ph), ([(3, 0), (3, 1), (3, 2), (3, 3), (3, 4), (3, 5), (3, 6), (3, 7), (3, 8), (3, 9), (3, 10), (3, 11), (3, 12), (3, 13), (3, 14), (3, 15), (3, 16)], jOw (dC, dI) G0 3 r0 s.heap)]) [0, 1] rfl) (by first | omega | (refine ⟨?_, ?_⟩ <;> (first | omega | rfl | assumption | decide | exact Or.inl rfl | exact Or.inr rfl | (simp only; omega)))) (by omega) _ (lv_sub hl [1, 2, 3, 0] rfl)
            exact L139 (ws_9.toInt - (0 : Int32).toInt : Int).toNat.succ 0 _ _ hh_67 (by first | omega | (refine ⟨?_, ?_⟩ <;> (first | omega | rfl | assumption | decide | exact Or.inl rfl | exact Or.inr rfl | (simp only; omega)))) (by omega) _ (lv_sub hl [1, 2, 3, 0] rfl)
      · skip
        have c_10' : v3_9.toInt < 40 := jb_ge_n (rfl) ((by decide)) c_10
        refine lv_iload_n hx hb dX1_part_19 rfl (lv_at hl 2 rfl) ?_
        refine lv_aload_n hx hb dX1_part_20 rfl (lv_at hl 0 rfl) ?_
        refine j7_read hx hb hown hK (C := RX1) (T := TX1) (N := 17) rfl hly_3_3 hlk_42 (hh_9.at 1 rfl) dX1_part_21 ?_
        refine lv_icmp_ge (tgt := 101) hx hb dX1_part_24 (by decide) (fun c_88 => ?_) (fun c_88 => ?_)
        · skip
          have c_88' : v2_9.toInt ≥ pl.toInt := jb_ge (rfl) (rfl) c_88
          refine lv_iload_n hx hb dX1_part_101 rfl (lv_at hl 2 rfl) ?_
          refine lv_aload_n hx hb dX1_part_102 rfl (lv_at hl 0 rfl) ?_
          refine j7_read hx hb hown hK (C := RX1) (T := TX1) (N := 17) rfl hly_3_3 hlk_42 (hh_9.at 1 rfl) dX1_part_103 ?_
          refine lv_icmp_ge (tgt := 137) hx hb dX1_part_106 (by decide) (fun c_89 => ?_) (fun c_89 => ?_)
          · skip
            have c_89' : v2_9.toInt ≥ pl.toInt := jb_ge (rfl) (rfl) c_89
            refine lv_iconst (v := 0) hx hb dX1_part_137 (by decide) ?_
            refine lv_istore_n (lv' := [(3, .int 0), (0, .ref r0), (1, .ref r1), (2, .int v2_9)]) hx hb dX1_part_138 rfl hl (by decide) rfl (fun ls hl => ?_)
            have L139 : ∀ (N : Nat) (v3_90 : Int32) (H_90 : Heap) (locs_90 : List Loc), jSt (dC, dI) B base G0 G0 EX1_partE s.heap 0 0 [(r0, 3, 4, .int ws_9), (r0, 3, 3, .int pl), (r0, 3, 5, .ref sa_), (r0, 3, 6, .ref ea_)] [(ea_, 172, 40, ca 1, fe_9), (sa_, 171, 40, ca 1, fb_9)] [([(3, 0), (3, 1), (3, 2), (3, 3), (3, 4), (3, 5), (3, 6), (3, 7), (3, 8), (3, 9), (3, 10), (3, 11), (3, 12), (3, 13), (3, 14), (3, 15), (3, 16)], jOw (dC, dI) G0 3 r0 s.heap), (jFdo, jDcc dC dI ca G0 (some r0) ph)] H_90 locs_90 → (0 ≤ v3_90.toInt ∧ v3_90.toInt ≤ ws_9.toInt) → (ws_9.toInt - v3_90.toInt : Int) < N → ∀ ls : Array Slot, lv_has ls 5 [(0, .ref r0), (1, .ref r1), (2, .int v2_9), (3, .int v3_90)] → W p l e R s m ([.ref r0, .ref r1] : List Value).toArray below meth c H_90 locs_90 0 0 Q (F0 m 139 ls []) := by
              intro N
              induction N with
              | zero => intro v3_90 H_90 locs_90 hh_90  hi_90 hm; exact absurd hm (by omega)
              | succ N L139 =>
                intro v3_90 H_90 locs_90 hh_90  hi_90 hm_90 ls hl
                obtain ⟨hi_90_0, hi_90_1⟩ := hi_90
                refine lv_iload_n hx hb dX1_part_139 rfl (lv_at hl 3 rfl) ?_
                refine lv_aload_n hx hb dX1_part_140 rfl (lv_at hl 0 rfl) ?_
                refine j7_read hx hb hown hK (C := RX1) (T := TX1) (N := 17) rfl hly_3_4 hlk_69 (hh_90.at 0 rfl) dX1_part_141 ?_
                refine lv_icmp_ge (tgt := 194) hx hb dX1_part_144 (by decide) (fun c_91 => ?_) (fun c_91 => ?_)
                · skip
                  have c_91' : v3_90.toInt ≥ ws_9.toInt := jb_ge (rfl) (rfl) c_91
                  rw [hQ]
                  exact W.vret hx hb hr (fun t ht hW => ⟨⟨(ws_9, fb_9, fe_9), rfl, by (try dsimp only); refine ⟨by omega, by omega, ?_⟩; exact jSn.ce hi_9_5 (by omega), ⟨⟨⟨hh_90.rt (M1 := [(r0, 3, 4, .int ws_9)]) [0] rfl ht, by rw [ht]; exact hh_90.2.2.2.2.2.2.2.1.sub [1, 0] rfl⟩, by rw [ht]; exact hh_90.iv 0 rfl⟩, by rw [ht]; exact hh_90.2.2.2.2.2.2.2.2.sub (L1 := [(jFdo, jDcc dC dI ca G0 (some r0) ph)]) [1] rfl⟩⟩, by rw [ht]; try exact hh_90.1.1, fun q h9 hq => by rw [ht]; try exact hh_90.1.2.1 q h9 hq⟩) hh_90.1.2.2 dX1_part_194
                · skip
                  have c_91' : v3_90.toInt < ws_9.toInt := jb_ge_n (rfl) (rfl) c_91
                  refine lv_aload_n hx hb dX1_part_147 rfl (lv_at hl 0 rfl) ?_
                  obtain ⟨v_92, hv_92, hh_93⟩ := hh_90.pin (C := RX1) (T := TX1) (N := 17) hB3 rfl (by decide) hg_r0 (i := 7) (by decide) rfl
                  clear hh_90
                  obtain ⟨costs_94, rfl, hg_costs_94⟩ := hv_92
                  refine j7_read hx hb hown hK (C := RX1) (T := TX1) (N := 17) rfl hly_3_7 hlk_24 (hh_93.at 0 rfl) dX1_part_148 ?_
                  refine lv_iload_n hx hb dX1_part_151 rfl (lv_at hl 3 rfl) ?_
                  refine lv_iconst (v := 3) hx hb dX1_part_152 (by decide) ?_
                  refine lv_aload_n hx hb dX1_part_153 rfl (lv_at hl 0 rfl) ?_
                  obtain ⟨v_95, hv_95, hh_96⟩ := hh_93.pin (C := RX1) (T := TX1) (N := 17) hB3 rfl (by decide) hg_r0 (i := 8) (by decide) rfl
                  clear hh_93
                  obtain ⟨early_97, rfl, hg_early_97⟩ := hv_95
                  refine j7_read hx hb hown hK (C := RX1) (T := TX1) (N := 17) rfl hly_3_8 hlk_27 (hh_96.at 0 rfl) dX1_part_154 ?_
                  refine lv_iload_n hx hb dX1_part_157 rfl (lv_at hl 3 rfl) ?_
                  refine j7_iald hx hb hK hh_96 hB101 1 rfl (by decide) hg_early_97 (x := v3_90.toInt) (rfl) (by omega) dX1_part_158 (fun z_98 (hz_98 : True) => ?_)
                  refine lv_if_le (tgt := 166) hx hb dX1_part_159 (by decide) (fun c_99 => ?_) (fun c_99 => ?_)
                  · skip
                    have c_99' : z_98.toInt ≤ 0 := jb_le (rfl) ((by decide)) c_99
                    refine lv_aload_n hx hb dX1_part_166 rfl (lv_at hl 1 rfl) ?_
                    refine lv_aload_n hx hb dX1_part_167 rfl (lv_at hl 0 rfl) ?_
                    obtain ⟨v_100, hv_100, hh_101⟩ := hh_96.pin (C := RX1) (T := TX1) (N := 17) hB3 rfl (by decide) hg_r0 (i := 2) (by decide) rfl
                    clear hh_96
                    obtain ⟨text_102, rfl, hg_text_102⟩ := hv_100
                    refine j7_read hx hb hown hK (C := RX1) (T := TX1) (N := 17) rfl hly_3_2 hlk_15 (hh_101.at 0 rfl) dX1_part_168 ?_
                    refine lv_aload_n hx hb dX1_part_171 rfl (lv_at hl 0 rfl) ?_
                    refine j7_read hx hb hown hK (C := RX1) (T := TX1) (N := 17) rfl hly_3_5 hlk_18 (hh_101.at 5 rfl) dX1_part_172 ?_
                    refine lv_iload_n hx hb dX1_part_175 rfl (lv_at hl 3 rfl) ?_
                    refine j7_ialdM hx hb hK hh_101 hB171 1 rfl (by decide) hg_sa_ (x := v3_90.toInt) (rfl) (by omega) (j := 1) rfl dX1_part_176 (fun z_103 ez_103 (hz_103 : 0 ≤ z_103.toInt ∧ z_103.toInt ≤ 1500) => ?_)
                    have hqz_103 : z_103.toInt = jSo fb_9 (v3_90.toInt) := by unfold jSo; rw [ez_103]
                    refine lv_aload_n hx hb dX1_part_177 rfl (lv_at hl 0 rfl) ?_
                    refine j7_read hx hb hown hK (C := RX1) (T := TX1) (N := 17) rfl hly_3_6 hlk_21 (hh_101.at 6 rfl) dX1_part_178 ?_
                    refine lv_iload_n hx hb dX1_part_181 rfl (lv_at hl 3 rfl) ?_
                    refine j7_ialdM hx hb hK hh_101 hB172 1 rfl (by decide) hg_ea_ (x := v3_90.toInt) (rfl) (by omega) (j := 0) rfl dX1_part_182 (fun z_104 ez_104 (hz_104 : 0 ≤ z_104.toInt ∧ z_104.toInt ≤ 1500) => ?_)
                    have hqz_104 : z_104.toInt = jSo fe_9 (v3_90.toInt) := by unfold jSo; rw [ez_104]
                    refine va_calli (A0 := jA base) (H0 := s.heap) (va_runV (As := [.ref text_102, .int z_103, .int z_104]) (rest := [.int 3, .int v3_90, .ref costs_94]) ⟨hx, hb, hml, hown, hts⟩ (uX10_scanBt9 l dC dI ca base B hB hAp hB8 hB12 hB101 hB102 hB132 hB133 hB173 hB293 G0 H_90 r1 text_102 z_103 z_104 1500) (cwV 3 hts (jgV (jWr_36 _ (List.mem_of_getElem? (i := 19) rfl)) (jWr_36 _ (List.mem_of_getElem? (i := 20) rfl)) (jWr_36 _ (List.mem_of_getElem? (i := 21) rfl)) (jWr_4 _ (List.mem_of_getElem? (i := 14) rfl)) (jWr_36 _ (List.mem_of_getElem? (i := 22) rfl))) rfl rfl rfl (by decide +kernel) ⟨by rw [← hR]; exact Nat.le_of_ble_eq_true rfl, by rw [← hR]; exact Nat.le_of_ble_eq_true rfl⟩) ⟨fun a U g mk q => by obtain ⟨q0, q1, q2, qK, q10, q11, q12, q13⟩ := q; exact ⟨q0, q1, q2, jG.calling g mk a qK, q10, q11, q12, q13⟩, hh_101.recv (C := RX10) (T := TX10) (N := 11) hB12 rfl (by decide) hg_r1 hK, fun U hU hW => ⟨rfl, hU, hh_101.2.1, hG.step hW hU hh_101.1, hg_r1, hg_text_102, jP.nil, by first | omega | (refine ⟨?_, ?_⟩ <;> (first | omega | rfl | assumption | decide | exact Or.inl rfl | exact Or.inr rfl | (simp only; omega)))⟩⟩ rfl rfl hl.1 rfl (lv_room (Nat.le_of_ble_eq_true rfl)) dX1_part_183 ⟨Nat.zero_le _, Nat.zero_le _⟩) hh_101.1 (fun q _ h => h) (fun q h => h) (fun r_106 u_105 t_105 H_105 locs_105 ht_105 hvm_105 hr_106 hb_105 hz_105 hk_105 hS_105 => ?_)
                    rw [ht_105] at hb_105
                    obtain ⟨hb_1051, hb_1052, hb_1053, hb_1054, hb_1055⟩ := hb_105
                    have hh_105 : jSt (dC, dI) B base G0 G0 EX1_partE s.heap 0 0 [(r0, 3, 2, .ref text_102), (r0, 3, 8, .ref early_97), (r0, 3, 7, .ref costs_94), (r0, 3, 4, .int ws_9), (r0, 3, 3, .int pl), (r0, 3, 5, .ref sa_), (r0, 3, 6, .ref ea_)] [(ea_, 172, 40, ca 1, fe_9), (sa_, 171, 40, ca 1, fb_9)] [([(3, 0), (3, 1), (3, 2), (3, 3), (3, 4), (3, 5), (3, 6), (3, 7), (3, 8), (3, 9), (3, 10), (3, 11), (3, 12), (3, 13), (3, 14), (3, 15), (3, 16)], jOw (dC, dI) G0 3 r0 s.heap), (jFdo, jDcc dC dI ca G0 (some r0) ph)] H_105 locs_105 := ((hh_101.call hb_1051 hb_1052 hb_1053 hb_1054 hS_105 rfl (L1 := [(r0, 3, 2, .ref text_102), (r0, 3, 8, .ref early_97), (r0, 3, 7, .ref costs_94), (r0, 3, 4, .int ws_9), (r0, 3, 3, .int pl), (r0, 3, 5, .ref sa_), (r0, 3, 6, .ref ea_)]) [0, 1, 2, 3, 4, 5, 6] rfl rfl (M1 := [(ea_, 172, 40, ca 1, fe_9), (sa_, 171, 40, ca 1, fb_9)]) [0, 1] rfl rfl (I1 := [([(3, 0), (3, 1), (3, 2), (3, 3), (3, 4), (3, 5), (3, 6), (3, 7), (3, 8), (3, 9), (3, 10), (3, 11), (3, 12), (3, 13), (3, 14), (3, 15), (3, 16)], jOw (dC, dI) G0 3 r0 s.heap), (jFdo, jDcc dC dI ca G0 (some r0) ph)]) [0, 1] rfl rfl).more hb_1055)
                    clear hh_101 ht_105 hvm_105 hz_105 hk_105 hS_105 hb_1051 hb_1052 hb_1053 hb_1054 hb_1055
                    obtain ⟨hr_106_0, hr_106_1⟩ := hr_106
                    refine lv_iadd hx hb dX1_part_186 ?_
                    refine lv_topi (fun z_107 ez_107 => ?_)
                    refine j7_iast hx hb hK hh_105 hB hB101 1 rfl (by decide) (by decide) rfl rfl rfl hg_costs_94 (x := v3_90.toInt) (rfl) (by omega) (trivial) dX1_part_187 (fun H_108 locs_108 hh_108 => ?_)
                    clear hh_105
                    obtain ⟨z_109, ez_109⟩ : ∃ y : Int32, y = v3_90 + 1 := ⟨_, rfl⟩
                    refine lv_iinc (v := z_109) (lv' := [(3, .int z_109), (0, .ref r0), (1, .ref r1), (2, .int v2_9)]) hx hb dX1_part_188 hl (k := 3) rfl (by rw [ez_109]; rfl) (by decide) rfl (fun ls hl => ?_)
                    have hz_109 : z_109.toInt = v3_90.toInt + 1 := by rw [ez_109]; exact jb_iadd2 (rfl) (by decide) (by omega)
                    refine lv_goto (tgt := 139) hx hb dX1_part_191 (by decide) ?_
                    exact L139 z_109 _ _ (hh_108.sub (L1 := [(r0, 3, 4, .int ws_9), (r0, 3, 3, .int pl), (r0, 3, 5, .ref sa_), (r0, 3, 6, .ref ea_)]) [3, 4, 5, 6] rfl (M1 := [(ea_, 172, 40, ca 1, fe_9), (sa_, 171, 40, ca 1, fb_9)]) [0, 1] rfl (I1 := [([(3, 0), (3, 1), (3, 2), (3, 3), (3, 4), (3, 5), (3, 6), (3, 7), (3, 8), (3, 9), (3, 10), (3, 11), (3, 12), (3, 13), (3, 14), (3, 15), (3, 16)], jOw (dC, dI) G0 3 r0 s.heap), (jFdo, jDcc dC dI ca G0 (some r0) ph)]) [0, 1] rfl) (by first | omega | (refine ⟨?_, ?_⟩ <;> (first | omega | rfl | assumption | decide | exact Or.inl rfl | exact Or.inr rfl | (simp only; omega)))) (by omega) _ (lv_sub hl [1, 2, 3, 0] rfl)
                  · skip
                    have c_99' : z_98.toInt > 0 := jb_le_n (rfl) ((by decide)) c_99
                    refine lv_iconst (v := 1) hx hb dX1_part_162 (by decide) ?_
                    refine lv_goto (tgt := 186) hx hb dX1_part_163 (by decide) ?_
                    refine lv_iadd hx hb dX1_part_186 ?_
                    refine lv_topi (fun z_110 ez_110 => ?_)
                    refine j7_iast hx hb hK hh_96 hB hB101 1 rfl (by decide) (by decide) rfl rfl rfl hg_costs_94 (x := v3_90.toInt) (rfl) (by omega) (trivial) dX1_part_187 (fun H_111 locs_111 hh_111 => ?_)
                    clear hh_96
                    obtain ⟨z_112, ez_112⟩ : ∃ y : Int32, y = v3_90 + 1 := ⟨_, rfl⟩
                    refine lv_iinc (v := z_112) (lv' := [(3, .int z_112), (0, .ref r0), (1, .ref r1), (2, .int v2_9)]) hx hb dX1_part_188 hl (k := 3) rfl (by rw [ez_112]; rfl) (by decide) rfl (fun ls hl => ?_)
                    have hz_112 : z_112.toInt = v3_90.toInt + 1 := by rw [ez_112]; exact jb_iadd2 (rfl) (by decide) (by omega)
                    refine lv_goto (tgt := 139) hx hb dX1_part_191 (by decide) ?_
                    exact L139 z_112 _ _ (hh_111.sub (L1 := [(r0, 3, 4, .int ws_9), (r0, 3, 3, .int pl), (r0, 3, 5, .ref sa_), (r0, 3, 6, .ref ea_)]) [2, 3, 4, 5] rfl (M1 := [(ea_, 172, 40, ca 1, fe_9), (sa_, 171, 40, ca 1, fb_9)]) [0, 1] rfl (I1 := [([(3, 0), (3, 1), (3, 2), (3, 3), (3, 4), (3, 5), (3, 6), (3, 7), (3, 8), (3, 9), (3, 10), (3, 11), (3, 12), (3, 13), (3, 14), (3, 15), (3, 16)], jOw (dC, dI) G0 3 r0 s.heap), (jFdo, jDcc dC dI ca G0 (some r0) ph)]) [0, 1] rfl) (by first | omega | (refine ⟨?_, ?_⟩ <;> (first | omega | rfl | assumption | decide | exact Or.inl rfl | exact Or.inr rfl | (simp only; omega)))) (by omega) _ (lv_sub hl [1, 2, 3, 0] rfl)
            exact L139 (ws_9.toInt - (0 : Int32).toInt : Int).toNat.succ 0 _ _ hh_9 (by first | omega | (refine ⟨?_, ?_⟩ <;> (first | omega | rfl | assumption | decide | exact Or.inl rfl | exact Or.inr rfl | (simp only; omega)))) (by omega) _ (lv_sub hl [1, 2, 3, 0] rfl)
          · skip
            have c_89' : v2_9.toInt < pl.toInt := jb_ge_n (rfl) (rfl) c_89
            refine lv_aload_n hx hb dX1_part_109 rfl (lv_at hl 0 rfl) ?_
            refine j7_read hx hb hown hK (C := RX1) (T := TX1) (N := 17) rfl hly_3_4 hlk_69 (hh_9.at 0 rfl) dX1_part_110 ?_
            refine lv_bipush (v := 40) hx hb dX1_part_113 (by decide) ?_
            refine lv_icmp_ne (tgt := 137) hx hb dX1_part_115 (by decide) (fun c_113 => ?_) (fun c_113 => ?_)
            · skip
              have c_113' : ws_9.toInt ≠ 40 := jb_ne (rfl) ((by decide)) c_113
              refine lv_iconst (v := 0) hx hb dX1_part_137 (by decide) ?_
              refine lv_istore_n (lv' := [(3, .int 0), (0, .ref r0), (1, .ref r1), (2, .int v2_9)]) hx hb dX1_part_138 rfl hl (by decide) rfl (fun ls hl => ?_)
              have L139 : ∀ (N : Nat) (v3_114 : Int32) (H_114 : Heap) (locs_114 : List Loc), jSt (dC, dI) B base G0 G0 EX1_partE s.heap 0 0 [(r0, 3, 4, .int ws_9), (r0, 3, 3, .int pl), (r0, 3, 5, .ref sa_), (r0, 3, 6, .ref ea_)] [(ea_, 172, 40, ca 1, fe_9), (sa_, 171, 40, ca 1, fb_9)] [([(3, 0), (3, 1), (3, 2), (3, 3), (3, 4), (3, 5), (3, 6), (3, 7), (3, 8), (3, 9), (3, 10), (3, 11), (3, 12), (3, 13), (3, 14), (3, 15), (3, 16)], jOw (dC, dI) G0 3 r0 s.heap), (jFdo, jDcc dC dI ca G0 (some r0) ph)] H_114 locs_114 → (0 ≤ v3_114.toInt ∧ v3_114.toInt ≤ ws_9.toInt) → (ws_9.toInt - v3_114.toInt : Int) < N → ∀ ls : Array Slot, lv_has ls 5 [(0, .ref r0), (1, .ref r1), (2, .int v2_9), (3, .int v3_114)] → W p l e R s m ([.ref r0, .ref r1] : List Value).toArray below meth c H_114 locs_114 0 0 Q (F0 m 139 ls []) := by
                intro N
                induction N with
                | zero => intro v3_114 H_114 locs_114 hh_114  hi_114 hm; exact absurd hm (by omega)
                | succ N L139 =>
                  intro v3_114 H_114 locs_114 hh_114  hi_114 hm_114 ls hl
                  obtain ⟨hi_114_0, hi_114_1⟩ := hi_114
                  refine lv_iload_n hx hb dX1_part_139 rfl (lv_at hl 3 rfl) ?_
                  refine lv_aload_n hx hb dX1_part_140 rfl (lv_at hl 0 rfl) ?_
                  refine j7_read hx hb hown hK (C := RX1) (T := TX1) (N := 17) rfl hly_3_4 hlk_69 (hh_114.at 0 rfl) dX1_part_141 ?_
                  refine lv_icmp_ge (tgt := 194) hx hb dX1_part_144 (by decide) (fun c_115 => ?_) (fun c_115 => ?_)
                  · skip
                    have c_115' : v3_114.toInt ≥ ws_9.toInt := jb_ge (rfl) (rfl) c_115
                    rw [hQ]
                    exact W.vret hx hb hr (fun t ht hW => ⟨⟨(ws_9, fb_9, fe_9), rfl, by (try dsimp only); refine ⟨by omega, by omega, ?_⟩; exact jSn.ce hi_9_5 (by omega), ⟨⟨⟨hh_114.rt (M1 := [(r0, 3, 4, .int ws_9)]) [0] rfl ht, by rw [ht]; exact hh_114.2.2.2.2.2.2.2.1.sub [1, 0] rfl⟩, by rw [ht]; exact hh_114.iv 0 rfl⟩, by rw [ht]; exact hh_114.2.2.2.2.2.2.2.2.sub (L1 := [(jFdo, jDcc dC dI ca G0 (some r0) ph)]) [1] rfl⟩⟩, by rw [ht]; try exact hh_114.1.1, fun q h9 hq => by rw [ht]; try exact hh_114.1.2.1 q h9 hq⟩) hh_114.1.2.2 dX1_part_194
                  · skip
                    have c_115' : v3_114.toInt < ws_9.toInt := jb_ge_n (rfl) (rfl) c_115
                    refine lv_aload_n hx hb dX1_part_147 rfl (lv_at hl 0 rfl) ?_
                    obtain ⟨v_116, hv_116, hh_117⟩ := hh_114.pin (C := RX1) (T := TX1) (N := 17) hB3 rfl (by decide) hg_r0 (i := 7) (by decide) rfl
                    clear hh_114
                    obtain ⟨costs_118, rfl, hg_costs_118⟩ := hv_116
                    refine j7_read hx hb hown hK (C := RX1) (T := TX1) (N := 17) rfl hly_3_7 hlk_24 (hh_117.at 0 rfl) dX1_part_148 ?_
                    refine lv_iload_n hx hb dX1_part_151 rfl (lv_at hl 3 rfl) ?_
                    refine lv_iconst (v := 3) hx hb dX1_part_152 (by decide) ?_
                    refine lv_aload_n hx hb dX1_part_153 rfl (lv_at hl 0 rfl) ?_
                    obtain ⟨v_119, hv_119, hh_120⟩ := hh_117.pin (C := RX1) (T := TX1) (N := 17) hB3 rfl (by decide) hg_r0 (i := 8) (by decide) rfl
                    clear hh_117
                    obtain ⟨early_121, rfl, hg_early_121⟩ := hv_119
                    refine j7_read hx hb hown hK (C := RX1) (T := TX1) (N := 17) rfl hly_3_8 hlk_27 (hh_120.at 0 rfl) dX1_part_154 ?_
                    refine lv_iload_n hx hb dX1_part_157 rfl (lv_at hl 3 rfl) ?_
                    refine j7_iald hx hb hK hh_120 hB101 1 rfl (by decide) hg_early_121 (x := v3_114.toInt) (rfl) (by omega) dX1_part_158 (fun z_122 (hz_122 : True) => ?_)
                    refine lv_if_le (tgt := 166) hx hb dX1_part_159 (by decide) (fun c_123 => ?_) (fun c_123 => ?_)
                    · skip
                      have c_123' : z_122.toInt ≤ 0 := jb_le (rfl) ((by decide)) c_123
                      refine lv_aload_n hx hb dX1_part_166 rfl (lv_at hl 1 rfl) ?_
                      refine lv_aload_n hx hb dX1_part_167 rfl (lv_at hl 0 rfl) ?_
                      obtain ⟨v_124, hv_124, hh_125⟩ := hh_120.pin (C := RX1) (T := TX1) (N := 17) hB3 rfl (by decide) hg_r0 (i := 2) (by decide) rfl
                      clear hh_120
                      obtain ⟨text_126, rfl, hg_text_126⟩ := hv_124
                      refine j7_read hx hb hown hK (C := RX1) (T := TX1) (N := 17) rfl hly_3_2 hlk_15 (hh_125.at 0 rfl) dX1_part_168 ?_
                      refine lv_aload_n hx hb dX1_part_171 rfl (lv_at hl 0 rfl) ?_
                      refine j7_read hx hb hown hK (C := RX1) (T := TX1) (N := 17) rfl hly_3_5 hlk_18 (hh_125.at 5 rfl) dX1_part_172 ?_
                      refine lv_iload_n hx hb dX1_part_175 rfl (lv_at hl 3 rfl) ?_
                      refine j7_ialdM hx hb hK hh_125 hB171 1 rfl (by decide) hg_sa_ (x := v3_114.toInt) (rfl) (by omega) (j := 1) rfl dX1_part_176 (fun z_127 ez_127 (hz_127 : 0 ≤ z_127.toInt ∧ z_127.toInt ≤ 1500) => ?_)
                      have hqz_127 : z_127.toInt = jSo fb_9 (v3_114.toInt) := by unfold jSo; rw [ez_127]
                      refine lv_aload_n hx hb dX1_part_177 rfl (lv_at hl 0 rfl) ?_
                      refine j7_read hx hb hown hK (C := RX1) (T := TX1) (N := 17) rfl hly_3_6 hlk_21 (hh_125.at 6 rfl) dX1_part_178 ?_
                      refine lv_iload_n hx hb dX1_part_181 rfl (lv_at hl 3 rfl) ?_
                      refine j7_ialdM hx hb hK hh_125 hB172 1 rfl (by decide) hg_ea_ (x := v3_114.toInt) (rfl) (by omega) (j := 0) rfl dX1_part_182 (fun z_128 ez_128 (hz_128 : 0 ≤ z_128.toInt ∧ z_128.toInt ≤ 1500) => ?_)
                      have hqz_128 : z_128.toInt = jSo fe_9 (v3_114.toInt) := by unfold jSo; rw [ez_128]
                      refine va_calli (A0 := jA base) (H0 := s.heap) (va_runV (As := [.ref text_126, .int z_127, .int z_128]) (rest := [.int 3, .int v3_114, .ref costs_118]) ⟨hx, hb, hml, hown, hts⟩ (uX10_scanBt9 l dC dI ca base B hB hAp hB8 hB12 hB101 hB102 hB132 hB133 hB173 hB293 G0 H_114 r1 text_126 z_127 z_128 1500) (cwV 3 hts (jgV (jWr_36 _ (List.mem_of_getElem? (i := 19) rfl)) (jWr_36 _ (List.mem_of_getElem? (i := 20) rfl)) (jWr_36 _ (List.mem_of_getElem? (i := 21) rfl)) (jWr_4 _ (List.mem_of_getElem? (i := 14) rfl)) (jWr_36 _ (List.mem_of_getElem? (i := 22) rfl))) rfl rfl rfl (by decide +kernel) ⟨by rw [← hR]; exact Nat.le_of_ble_eq_true rfl, by rw [← hR]; exact Nat.le_of_ble_eq_true rfl⟩) ⟨fun a U g mk q => by obtain ⟨q0, q1, q2, qK, q10, q11, q12, q13⟩ := q; exact ⟨q0, q1, q2, jG.calling g mk a qK, q10, q11, q12, q13⟩, hh_125.recv (C := RX10) (T := TX10) (N := 11) hB12 rfl (by decide) hg_r1 hK, fun U hU hW => ⟨rfl, hU, hh_125.2.1, hG.step hW hU hh_125.1, hg_r1, hg_text_126, jP.nil, by first | omega | (refine ⟨?_, ?_⟩ <;> (first | omega | rfl | assumption | decide | exact Or.inl rfl | exact Or.inr rfl | (simp only; omega)))⟩⟩ rfl rfl hl.1 rfl (lv_room (Nat.le_of_ble_eq_true rfl)) dX1_part_183 ⟨Nat.zero_le _, Nat.zero_le _⟩) hh_125.1 (fun q _ h => h) (fun q h => h) (fun r_130 u_129 t_129 H_129 locs_129 ht_129 hvm_129 hr_130 hb_129 hz_129 hk_129 hS_129 => ?_)
                      rw [ht_129] at hb_129
                      obtain ⟨hb_1291, hb_1292, hb_1293, hb_1294, hb_1295⟩ := hb_129
                      have hh_129 : jSt (dC, dI) B base G0 G0 EX1_partE s.heap 0 0 [(r0, 3, 2, .ref text_126), (r0, 3, 8, .ref early_121), (r0, 3, 7, .ref costs_118), (r0, 3, 4, .int ws_9), (r0, 3, 3, .int pl), (r0, 3, 5, .ref sa_), (r0, 3, 6, .ref ea_)] [(ea_, 172, 40, ca 1, fe_9), (sa_, 171, 40, ca 1, fb_9)] [([(3, 0), (3, 1), (3, 2), (3, 3), (3, 4), (3, 5), (3, 6), (3, 7), (3, 8), (3, 9), (3, 10), (3, 11), (3, 12), (3, 13), (3, 14), (3, 15), (3, 16)], jOw (dC, dI) G0 3 r0 s.heap), (jFdo, jDcc dC dI ca G0 (some r0) ph)] H_129 locs_129 := ((hh_125.call hb_1291 hb_1292 hb_1293 hb_1294 hS_129 rfl (L1 := [(r0, 3, 2, .ref text_126), (r0, 3, 8, .ref early_121), (r0, 3, 7, .ref costs_118), (r0, 3, 4, .int ws_9), (r0, 3, 3, .int pl), (r0, 3, 5, .ref sa_), (r0, 3, 6, .ref ea_)]) [0, 1, 2, 3, 4, 5, 6] rfl rfl (M1 := [(ea_, 172, 40, ca 1, fe_9), (sa_, 171, 40, ca 1, fb_9)]) [0, 1] rfl rfl (I1 := [([(3, 0), (3, 1), (3, 2), (3, 3), (3, 4), (3, 5), (3, 6), (3, 7), (3, 8), (3, 9), (3, 10), (3, 11), (3, 12), (3, 13), (3, 14), (3, 15), (3, 16)], jOw (dC, dI) G0 3 r0 s.heap), (jFdo, jDcc dC dI ca G0 (some r0) ph)]) [0, 1] rfl rfl).more hb_1295)
                      clear hh_125 ht_129 hvm_129 hz_129 hk_129 hS_129 hb_1291 hb_1292 hb_1293 hb_1294 hb_1295
                      obtain ⟨hr_130_0, hr_130_1⟩ := hr_130
                      refine lv_iadd hx hb dX1_part_186 ?_
                      refine lv_topi (fun z_131 ez_131 => ?_)
                      refine j7_iast hx hb hK hh_129 hB hB101 1 rfl (by decide) (by decide) rfl rfl rfl hg_costs_118 (x := v3_114.toInt) (rfl) (by omega) (trivial) dX1_part_187 (fun H_132 locs_132 hh_132 => ?_)
                      clear hh_129
                      obtain ⟨z_133, ez_133⟩ : ∃ y : Int32, y = v3_114 + 1 := ⟨_, rfl⟩
                      refine lv_iinc (v := z_133) (lv' := [(3, .int z_133), (0, .ref r0), (1, .ref r1), (2, .int v2_9)]) hx hb dX1_part_188 hl (k := 3) rfl (by rw [ez_133]; rfl) (by decide) rfl (fun ls hl => ?_)
                      have hz_133 : z_133.toInt = v3_114.toInt + 1 := by rw [ez_133]; exact jb_iadd2 (rfl) (by decide) (by omega)
                      refine lv_goto (tgt := 139) hx hb dX1_part_191 (by decide) ?_
                      exact L139 z_133 _ _ (hh_132.sub (L1 := [(r0, 3, 4, .int ws_9), (r0, 3, 3, .int pl), (r0, 3, 5, .ref sa_), (r0, 3, 6, .ref ea_)]) [3, 4, 5, 6] rfl (M1 := [(ea_, 172, 40, ca 1, fe_9), (sa_, 171, 40, ca 1, fb_9)]) [0, 1] rfl (I1 := [([(3, 0), (3, 1), (3, 2), (3, 3), (3, 4), (3, 5), (3, 6), (3, 7), (3, 8), (3, 9), (3, 10), (3, 11), (3, 12), (3, 13), (3, 14), (3, 15), (3, 16)], jOw (dC, dI) G0 3 r0 s.heap), (jFdo, jDcc dC dI ca G0 (some r0) ph)]) [0, 1] rfl) (by first | omega | (refine ⟨?_, ?_⟩ <;> (first | omega | rfl | assumption | decide | exact Or.inl rfl | exact Or.inr rfl | (simp only; omega)))) (by omega) _ (lv_sub hl [1, 2, 3, 0] rfl)
                    · skip
                      have c_123' : z_122.toInt > 0 := jb_le_n (rfl) ((by decide)) c_123
                      refine lv_iconst (v := 1) hx hb dX1_part_162 (by decide) ?_
                      refine lv_goto (tgt := 186) hx hb dX1_part_163 (by decide) ?_
                      refine lv_iadd hx hb dX1_part_186 ?_
                      refine lv_topi (fun z_134 ez_134 => ?_)
                      refine j7_iast hx hb hK hh_120 hB hB101 1 rfl (by decide) (by decide) rfl rfl rfl hg_costs_118 (x := v3_114.toInt) (rfl) (by omega) (trivial) dX1_part_187 (fun H_135 locs_135 hh_135 => ?_)
                      clear hh_120
                      obtain ⟨z_136, ez_136⟩ : ∃ y : Int32, y = v3_114 + 1 := ⟨_, rfl⟩
                      refine lv_iinc (v := z_136) (lv' := [(3, .int z_136), (0, .ref r0), (1, .ref r1), (2, .int v2_9)]) hx hb dX1_part_188 hl (k := 3) rfl (by rw [ez_136]; rfl) (by decide) rfl (fun ls hl => ?_)
                      have hz_136 : z_136.toInt = v3_114.toInt + 1 := by rw [ez_136]; exact jb_iadd2 (rfl) (by decide) (by omega)
                      refine lv_goto (tgt := 139) hx hb dX1_part_191 (by decide) ?_
                      exact L139 z_136 _ _ (hh_135.sub (L1 := [(r0, 3, 4, .int ws_9), (r0, 3, 3, .int pl), (r0, 3, 5, .ref sa_), (r0, 3, 6, .ref ea_)]) [2, 3, 4, 5] rfl (M1 := [(ea_, 172, 40, ca 1, fe_9), (sa_, 171, 40, ca 1, fb_9)]) [0, 1] rfl (I1 := [([(3, 0), (3, 1), (3, 2), (3, 3), (3, 4), (3, 5), (3, 6), (3, 7), (3, 8), (3, 9), (3, 10), (3, 11), (3, 12), (3, 13), (3, 14), (3, 15), (3, 16)], jOw (dC, dI) G0 3 r0 s.heap), (jFdo, jDcc dC dI ca G0 (some r0) ph)]) [0, 1] rfl) (by first | omega | (refine ⟨?_, ?_⟩ <;> (first | omega | rfl | assumption | decide | exact Or.inl rfl | exact Or.inr rfl | (simp only; omega)))) (by omega) _ (lv_sub hl [1, 2, 3, 0] rfl)
              exact L139 (ws_9.toInt - (0 : Int32).toInt : Int).toNat.succ 0 _ _ hh_9 (by first | omega | (refine ⟨?_, ?_⟩ <;> (first | omega | rfl | assumption | decide | exact Or.inl rfl | exact Or.inr rfl | (simp only; omega)))) (by omega) _ (lv_sub hl [1, 2, 3, 0] rfl)
            · skip
              have c_113' : ws_9.toInt = 40 := jb_ne_n (rfl) ((by decide)) c_113
              refine lv_aload_n hx hb dX1_part_118 rfl (lv_at hl 0 rfl) ?_
              refine j7_read hx hb hown hK (C := RX1) (T := TX1) (N := 17) rfl hly_3_6 hlk_21 (hh_9.at 3 rfl) dX1_part_119 ?_
              refine lv_bipush (v := 39) hx hb dX1_part_122 (by decide) ?_
              refine lv_aload_n hx hb dX1_part_124 rfl (lv_at hl 0 rfl) ?_
              refine j7_read hx hb hown hK (C := RX1) (T := TX1) (N := 17) rfl hly_3_3 hlk_42 (hh_9.at 1 rfl) dX1_part_125 ?_
              have hd_138 := hh_9.iv 1 rfl
              have hh_139 := hh_9.sub (L1 := [(r0, 3, 4, .int ws_9), (r0, 3, 3, .int pl), (r0, 3, 5, .ref sa_), (r0, 3, 6, .ref ea_)]) [0, 1, 2, 3] rfl (M1 := [(ea_, 172, 40, ca 1, fe_9), (sa_, 171, 40, ca 1, fb_9)]) [0, 1] rfl (I1 := [([(3, 0), (3, 1), (3, 2), (3, 3), (3, 4), (3, 5), (3, 6), (3, 7), (3, 8), (3, 9), (3, 10), (3, 11), (3, 12), (3, 13), (3, 14), (3, 15), (3, 16)], jOw (dC, dI) G0 3 r0 s.heap)]) [0] rfl
              clear hh_9
              have hd_138f := hh_139.at 3 rfl
              refine j7_iastX hx hb hK hh_139 hB hB172 1 rfl (by decide) (by decide) rfl 0 rfl (M1 := [(sa_, 171, 40, ca 1, fb_9)]) [1] rfl rfl rfl hg_ea_ (x := 39) ((by decide)) (by omega) (by first | omega | (refine ⟨?_, ?_⟩ <;> (first | omega | rfl | assumption | decide | exact Or.inl rfl | exact Or.inr rfl | (simp only; omega)))) dX1_part_128 (fun H_137 locs_137 fs_140 hv_137 ho_137 hr_137 hh_137 => ?_)
              have hv_137 : jSo fs_140 (39) = pl.toInt := by unfold jSo; rw [hv_137]; try exact rfl
              clear hh_139
              have hd_138n := jDcc.arr hd_138 hg_r0 hg_ea_ (Or.inr ⟨rfl, hd_138f⟩) hr_137
              have hh_141 := hh_137.addI (jDcc.ie hd_138n)
              clear hh_137
              clear hd_138 hd_138f hd_138n hr_137
              refine lv_aload_n hx hb dX1_part_129 rfl (lv_at hl 0 rfl) ?_
              obtain ⟨v_142, hv_142, hh_143⟩ := hh_141.pin (C := RX1) (T := TX1) (N := 17) hB3 rfl (by decide) hg_r0 (i := 8) (by decide) rfl
              clear hh_141
              obtain ⟨early_144, rfl, hg_early_144⟩ := hv_142
              refine j7_read hx hb hown hK (C := RX1) (T := TX1) (N := 17) rfl hly_3_8 hlk_27 (hh_143.at 0 rfl) dX1_part_130 ?_
              refine lv_bipush (v := 39) hx hb dX1_part_133 (by decide) ?_
              refine lv_iconst (v := 2) hx hb dX1_part_135 (by decide) ?_
              refine j7_iast hx hb hK hh_143 hB hB101 1 rfl (by decide) (by decide) rfl rfl rfl hg_early_144 (x := 39) ((by decide)) (by omega) (trivial) dX1_part_136 (fun H_145 locs_145 hh_145 => ?_)
              clear hh_143
              refine lv_iconst (v := 0) hx hb dX1_part_137 (by decide) ?_
              refine lv_istore_n (lv' := [(3, .int 0), (0, .ref r0), (1, .ref r1), (2, .int v2_9)]) hx hb dX1_part_138 rfl hl (by decide) rfl (fun ls hl => ?_)
              have L139 : ∀ (N : Nat) (v3_146 : Int32) (H_146 : Heap) (locs_146 : List Loc), jSt (dC, dI) B base G0 G0 EX1_partE s.heap 0 0 [(r0, 3, 8, .ref early_144), (r0, 3, 4, .int ws_9), (r0, 3, 3, .int pl), (r0, 3, 5, .ref sa_), (r0, 3, 6, .ref ea_)] [(ea_, 172, 40, ca 1, fs_140), (sa_, 171, 40, ca 1, fb_9)] [(jFdo, jDcc dC dI ca G0 (some r0) ph), ([(3, 0), (3, 1), (3, 2), (3, 3), (3, 4), (3, 5), (3, 6), (3, 7), (3, 8), (3, 9), (3, 10), (3, 11), (3, 12), (3, 13), (3, 14), (3, 15), (3, 16)], jOw (dC, dI) G0 3 r0 s.heap)] H_146 locs_146 → (0 ≤ v3_146.toInt ∧ v3_146.toInt ≤ ws_9.toInt) → (ws_9.toInt - v3_146.toInt : Int) < N → ∀ ls : Array Slot, lv_has ls 5 [(0, .ref r0), (1, .ref r1), (2, .int v2_9), (3, .int v3_146)] → W p l e R s m ([.ref r0, .ref r1] : List Value).toArray below meth c H_146 locs_146 0 0 Q (F0 m 139 ls []) := by
                intro N
                induction N with
                | zero => intro v3_146 H_146 locs_146 hh_146  hi_146 hm; exact absurd hm (by omega)
                | succ N L139 =>
                  intro v3_146 H_146 locs_146 hh_146  hi_146 hm_146 ls hl
                  obtain ⟨hi_146_0, hi_146_1⟩ := hi_146
                  refine lv_iload_n hx hb dX1_part_139 rfl (lv_at hl 3 rfl) ?_
                  refine lv_aload_n hx hb dX1_part_140 rfl (lv_at hl 0 rfl) ?_
                  refine j7_read hx hb hown hK (C := RX1) (T := TX1) (N := 17) rfl hly_3_4 hlk_69 (hh_146.at 1 rfl) dX1_part_141 ?_
                  refine lv_icmp_ge (tgt := 194) hx hb dX1_part_144 (by decide) (fun c_147 => ?_) (fun c_147 => ?_)
                  · skip
                    have c_147' : v3_146.toInt ≥ ws_9.toInt := jb_ge (rfl) (rfl) c_147
                    rw [hQ]
                    exact W.vret hx hb hr (fun t ht hW => ⟨⟨(ws_9, fb_9, fs_140), rfl, by (try dsimp only); refine ⟨by omega, by omega, ?_⟩; exact jSn.last (jSn.ce hi_9_5 (by omega)) (by omega) hv_137 ho_137, ⟨⟨⟨hh_146.rt (M1 := [(r0, 3, 4, .int ws_9)]) [1] rfl ht, by rw [ht]; exact hh_146.2.2.2.2.2.2.2.1.sub [1, 0] rfl⟩, by rw [ht]; exact hh_146.iv 1 rfl⟩, by rw [ht]; exact hh_146.2.2.2.2.2.2.2.2.sub (L1 := [(jFdo, jDcc dC dI ca G0 (some r0) ph)]) [0] rfl⟩⟩, by rw [ht]; try exact hh_146.1.1, fun q h9 hq => by rw [ht]; try exact hh_146.1.2.1 q h9 hq⟩) hh_146.1.2.2 dX1_part_194
                  · skip
                    have c_147' : v3_146.toInt < ws_9.toInt := jb_ge_n (rfl) (rfl) c_147
                    refine lv_aload_n hx hb dX1_part_147 rfl (lv_at hl 0 rfl) ?_
                    obtain ⟨v_148, hv_148, hh_149⟩ := hh_146.pin (C := RX1) (T := TX1) (N := 17) hB3 rfl (by decide) hg_r0 (i := 7) (by decide) rfl
                    clear hh_146
                    obtain ⟨costs_150, rfl, hg_costs_150⟩ := hv_148
                    refine j7_read hx hb hown hK (C := RX1) (T := TX1) (N := 17) rfl hly_3_7 hlk_24 (hh_149.at 0 rfl) dX1_part_148 ?_
                    refine lv_iload_n hx hb dX1_part_151 rfl (lv_at hl 3 rfl) ?_
                    refine lv_iconst (v := 3) hx hb dX1_part_152 (by decide) ?_
                    refine lv_aload_n hx hb dX1_part_153 rfl (lv_at hl 0 rfl) ?_
                    refine j7_read hx hb hown hK (C := RX1) (T := TX1) (N := 17) rfl hly_3_8 hlk_27 (hh_149.at 1 rfl) dX1_part_154 ?_
                    refine lv_iload_n hx hb dX1_part_157 rfl (lv_at hl 3 rfl) ?_
                    refine j7_iald hx hb hK hh_149 hB101 1 rfl (by decide) hg_early_144 (x := v3_146.toInt) (rfl) (by omega) dX1_part_158 (fun z_151 (hz_151 : True) => ?_)
                    refine lv_if_le (tgt := 166) hx hb dX1_part_159 (by decide) (fun c_152 => ?_) (fun c_152 => ?_)
                    · skip
                      have c_152' : z_151.toInt ≤ 0 := jb_le (rfl) ((by decide)) c_152
                      refine lv_aload_n hx hb dX1_part_166 rfl (lv_at hl 1 rfl) ?_
                      refine lv_aload_n hx hb dX1_part_167 rfl (lv_at hl 0 rfl) ?_
                      obtain ⟨v_153, hv_153, hh_154⟩ := hh_149.pin (C := RX1) (T := TX1) (N := 17) hB3 rfl (by decide) hg_r0 (i := 2) (by decide) rfl
                      clear hh_149
                      obtain ⟨text_155, rfl, hg_text_155⟩ := hv_153
                      refine j7_read hx hb hown hK (C := RX1) (T := TX1) (N := 17) rfl hly_3_2 hlk_15 (hh_154.at 0 rfl) dX1_part_168 ?_
                      refine lv_aload_n hx hb dX1_part_171 rfl (lv_at hl 0 rfl) ?_
                      refine j7_read hx hb hown hK (C := RX1) (T := TX1) (N := 17) rfl hly_3_5 hlk_18 (hh_154.at 5 rfl) dX1_part_172 ?_
                      refine lv_iload_n hx hb dX1_part_175 rfl (lv_at hl 3 rfl) ?_
                      refine j7_ialdM hx hb hK hh_154 hB171 1 rfl (by decide) hg_sa_ (x := v3_146.toInt) (rfl) (by omega) (j := 1) rfl dX1_part_176 (fun z_156 ez_156 (hz_156 : 0 ≤ z_156.toInt ∧ z_156.toInt ≤ 1500) => ?_)
                      have hqz_156 : z_156.toInt = jSo fb_9 (v3_146.toInt) := by unfold jSo; rw [ez_156]
                      refine lv_aload_n hx hb dX1_part_177 rfl (lv_at hl 0 rfl) ?_
                      refine j7_read hx hb hown hK (C := RX1) (T := TX1) (N := 17) rfl hly_3_6 hlk_21 (hh_154.at 6 rfl) dX1_part_178 ?_
                      refine lv_iload_n hx hb dX1_part_181 rfl (lv_at hl 3 rfl) ?_
                      refine j7_ialdM hx hb hK hh_154 hB172 1 rfl (by decide) hg_ea_ (x := v3_146.toInt) (rfl) (by omega) (j := 0) rfl dX1_part_182 (fun z_157 ez_157 (hz_157 : 0 ≤ z_157.toInt ∧ z_157.toInt ≤ 1500) => ?_)
                      have hqz_157 : z_157.toInt = jSo fs_140 (v3_146.toInt) := by unfold jSo; rw [ez_157]
                      refine va_calli (A0 := jA base) (H0 := s.heap) (va_runV (As := [.ref text_155, .int z_156, .int z_157]) (rest := [.int 3, .int v3_146, .ref costs_150]) ⟨hx, hb, hml, hown, hts⟩ (uX10_scanBt9 l dC dI ca base B hB hAp hB8 hB12 hB101 hB102 hB132 hB133 hB173 hB293 G0 H_146 r1 text_155 z_156 z_157 1500) (cwV 3 hts (jgV (jWr_36 _ (List.mem_of_getElem? (i := 19) rfl)) (jWr_36 _ (List.mem_of_getElem? (i := 20) rfl)) (jWr_36 _ (List.mem_of_getElem? (i := 21) rfl)) (jWr_4 _ (List.mem_of_getElem? (i := 14) rfl)) (jWr_36 _ (List.mem_of_getElem? (i := 22) rfl))) rfl rfl rfl (by decide +kernel) ⟨by rw [← hR]; exact Nat.le_of_ble_eq_true rfl, by rw [← hR]; exact Nat.le_of_ble_eq_true rfl⟩) ⟨fun a U g mk q => by obtain ⟨q0, q1, q2, qK, q10, q11, q12, q13⟩ := q; exact ⟨q0, q1, q2, jG.calling g mk a qK, q10, q11, q12, q13⟩, hh_154.recv (C := RX10) (T := TX10) (N := 11) hB12 rfl (by decide) hg_r1 hK, fun U hU hW => ⟨rfl, hU, hh_154.2.1, hG.step hW hU hh_154.1, hg_r1, hg_text_155, jP.nil, by first | omega | (refine ⟨?_, ?_⟩ <;> (first | omega | rfl | assumption | decide | exact Or.inl rfl | exact Or.inr rfl | (simp only; omega)))⟩⟩ rfl rfl hl.1 rfl (lv_room (Nat.le_of_ble_eq_true rfl)) dX1_part_183 ⟨Nat.zero_le _, Nat.zero_le _⟩) hh_154.1 (fun q _ h => h) (fun q h => h) (fun r_159 u_158 t_158 H_158 locs_158 ht_158 hvm_158 hr_159 hb_158 hz_158 hk_158 hS_158 => ?_)
                      rw [ht_158] at hb_158
                      obtain ⟨hb_1581, hb_1582, hb_1583, hb_1584, hb_1585⟩ := hb_158
                      have hh_158 : jSt (dC, dI) B base G0 G0 EX1_partE s.heap 0 0 [(r0, 3, 2, .ref text_155), (r0, 3, 7, .ref costs_150), (r0, 3, 8, .ref early_144), (r0, 3, 4, .int ws_9), (r0, 3, 3, .int pl), (r0, 3, 5, .ref sa_), (r0, 3, 6, .ref ea_)] [(ea_, 172, 40, ca 1, fs_140), (sa_, 171, 40, ca 1, fb_9)] [(jFdo, jDcc dC dI ca G0 (some r0) ph), ([(3, 0), (3, 1), (3, 2), (3, 3), (3, 4), (3, 5), (3, 6), (3, 7), (3, 8), (3, 9), (3, 10), (3, 11), (3, 12), (3, 13), (3, 14), (3, 15), (3, 16)], jOw (dC, dI) G0 3 r0 s.heap)] H_158 locs_158 := ((hh_154.call hb_1581 hb_1582 hb_1583 hb_1584 hS_158 rfl (L1 := [(r0, 3, 2, .ref text_155), (r0, 3, 7, .ref costs_150), (r0, 3, 8, .ref early_144), (r0, 3, 4, .int ws_9), (r0, 3, 3, .int pl), (r0, 3, 5, .ref sa_), (r0, 3, 6, .ref ea_)]) [0, 1, 2, 3, 4, 5, 6] rfl rfl (M1 := [(ea_, 172, 40, ca 1, fs_140), (sa_, 171, 40, ca 1, fb_9)]) [0, 1] rfl rfl (I1 := [(jFdo, jDcc dC dI ca G0 (some r0) ph), ([(3, 0), (3, 1), (3, 2), (3, 3), (3, 4), (3, 5), (3, 6), (3, 7), (3, 8), (3, 9), (3, 10), (3, 11), (3, 12), (3, 13), (3, 14), (3, 15), (3, 16)], jOw (dC, dI) G0 3 r0 s.heap)]) [0, 1] rfl rfl).more hb_1585)
                      clear hh_154 ht_158 hvm_158 hz_158 hk_158 hS_158 hb_1581 hb_1582 hb_1583 hb_1584 hb_1585
                      obtain ⟨hr_159_0, hr_159_1⟩ := hr_159
                      refine lv_iadd hx hb dX1_part_186 ?_
                      refine lv_topi (fun z_160 ez_160 => ?_)
                      refine j7_iast hx hb hK hh_158 hB hB101 1 rfl (by decide) (by decide) rfl rfl rfl hg_costs_150 (x := v3_146.toInt) (rfl) (by omega) (trivial) dX1_part_187 (fun H_161 locs_161 hh_161 => ?_)
                      clear hh_158
                      obtain ⟨z_162, ez_162⟩ : ∃ y : Int32, y = v3_146 + 1 := ⟨_, rfl⟩
                      refine lv_iinc (v := z_162) (lv' := [(3, .int z_162), (0, .ref r0), (1, .ref r1), (2, .int v2_9)]) hx hb dX1_part_188 hl (k := 3) rfl (by rw [ez_162]; rfl) (by decide) rfl (fun ls hl => ?_)
                      have hz_162 : z_162.toInt = v3_146.toInt + 1 := by rw [ez_162]; exact jb_iadd2 (rfl) (by decide) (by omega)
                      refine lv_goto (tgt := 139) hx hb dX1_part_191 (by decide) ?_
                      exact L139 z_162 _ _ (hh_161.sub (L1 := [(r0, 3, 8, .ref early_144), (r0, 3, 4, .int ws_9), (r0, 3, 3, .int pl), (r0, 3, 5, .ref sa_), (r0, 3, 6, .ref ea_)]) [2, 3, 4, 5, 6] rfl (M1 := [(ea_, 172, 40, ca 1, fs_140), (sa_, 171, 40, ca 1, fb_9)]) [0, 1] rfl (I1 := [(jFdo, jDcc dC dI ca G0 (some r0) ph), ([(3, 0), (3, 1), (3, 2), (3, 3), (3, 4), (3, 5), (3, 6), (3, 7), (3, 8), (3, 9), (3, 10), (3, 11), (3, 12), (3, 13), (3, 14), (3, 15), (3, 16)], jOw (dC, dI) G0 3 r0 s.heap)]) [0, 1] rfl) (by first | omega | (refine ⟨?_, ?_⟩ <;> (first | omega | rfl | assumption | decide | exact Or.inl rfl | exact Or.inr rfl | (simp only; omega)))) (by omega) _ (lv_sub hl [1, 2, 3, 0] rfl)
                    · skip
                      have c_152' : z_151.toInt > 0 := jb_le_n (rfl) ((by decide)) c_152
                      refine lv_iconst (v := 1) hx hb dX1_part_162 (by decide) ?_
                      refine lv_goto (tgt := 186) hx hb dX1_part_163 (by decide) ?_
                      refine lv_iadd hx hb dX1_part_186 ?_
                      refine lv_topi (fun z_163 ez_163 => ?_)
                      refine j7_iast hx hb hK hh_149 hB hB101 1 rfl (by decide) (by decide) rfl rfl rfl hg_costs_150 (x := v3_146.toInt) (rfl) (by omega) (trivial) dX1_part_187 (fun H_164 locs_164 hh_164 => ?_)
                      clear hh_149
                      obtain ⟨z_165, ez_165⟩ : ∃ y : Int32, y = v3_146 + 1 := ⟨_, rfl⟩
                      refine lv_iinc (v := z_165) (lv' := [(3, .int z_165), (0, .ref r0), (1, .ref r1), (2, .int v2_9)]) hx hb dX1_part_188 hl (k := 3) rfl (by rw [ez_165]; rfl) (by decide) rfl (fun ls hl => ?_)
                      have hz_165 : z_165.toInt = v3_146.toInt + 1 := by rw [ez_165]; exact jb_iadd2 (rfl) (by decide) (by omega)
                      refine lv_goto (tgt := 139) hx hb dX1_part_191 (by decide) ?_
                      exact L139 z_165 _ _ (hh_164.sub (L1 := [(r0, 3, 8, .ref early_144), (r0, 3, 4, .int ws_9), (r0, 3, 3, .int pl), (r0, 3, 5, .ref sa_), (r0, 3, 6, .ref ea_)]) [1, 2, 3, 4, 5] rfl (M1 := [(ea_, 172, 40, ca 1, fs_140), (sa_, 171, 40, ca 1, fb_9)]) [0, 1] rfl (I1 := [(jFdo, jDcc dC dI ca G0 (some r0) ph), ([(3, 0), (3, 1), (3, 2), (3, 3), (3, 4), (3, 5), (3, 6), (3, 7), (3, 8), (3, 9), (3, 10), (3, 11), (3, 12), (3, 13), (3, 14), (3, 15), (3, 16)], jOw (dC, dI) G0 3 r0 s.heap)]) [0, 1] rfl) (by first | omega | (refine ⟨?_, ?_⟩ <;> (first | omega | rfl | assumption | decide | exact Or.inl rfl | exact Or.inr rfl | (simp only; omega)))) (by omega) _ (lv_sub hl [1, 2, 3, 0] rfl)
              exact L139 (ws_9.toInt - (0 : Int32).toInt : Int).toNat.succ 0 _ _ hh_145 (by first | omega | (refine ⟨?_, ?_⟩ <;> (first | omega | rfl | assumption | decide | exact Or.inl rfl | exact Or.inr rfl | (simp only; omega)))) (by omega) _ (lv_sub hl [1, 2, 3, 0] rfl)
        · skip
          have c_88' : v2_9.toInt < pl.toInt := jb_ge_n (rfl) (rfl) c_88
          refine lv_aload_n hx hb dX1_part_27 rfl (lv_at hl 0 rfl) ?_
          refine lv_iload_n hx hb dX1_part_28 rfl (lv_at hl 2 rfl) ?_
          refine va_calli (A0 := jA base) (H0 := s.heap) (va_runV (As := [.int v2_9]) (rest := []) ⟨hx, hb, hml, hown, hts⟩ (uX1_sentenceEndS l dC dI ca base B hB hAp hB3 hB101 hB173 G0 H_9 r0 v2_9 n0 pl) (cwV 1 hts (jgV (jWr_36 _ (List.mem_of_getElem? (i := 15) rfl)) (jWr_36 _ (List.mem_of_getElem? (i := 16) rfl)) (jWr_36 _ (List.mem_of_getElem? (i := 17) rfl)) (jWr_2 _ (List.mem_of_getElem? (i := 21) rfl)) (jWr_36 _ (List.mem_of_getElem? (i := 18) rfl))) rfl rfl rfl (by decide +kernel) ⟨by rw [← hR]; exact Nat.le_of_ble_eq_true rfl, by rw [← hR]; exact Nat.le_of_ble_eq_true rfl⟩) ⟨fun a U g mk q => by obtain ⟨q0, q1, q2, qK, q10, q11, q12⟩ := q; exact ⟨q0, q1, q2, jG.calling g mk a qK, q10, q11, q12⟩, hh_9.recv (C := RX1) (T := TX1) (N := 17) hB3 rfl (by decide) hg_r0 hK, fun U hU hW => ⟨rfl, hU, hh_9.2.1, hG.step hW hU hh_9.1, hg_r0, (hh_9.2.2.1.sub (L1 := [(r0, 3, 3, .int pl)]) [1] rfl), by first | omega | (refine ⟨?_, ?_, ?_⟩ <;> (first | omega | rfl | assumption | decide | exact Or.inl rfl | exact Or.inr rfl | (simp only; omega)))⟩⟩ rfl rfl hl.1 rfl (lv_room (Nat.le_of_ble_eq_true rfl)) dX1_part_29 ⟨Nat.zero_le _, Nat.zero_le _⟩) hh_9.1 (fun q _ h => h) (fun q h => h) (fun r_167 u_166 t_166 H_166 locs_166 ht_166 hvm_166 hr_167 hb_166 hz_166 hk_166 hS_166 => ?_)
          rw [ht_166] at hb_166
          obtain ⟨hb_1661, hb_1662, hb_1663, hb_1664, hb_1665⟩ := hb_166
          have hh_166 : jSt (dC, dI) B base G0 G0 EX1_partE s.heap 0 0 [(r0, 3, 4, .int ws_9), (r0, 3, 3, .int pl), (r0, 3, 5, .ref sa_), (r0, 3, 6, .ref ea_)] [(ea_, 172, 40, ca 1, fe_9), (sa_, 171, 40, ca 1, fb_9)] [([(3, 0), (3, 1), (3, 2), (3, 3), (3, 4), (3, 5), (3, 6), (3, 7), (3, 8), (3, 9), (3, 10), (3, 11), (3, 12), (3, 13), (3, 14), (3, 15), (3, 16)], jOw (dC, dI) G0 3 r0 s.heap), (jFdo, jDcc dC dI ca G0 (some r0) ph)] H_166 locs_166 := ((hh_9.call hb_1661 hb_1662 hb_1663 hb_1664 hS_166 rfl (L1 := [(r0, 3, 4, .int ws_9), (r0, 3, 3, .int pl), (r0, 3, 5, .ref sa_), (r0, 3, 6, .ref ea_)]) [0, 1, 2, 3] rfl rfl (M1 := [(ea_, 172, 40, ca 1, fe_9), (sa_, 171, 40, ca 1, fb_9)]) [0, 1] rfl rfl (I1 := [([(3, 0), (3, 1), (3, 2), (3, 3), (3, 4), (3, 5), (3, 6), (3, 7), (3, 8), (3, 9), (3, 10), (3, 11), (3, 12), (3, 13), (3, 14), (3, 15), (3, 16)], jOw (dC, dI) G0 3 r0 s.heap), (jFdo, jDcc dC dI ca G0 (some r0) ph)]) [0, 1] rfl rfl).more hb_1665)
          clear hh_9 ht_166 hvm_166 hz_166 hk_166 hS_166 hb_1661 hb_1662 hb_1663 hb_1664 hb_1665
          refine lv_istore (lv' := [(4, .int r_167), (0, .ref r0), (1, .ref r1), (2, .int v2_9), (3, .int v3_9)]) hx hb dX1_part_32 hl (by decide) rfl (fun ls hl => ?_)
          refine lv_aload_n hx hb dX1_part_34 rfl (lv_at hl 1 rfl) ?_
          refine j7_read hx hb hown hK (C := RX1) (T := TX1) (N := 17) rfl hly_3_5 hlk_18 (hh_166.at 2 rfl) dX1_part_35 ?_
          refine lv_iload_n hx hb dX1_part_38 rfl (lv_at hl 4 rfl) ?_
          refine lv_iload_n hx hb dX1_part_39 rfl (lv_at hl 3 rfl) ?_
          have hd_169 := hh_166.iv 1 rfl
          have hh_170 := hh_166.sub (L1 := [(r0, 3, 4, .int ws_9), (r0, 3, 3, .int pl), (r0, 3, 5, .ref sa_), (r0, 3, 6, .ref ea_)]) [0, 1, 2, 3] rfl (M1 := [(ea_, 172, 40, ca 1, fe_9), (sa_, 171, 40, ca 1, fb_9)]) [0, 1] rfl (I1 := [([(3, 0), (3, 1), (3, 2), (3, 3), (3, 4), (3, 5), (3, 6), (3, 7), (3, 8), (3, 9), (3, 10), (3, 11), (3, 12), (3, 13), (3, 14), (3, 15), (3, 16)], jOw (dC, dI) G0 3 r0 s.heap)]) [0] rfl
          clear hh_166
          have hd_169f := hh_170.at 2 rfl
          refine j7_iastX hx hb hK hh_170 hB hB171 1 rfl (by decide) (by decide) rfl 1 rfl (M1 := [(ea_, 172, 40, ca 1, fe_9)]) [0] rfl rfl rfl hg_sa_ (x := v3_9.toInt) (rfl) (by omega) (by first | omega | (refine ⟨?_, ?_⟩ <;> (first | omega | rfl | assumption | decide | exact Or.inl rfl | exact Or.inr rfl | (simp only; omega)))) dX1_part_40 (fun H_168 locs_168 fs_171 hv_168 ho_168 hr_168 hh_168 => ?_)
          have hv_168 : jSo fs_171 (v3_9.toInt) = v2_9.toInt := by unfold jSo; rw [hv_168]; try exact rfl
          clear hh_170
          have hd_169n := jDcc.arr hd_169 hg_r0 hg_sa_ (Or.inl ⟨rfl, hd_169f⟩) hr_168
          have hh_172 := hh_168.addI (jDcc.ie hd_169n)
          clear hh_168
          clear hd_169 hd_169f hd_169n hr_168
          refine lv_aload_n hx hb dX1_part_41 rfl (lv_at hl 1 rfl) ?_
          refine j7_read hx hb hown hK (C := RX1) (T := TX1) (N := 17) rfl hly_3_6 hlk_21 (hh_172.at 3 rfl) dX1_part_42 ?_
          refine lv_iload_n hx hb dX1_part_45 rfl (lv_at hl 4 rfl) ?_
          refine lv_iload hx hb dX1_part_46 (lv_at hl 0 rfl) ?_
          refine lv_if_ge (tgt := 58) hx hb dX1_part_48 (by decide) (fun c_173 => ?_) (fun c_173 => ?_)
          · skip
            have c_173' : r_167.toInt ≥ 0 := jb_ge (rfl) ((by decide)) c_173
            first | (have hr_167q := hr_167.resolve_left (by omega); clear hr_167) | (have hr_167q := hr_167.resolve_right (by omega); clear hr_167) | skip
            refine lv_iload hx hb dX1_part_58 (lv_at hl 0 rfl) ?_
            have hd_175 := hh_172.iv 0 rfl
            have hh_176 := hh_172.sub (L1 := [(r0, 3, 4, .int ws_9), (r0, 3, 3, .int pl), (r0, 3, 5, .ref sa_), (r0, 3, 6, .ref ea_)]) [0, 1, 2, 3] rfl (M1 := [(sa_, 171, 40, ca 1, fs_171), (ea_, 172, 40, ca 1, fe_9)]) [0, 1] rfl (I1 := [([(3, 0), (3, 1), (3, 2), (3, 3), (3, 4), (3, 5), (3, 6), (3, 7), (3, 8), (3, 9), (3, 10), (3, 11), (3, 12), (3, 13), (3, 14), (3, 15), (3, 16)], jOw (dC, dI) G0 3 r0 s.heap)]) [1] rfl
            clear hh_172
            have hd_175f := hh_176.at 3 rfl
            refine j7_iastX hx hb hK hh_176 hB hB172 1 rfl (by decide) (by decide) rfl 1 rfl (M1 := [(sa_, 171, 40, ca 1, fs_171)]) [0] rfl rfl rfl hg_ea_ (x := v3_9.toInt) (rfl) (by omega) (by first | omega | (refine ⟨?_, ?_⟩ <;> (first | omega | rfl | assumption | decide | exact Or.inl rfl | exact Or.inr rfl | (simp only; omega)))) dX1_part_60 (fun H_174 locs_174 fs_177 hv_174 ho_174 hr_174 hh_174 => ?_)
            have hv_174 : jSo fs_177 (v3_9.toInt) = r_167.toInt := by unfold jSo; rw [hv_174]; try exact rfl
            clear hh_176
            have hd_175n := jDcc.arr hd_175 hg_r0 hg_ea_ (Or.inr ⟨rfl, hd_175f⟩) hr_174
            have hh_178 := hh_174.addI (jDcc.ie hd_175n)
            clear hh_174
            clear hd_175 hd_175f hd_175n hr_174
            refine lv_aload_n hx hb dX1_part_61 rfl (lv_at hl 1 rfl) ?_
            obtain ⟨v_179, hv_179, hh_180⟩ := hh_178.pin (C := RX1) (T := TX1) (N := 17) hB3 rfl (by decide) hg_r0 (i := 8) (by decide) rfl
            clear hh_178
            obtain ⟨early_181, rfl, hg_early_181⟩ := hv_179
            refine j7_read hx hb hown hK (C := RX1) (T := TX1) (N := 17) rfl hly_3_8 hlk_27 (hh_180.at 0 rfl) dX1_part_62 ?_
            refine lv_iload_n hx hb dX1_part_65 rfl (lv_at hl 4 rfl) ?_
            refine lv_iload hx hb dX1_part_66 (lv_at hl 0 rfl) ?_
            refine lv_if_ge (tgt := 75) hx hb dX1_part_68 (by decide) (fun c_182 => ?_) (fun c_182 => ?_)
            · skip
              have c_182' : r_167.toInt ≥ 0 := jb_ge (rfl) ((by decide)) c_182
              first | (have hr_167q := hr_167.resolve_left (by omega); clear hr_167) | (have hr_167q := hr_167.resolve_right (by omega); clear hr_167) | skip
              refine lv_iconst (v := 0) hx hb dX1_part_75 (by decide) ?_
              refine j7_iast hx hb hK hh_180 hB hB101 1 rfl (by decide) (by decide) rfl rfl rfl hg_early_181 (x := v3_9.toInt) (rfl) (by omega) (trivial) dX1_part_76 (fun H_183 locs_183 hh_183 => ?_)
              clear hh_180
              refine lv_aload_n hx hb dX1_part_77 rfl (lv_at hl 1 rfl) ?_
              refine lv_iload_n hx hb dX1_part_78 rfl (lv_at hl 4 rfl) ?_
              refine lv_iconst (v := 1) hx hb dX1_part_79 (by decide) ?_
              refine lv_iadd hx hb dX1_part_80 ?_
              refine lv_topi (fun z_184 ez_184 => ?_)
              have hz_184 : z_184.toInt = v3_9.toInt + 1 := by rw [ez_184]; exact jb_iadd2 (rfl) ((by decide)) (by omega)
              have hd_186 := hh_183.iv 0 rfl
              have hd_1865 := hh_183.at 3 rfl
              have hd_1866 := hh_183.at 4 rfl
              have hd_186o := hh_183.iv 1 rfl
              have hh_187 := hh_183.sub (L1 := [(r0, 3, 8, .ref early_181), (r0, 3, 4, .int ws_9), (r0, 3, 3, .int pl), (r0, 3, 5, .ref sa_), (r0, 3, 6, .ref ea_)]) [0, 1, 2, 3, 4] rfl (M1 := [(ea_, 172, 40, ca 1, fs_177), (sa_, 171, 40, ca 1, fs_171)]) [0, 1] rfl (I1 := []) [] rfl
              clear hh_183
              refine j7_putX hx hb hown hK hh_187 hB hAp hB3 (C := RX1) (T := TX1) (N := 17) rfl (by decide) hg_r0 (i := 4) (by decide) hly_3_4 rfl hlk_69 rfl (ty := .int) (v := .int z_184) (by decide +kernel) rfl rfl (⟨_, rfl, by omega, by omega⟩) rfl (L1 := [(r0, 3, 8, .ref early_181), (r0, 3, 3, .int pl), (r0, 3, 5, .ref sa_), (r0, 3, 6, .ref ea_)]) [0, 2, 3, 4] rfl rfl rfl dX1_part_81 (fun H_185 locs_185 hr_185 hh_185 => ?_)
              clear hh_187
              have hd_186n := jDcc.fld hd_186 hg_r0 hr_185 hd_1865 hd_1866 (hh_185.at 3 rfl) (hh_185.at 4 rfl)
              have hd_186on := jOw.put hd_186o hr_185
              have hh_188 := hh_185.addI (jDcc.ie hd_186n)
              clear hh_185
              have hh_189 := hh_188.addI (jOw.ie (dC := dC) (dI := dI) (G0 := G0) (k := 3) (r := r0) (H0 := s.heap) (F := [(3, 0), (3, 1), (3, 2), (3, 3), (3, 4), (3, 5), (3, 6), (3, 7), (3, 8), (3, 9), (3, 10), (3, 11), (3, 12), (3, 13), (3, 14), (3, 15), (3, 16)]) (C := RX1) (T := TX1) (N := 17) rfl (by decide) hh_188.2.2.2.2.1 (hd_186on))
              clear hh_188
              clear hd_186 hd_186n hd_1865 hd_1866 hr_185 hd_186o hd_186on
              refine lv_aload_n hx hb dX1_part_84 rfl (lv_at hl 1 rfl) ?_
              refine lv_aload_n hx hb dX1_part_85 rfl (lv_at hl 1 rfl) ?_
              refine j7_read hx hb hown hK (C := RX1) (T := TX1) (N := 17) rfl hly_3_6 hlk_21 (hh_189.at 4 rfl) dX1_part_86 ?_
              refine lv_iload_n hx hb dX1_part_89 rfl (lv_at hl 4 rfl) ?_
              refine j7_ialdM hx hb hK hh_189 hB172 1 rfl (by decide) hg_ea_ (x := v3_9.toInt) (rfl) (by omega) (j := 0) rfl dX1_part_90 (fun z_190 ez_190 (hz_190 : 0 ≤ z_190.toInt ∧ z_190.toInt ≤ 1500) => ?_)
              have hqz_190 : z_190.toInt = jSo fs_177 (v3_9.toInt) := by unfold jSo; rw [ez_190]
              refine va_calli (A0 := jA base) (H0 := s.heap) (va_runV (As := [.int z_190]) (rest := []) ⟨hx, hb, hml, hown, hts⟩ (uX1_sentenceBeginS l dC dI ca base B hB hAp hB3 hB101 hB173 G0 H_185 r0 z_190 n0 pl) (cwV 1 hts (jgV (jWr_36 _ (List.mem_of_getElem? (i := 6) rfl)) (jWr_36 _ (List.mem_of_getElem? (i := 7) rfl)) (jWr_36 _ (List.mem_of_getElem? (i := 8) rfl)) (jWr_2 _ (List.mem_of_getElem? (i := 21) rfl)) (jWr_36 _ (List.mem_of_getElem? (i := 9) rfl))) rfl rfl rfl (by decide +kernel) ⟨by rw [← hR]; exact Nat.le_of_ble_eq_true rfl, by rw [← hR]; exact Nat.le_of_ble_eq_true rfl⟩) ⟨fun a U g mk q => by obtain ⟨q0, q1, q2, qK, q10, q11, q12⟩ := q; exact ⟨q0, q1, q2, jG.calling g mk a qK, q10, q11, q12⟩, hh_189.recv (C := RX1) (T := TX1) (N := 17) hB3 rfl (by decide) hg_r0 hK, fun U hU hW => ⟨rfl, hU, hh_189.2.1, hG.step hW hU hh_189.1, hg_r0, (hh_189.2.2.1.sub (L1 := [(r0, 3, 3, .int pl)]) [2] rfl), by first | omega | (refine ⟨?_, ?_, ?_⟩ <;> (first | omega | rfl | assumption | decide | exact Or.inl rfl | exact Or.inr rfl | (simp only; omega)))⟩⟩ rfl rfl hl.1 rfl (lv_room (Nat.le_of_ble_eq_true rfl)) dX1_part_91 ⟨Nat.zero_le _, Nat.zero_le _⟩) hh_189.1 (fun q _ h => h) (fun q h => h) (fun r_192 u_191 t_191 H_191 locs_191 ht_191 hvm_191 hr_192 hb_191 hz_191 hk_191 hS_191 => ?_)
              rw [ht_191] at hb_191
              obtain ⟨hb_1911, hb_1912, hb_1913, hb_1914, hb_1915⟩ := hb_191
              have hh_191 : jSt (dC, dI) B base G0 G0 EX1_partE s.heap 0 0 [(r0, 3, 4, .int z_184), (r0, 3, 8, .ref early_181), (r0, 3, 3, .int pl), (r0, 3, 5, .ref sa_), (r0, 3, 6, .ref ea_)] [(ea_, 172, 40, ca 1, fs_177), (sa_, 171, 40, ca 1, fs_171)] [([(3, 0), (3, 1), (3, 2), (3, 3), (3, 4), (3, 5), (3, 6), (3, 7), (3, 8), (3, 9), (3, 10), (3, 11), (3, 12), (3, 13), (3, 14), (3, 15), (3, 16)], jOw (dC, dI) G0 3 r0 s.heap), (jFdo, jDcc dC dI ca G0 (some r0) ph)] H_191 locs_191 := ((hh_189.call hb_1911 hb_1912 hb_1913 hb_1914 hS_191 rfl (L1 := [(r0, 3, 4, .int z_184), (r0, 3, 8, .ref early_181), (r0, 3, 3, .int pl), (r0, 3, 5, .ref sa_), (r0, 3, 6, .ref ea_)]) [0, 1, 2, 3, 4] rfl rfl (M1 := [(ea_, 172, 40, ca 1, fs_177), (sa_, 171, 40, ca 1, fs_171)]) [0, 1] rfl rfl (I1 := [([(3, 0), (3, 1), (3, 2), (3, 3), (3, 4), (3, 5), (3, 6), (3, 7), (3, 8), (3, 9), (3, 10), (3, 11), (3, 12), (3, 13), (3, 14), (3, 15), (3, 16)], jOw (dC, dI) G0 3 r0 s.heap), (jFdo, jDcc dC dI ca G0 (some r0) ph)]) [0, 1] rfl rfl).more hb_1915)
              clear hh_189 ht_191 hvm_191 hz_191 hk_191 hS_191 hb_1911 hb_1912 hb_1913 hb_1914 hb_1915
              obtain ⟨hr_192_0, hr_192_1⟩ := hr_192
              refine lv_istore_n (lv' := [(2, .int r_192), (4, .int r_167), (0, .ref r0), (1, .ref r1), (3, .int v3_9)]) hx hb dX1_part_94 rfl hl (by decide) rfl (fun ls hl => ?_)
              obtain ⟨z_193, ez_193⟩ : ∃ y : Int32, y = v3_9 + 1 := ⟨_, rfl⟩
              refine lv_iinc (v := z_193) (lv' := [(3, .int z_193), (2, .int r_192), (4, .int r_167), (0, .ref r0), (1, .ref r1)]) hx hb dX1_part_95 hl (k := 4) rfl (by rw [ez_193]; rfl) (by decide) rfl (fun ls hl => ?_)
              have hz_193 : z_193.toInt = v3_9.toInt + 1 := by rw [ez_193]; exact jb_iadd2 (rfl) (by decide) (by omega)
              refine lv_goto (tgt := 13) hx hb dX1_part_98 (by decide) ?_
              exact L13 r_192 z_193 z_184 fs_171 fs_177 _ _ (hh_191.sub (L1 := [(r0, 3, 4, .int z_184), (r0, 3, 3, .int pl), (r0, 3, 5, .ref sa_), (r0, 3, 6, .ref ea_)]) [0, 2, 3, 4] rfl (M1 := [(ea_, 172, 40, ca 1, fs_177), (sa_, 171, 40, ca 1, fs_171)]) [0, 1] rfl (I1 := [([(3, 0), (3, 1), (3, 2), (3, 3), (3, 4), (3, 5), (3, 6), (3, 7), (3, 8), (3, 9), (3, 10), (3, 11), (3, 12), (3, 13), (3, 14), (3, 15), (3, 16)], jOw (dC, dI) G0 3 r0 s.heap), (jFdo, jDcc dC dI ca G0 (some r0) ph)]) [0, 1] rfl) (by refine ⟨by omega, by omega, by omega, by omega, by omega, jSn.put hi_9_5 hi_9_6 hv_168 ho_168 hv_174 ho_174 (by omega) (by omega) (by omega) (by omega) (by omega) (by omega), jSn.nx hv_174 (by omega) (by omega)⟩) (by omega) _ (lv_sub hl [3, 4, 1, 0] rfl)
            · skip
              have c_182' : r_167.toInt < 0 := jb_ge_n (rfl) ((by decide)) c_182
              first | (have hr_167q := hr_167.resolve_left (by omega); clear hr_167) | (have hr_167q := hr_167.resolve_right (by omega); clear hr_167) | skip
              refine lv_iconst (v := 1) hx hb dX1_part_71 (by decide) ?_
              refine lv_goto (tgt := 76) hx hb dX1_part_72 (by decide) ?_
              refine j7_iast hx hb hK hh_180 hB hB101 1 rfl (by decide) (by decide) rfl rfl rfl hg_early_181 (x := v3_9.toInt) (rfl) (by omega) (trivial) dX1_part_76 (fun H_194 locs_194 hh_194 => ?_)
              clear hh_180
              refine lv_aload_n hx hb dX1_part_77 rfl (lv_at hl 1 rfl) ?_
              refine lv_iload_n hx hb dX1_part_78 rfl (lv_at hl 4 rfl) ?_
              refine lv_iconst (v := 1) hx hb dX1_part_79 (by decide) ?_
              refine lv_iadd hx hb dX1_part_80 ?_
              refine lv_topi (fun z_195 ez_195 => ?_)
              have hz_195 : z_195.toInt = v3_9.toInt + 1 := by rw [ez_195]; exact jb_iadd2 (rfl) ((by decide)) (by omega)
              have hd_197 := hh_194.iv 0 rfl
              have hd_1975 := hh_194.at 3 rfl
              have hd_1976 := hh_194.at 4 rfl
              have hd_197o := hh_194.iv 1 rfl
              have hh_198 := hh_194.sub (L1 := [(r0, 3, 8, .ref early_181), (r0, 3, 4, .int ws_9), (r0, 3, 3, .int pl), (r0, 3, 5, .ref sa_), (r0, 3, 6, .ref ea_)]) [0, 1, 2, 3, 4] rfl (M1 := [(ea_, 172, 40, ca 1, fs_177), (sa_, 171, 40, ca 1, fs_171)]) [0, 1] rfl (I1 := []) [] rfl
              clear hh_194
              refine j7_putX hx hb hown hK hh_198 hB hAp hB3 (C := RX1) (T := TX1) (N := 17) rfl (by decide) hg_r0 (i := 4) (by decide) hly_3_4 rfl hlk_69 rfl (ty := .int) (v := .int z_195) (by decide +kernel) rfl rfl (⟨_, rfl, by omega, by omega⟩) rfl (L1 := [(r0, 3, 8, .ref early_181), (r0, 3, 3, .int pl), (r0, 3, 5, .ref sa_), (r0, 3, 6, .ref ea_)]) [0, 2, 3, 4] rfl rfl rfl dX1_part_81 (fun H_196 locs_196 hr_196 hh_196 => ?_)
              clear hh_198
              have hd_197n := jDcc.fld hd_197 hg_r0 hr_196 hd_1975 hd_1976 (hh_196.at 3 rfl) (hh_196.at 4 rfl)
              have hd_197on := jOw.put hd_197o hr_196
              have hh_199 := hh_196.addI (jDcc.ie hd_197n)
              clear hh_196
              have hh_200 := hh_199.addI (jOw.ie (dC := dC) (dI := dI) (G0 := G0) (k := 3) (r := r0) (H0 := s.heap) (F := [(3, 0), (3, 1), (3, 2), (3, 3), (3, 4), (3, 5), (3, 6), (3, 7), (3, 8), (3, 9), (3, 10), (3, 11), (3, 12), (3, 13), (3, 14), (3, 15), (3, 16)]) (C := RX1) (T := TX1) (N := 17) rfl (by decide) hh_199.2.2.2.2.1 (hd_197on))
              clear hh_199
              clear hd_197 hd_197n hd_1975 hd_1976 hr_196 hd_197o hd_197on
              refine lv_aload_n hx hb dX1_part_84 rfl (lv_at hl 1 rfl) ?_
              refine lv_aload_n hx hb dX1_part_85 rfl (lv_at hl 1 rfl) ?_
              refine j7_read hx hb hown hK (C := RX1) (T := TX1) (N := 17) rfl hly_3_6 hlk_21 (hh_200.at 4 rfl) dX1_part_86 ?_
              refine lv_iload_n hx hb dX1_part_89 rfl (lv_at hl 4 rfl) ?_
              refine j7_ialdM hx hb hK hh_200 hB172 1 rfl (by decide) hg_ea_ (x := v3_9.toInt) (rfl) (by omega) (j := 0) rfl dX1_part_90 (fun z_201 ez_201 (hz_201 : 0 ≤ z_201.toInt ∧ z_201.toInt ≤ 1500) => ?_)
              have hqz_201 : z_201.toInt = jSo fs_177 (v3_9.toInt) := by unfold jSo; rw [ez_201]
              refine va_calli (A0 := jA base) (H0 := s.heap) (va_runV (As := [.int z_201]) (rest := []) ⟨hx, hb, hml, hown, hts⟩ (uX1_sentenceBeginS l dC dI ca base B hB hAp hB3 hB101 hB173 G0 H_196 r0 z_201 n0 pl) (cwV 1 hts (jgV (jWr_36 _ (List.mem_of_getElem? (i := 6) rfl)) (jWr_36 _ (List.mem_of_getElem? (i := 7) rfl)) (jWr_36 _ (List.mem_of_getElem? (i := 8) rfl)) (jWr_2 _ (List.mem_of_getElem? (i := 21) rfl)) (jWr_36 _ (List.mem_of_getElem? (i := 9) rfl))) rfl rfl rfl (by decide +kernel) ⟨by rw [← hR]; exact Nat.le_of_ble_eq_true rfl, by rw [← hR]; exact Nat.le_of_ble_eq_true rfl⟩) ⟨fun a U g mk q => by obtain ⟨q0, q1, q2, qK, q10, q11, q12⟩ := q; exact ⟨q0, q1, q2, jG.calling g mk a qK, q10, q11, q12⟩, hh_200.recv (C := RX1) (T := TX1) (N := 17) hB3 rfl (by decide) hg_r0 hK, fun U hU hW => ⟨rfl, hU, hh_200.2.1, hG.step hW hU hh_200.1, hg_r0, (hh_200.2.2.1.sub (L1 := [(r0, 3, 3, .int pl)]) [2] rfl), by first | omega | (refine ⟨?_, ?_, ?_⟩ <;> (first | omega | rfl | assumption | decide | exact Or.inl rfl | exact Or.inr rfl | (simp only; omega)))⟩⟩ rfl rfl hl.1 rfl (lv_room (Nat.le_of_ble_eq_true rfl)) dX1_part_91 ⟨Nat.zero_le _, Nat.zero_le _⟩) hh_200.1 (fun q _ h => h) (fun q h => h) (fun r_203 u_202 t_202 H_202 locs_202 ht_202 hvm_202 hr_203 hb_202 hz_202 hk_202 hS_202 => ?_)
              rw [ht_202] at hb_202
              obtain ⟨hb_2021, hb_2022, hb_2023, hb_2024, hb_2025⟩ := hb_202
              have hh_202 : jSt (dC, dI) B base G0 G0 EX1_partE s.heap 0 0 [(r0, 3, 4, .int z_195), (r0, 3, 8, .ref early_181), (r0, 3, 3, .int pl), (r0, 3, 5, .ref sa_), (r0, 3, 6, .ref ea_)] [(ea_, 172, 40, ca 1, fs_177), (sa_, 171, 40, ca 1, fs_171)] [([(3, 0), (3, 1), (3, 2), (3, 3), (3, 4), (3, 5), (3, 6), (3, 7), (3, 8), (3, 9), (3, 10), (3, 11), (3, 12), (3, 13), (3, 14), (3, 15), (3, 16)], jOw (dC, dI) G0 3 r0 s.heap), (jFdo, jDcc dC dI ca G0 (some r0) ph)] H_202 locs_202 := ((hh_200.call hb_2021 hb_2022 hb_2023 hb_2024 hS_202 rfl (L1 := [(r0, 3, 4, .int z_195), (r0, 3, 8, .ref early_181), (r0, 3, 3, .int pl), (r0, 3, 5, .ref sa_), (r0, 3, 6, .ref ea_)]) [0, 1, 2, 3, 4] rfl rfl (M1 := [(ea_, 172, 40, ca 1, fs_177), (sa_, 171, 40, ca 1, fs_171)]) [0, 1] rfl rfl (I1 := [([(3, 0), (3, 1), (3, 2), (3, 3), (3, 4), (3, 5), (3, 6), (3, 7), (3, 8), (3, 9), (3, 10), (3, 11), (3, 12), (3, 13), (3, 14), (3, 15), (3, 16)], jOw (dC, dI) G0 3 r0 s.heap), (jFdo, jDcc dC dI ca G0 (some r0) ph)]) [0, 1] rfl rfl).more hb_2025)
              clear hh_200 ht_202 hvm_202 hz_202 hk_202 hS_202 hb_2021 hb_2022 hb_2023 hb_2024 hb_2025
              obtain ⟨hr_203_0, hr_203_1⟩ := hr_203
              refine lv_istore_n (lv' := [(2, .int r_203), (4, .int r_167), (0, .ref r0), (1, .ref r1), (3, .int v3_9)]) hx hb dX1_part_94 rfl hl (by decide) rfl (fun ls hl => ?_)
              obtain ⟨z_204, ez_204⟩ : ∃ y : Int32, y = v3_9 + 1 := ⟨_, rfl⟩
              refine lv_iinc (v := z_204) (lv' := [(3, .int z_204), (2, .int r_203), (4, .int r_167), (0, .ref r0), (1, .ref r1)]) hx hb dX1_part_95 hl (k := 4) rfl (by rw [ez_204]; rfl) (by decide) rfl (fun ls hl => ?_)
              have hz_204 : z_204.toInt = v3_9.toInt + 1 := by rw [ez_204]; exact jb_iadd2 (rfl) (by decide) (by omega)
              refine lv_goto (tgt := 13) hx hb dX1_part_98 (by decide) ?_
              exact L13 r_203 z_204 z_195 fs_171 fs_177 _ _ (hh_202.sub (L1 := [(r0, 3, 4, .int z_195), (r0, 3, 3, .int pl), (r0, 3, 5, .ref sa_), (r0, 3, 6, .ref ea_)]) [0, 2, 3, 4] rfl (M1 := [(ea_, 172, 40, ca 1, fs_177), (sa_, 171, 40, ca 1, fs_171)]) [0, 1] rfl (I1 := [([(3, 0), (3, 1), (3, 2), (3, 3), (3, 4), (3, 5), (3, 6), (3, 7), (3, 8), (3, 9), (3, 10), (3, 11), (3, 12), (3, 13), (3, 14), (3, 15), (3, 16)], jOw (dC, dI) G0 3 r0 s.heap), (jFdo, jDcc dC dI ca G0 (some r0) ph)]) [0, 1] rfl) (by refine ⟨by omega, by omega, by omega, by omega, by omega, jSn.put hi_9_5 hi_9_6 hv_168 ho_168 hv_174 ho_174 (by omega) (by omega) (by omega) (by omega) (by omega) (by omega), jSn.nx hv_174 (by omega) (by omega)⟩) (by omega) _ (lv_sub hl [3, 4, 1, 0] rfl)
          · skip
            have c_173' : r_167.toInt < 0 := jb_ge_n (rfl) ((by decide)) c_173
            first | (have hr_167q := hr_167.resolve_left (by omega); clear hr_167) | (have hr_167q := hr_167.resolve_right (by omega); clear hr_167) | skip
            refine lv_aload_n hx hb dX1_part_51 rfl (lv_at hl 1 rfl) ?_
            refine j7_read hx hb hown hK (C := RX1) (T := TX1) (N := 17) rfl hly_3_3 hlk_42 (hh_172.at 1 rfl) dX1_part_52 ?_
            refine lv_goto (tgt := 60) hx hb dX1_part_55 (by decide) ?_
            have hd_206 := hh_172.iv 0 rfl
            have hh_207 := hh_172.sub (L1 := [(r0, 3, 4, .int ws_9), (r0, 3, 3, .int pl), (r0, 3, 5, .ref sa_), (r0, 3, 6, .ref ea_)]) [0, 1, 2, 3] rfl (M1 := [(sa_, 171, 40, ca 1, fs_171), (ea_, 172, 40, ca 1, fe_9)]) [0, 1] rfl (I1 := [([(3, 0), (3, 1), (3, 2), (3, 3), (3, 4), (3, 5), (3, 6), (3, 7), (3, 8), (3, 9), (3, 10), (3, 11), (3, 12), (3, 13), (3, 14), (3, 15), (3, 16)], jOw (dC, dI) G0 3 r0 s.heap)]) [1] rfl
            clear hh_172
            have hd_206f := hh_207.at 3 rfl
            refine j7_iastX hx hb hK hh_207 hB hB172 1 rfl (by decide) (by decide) rfl 1 rfl (M1 := [(sa_, 171, 40, ca 1, fs_171)]) [0] rfl rfl rfl hg_ea_ (x := v3_9.toInt) (rfl) (by omega) (by first | omega | (refine ⟨?_, ?_⟩ <;> (first | omega | rfl | assumption | decide | exact Or.inl rfl | exact Or.inr rfl | (simp only; omega)))) dX1_part_60 (fun H_205 locs_205 fs_208 hv_205 ho_205 hr_205 hh_205 => ?_)
            have hv_205 : jSo fs_208 (v3_9.toInt) = pl.toInt := by unfold jSo; rw [hv_205]; try exact rfl
            clear hh_207
            have hd_206n := jDcc.arr hd_206 hg_r0 hg_ea_ (Or.inr ⟨rfl, hd_206f⟩) hr_205
            have hh_209 := hh_205.addI (jDcc.ie hd_206n)
            clear hh_205
            clear hd_206 hd_206f hd_206n hr_205
            refine lv_aload_n hx hb dX1_part_61 rfl (lv_at hl 1 rfl) ?_
            obtain ⟨v_210, hv_210, hh_211⟩ := hh_209.pin (C := RX1) (T := TX1) (N := 17) hB3 rfl (by decide) hg_r0 (i := 8) (by decide) rfl
            clear hh_209
            obtain ⟨early_212, rfl, hg_early_212⟩ := hv_210
            refine j7_read hx hb hown hK (C := RX1) (T := TX1) (N := 17) rfl hly_3_8 hlk_27 (hh_211.at 0 rfl) dX1_part_62 ?_
            refine lv_iload_n hx hb dX1_part_65 rfl (lv_at hl 4 rfl) ?_
            refine lv_iload hx hb dX1_part_66 (lv_at hl 0 rfl) ?_
            refine lv_if_ge (tgt := 75) hx hb dX1_part_68 (by decide) (fun c_213 => ?_) (fun c_213 => ?_)
            · skip
              have c_213' : r_167.toInt ≥ 0 := jb_ge (rfl) ((by decide)) c_213
              first | (have hr_167q := hr_167.resolve_left (by omega); clear hr_167) | (have hr_167q := hr_167.resolve_right (by omega); clear hr_167) | skip
              refine lv_iconst (v := 0) hx hb dX1_part_75 (by decide) ?_
              refine j7_iast hx hb hK hh_211 hB hB101 1 rfl (by decide) (by decide) rfl rfl rfl hg_early_212 (x := v3_9.toInt) (rfl) (by omega) (trivial) dX1_part_76 (fun H_214 locs_214 hh_214 => ?_)
              clear hh_211
              refine lv_aload_n hx hb dX1_part_77 rfl (lv_at hl 1 rfl) ?_
              refine lv_iload_n hx hb dX1_part_78 rfl (lv_at hl 4 rfl) ?_
              refine lv_iconst (v := 1) hx hb dX1_part_79 (by decide) ?_
              refine lv_iadd hx hb dX1_part_80 ?_
              refine lv_topi (fun z_215 ez_215 => ?_)
              have hz_215 : z_215.toInt = v3_9.toInt + 1 := by rw [ez_215]; exact jb_iadd2 (rfl) ((by decide)) (by omega)
              have hd_217 := hh_214.iv 0 rfl
              have hd_2175 := hh_214.at 3 rfl
              have hd_2176 := hh_214.at 4 rfl
              have hd_217o := hh_214.iv 1 rfl
              have hh_218 := hh_214.sub (L1 := [(r0, 3, 8, .ref early_212), (r0, 3, 4, .int ws_9), (r0, 3, 3, .int pl), (r0, 3, 5, .ref sa_), (r0, 3, 6, .ref ea_)]) [0, 1, 2, 3, 4] rfl (M1 := [(ea_, 172, 40, ca 1, fs_208), (sa_, 171, 40, ca 1, fs_171)]) [0, 1] rfl (I1 := []) [] rfl
              clear hh_214
              refine j7_putX hx hb hown hK hh_218 hB hAp hB3 (C := RX1) (T := TX1) (N := 17) rfl (by decide) hg_r0 (i := 4) (by decide) hly_3_4 rfl hlk_69 rfl (ty := .int) (v := .int z_215) (by decide +kernel) rfl rfl (⟨_, rfl, by omega, by omega⟩) rfl (L1 := [(r0, 3, 8, .ref early_212), (r0, 3, 3, .int pl), (r0, 3, 5, .ref sa_), (r0, 3, 6, .ref ea_)]) [0, 2, 3, 4] rfl rfl rfl dX1_part_81 (fun H_216 locs_216 hr_216 hh_216 => ?_)
              clear hh_218
              have hd_217n := jDcc.fld hd_217 hg_r0 hr_216 hd_2175 hd_2176 (hh_216.at 3 rfl) (hh_216.at 4 rfl)
              have hd_217on := jOw.put hd_217o hr_216
              have hh_219 := hh_216.addI (jDcc.ie hd_217n)
              clear hh_216
              have hh_220 := hh_219.addI (jOw.ie (dC := dC) (dI := dI) (G0 := G0) (k := 3) (r := r0) (H0 := s.heap) (F := [(3, 0), (3, 1), (3, 2), (3, 3), (3, 4), (3, 5), (3, 6), (3, 7), (3, 8), (3, 9), (3, 10), (3, 11), (3, 12), (3, 13), (3, 14), (3, 15), (3, 16)]) (C := RX1) (T := TX1) (N := 17) rfl (by decide) hh_219.2.2.2.2.1 (hd_217on))
              clear hh_219
              clear hd_217 hd_217n hd_2175 hd_2176 hr_216 hd_217o hd_217on
              refine lv_aload_n hx hb dX1_part_84 rfl (lv_at hl 1 rfl) ?_
              refine lv_aload_n hx hb dX1_part_85 rfl (lv_at hl 1 rfl) ?_
              refine j7_read hx hb hown hK (C := RX1) (T := TX1) (N := 17) rfl hly_3_6 hlk_21 (hh_220.at 4 rfl) dX1_part_86 ?_
              refine lv_iload_n hx hb dX1_part_89 rfl (lv_at hl 4 rfl) ?_
              refine j7_ialdM hx hb hK hh_220 hB172 1 rfl (by decide) hg_ea_ (x := v3_9.toInt) (rfl) (by omega) (j := 0) rfl dX1_part_90 (fun z_221 ez_221 (hz_221 : 0 ≤ z_221.toInt ∧ z_221.toInt ≤ 1500) => ?_)
              have hqz_221 : z_221.toInt = jSo fs_208 (v3_9.toInt) := by unfold jSo; rw [ez_221]
              refine va_calli (A0 := jA base) (H0 := s.heap) (va_runV (As := [.int z_221]) (rest := []) ⟨hx, hb, hml, hown, hts⟩ (uX1_sentenceBeginS l dC dI ca base B hB hAp hB3 hB101 hB173 G0 H_216 r0 z_221 n0 pl) (cwV 1 hts (jgV (jWr_36 _ (List.mem_of_getElem? (i := 6) rfl)) (jWr_36 _ (List.mem_of_getElem? (i := 7) rfl)) (jWr_36 _ (List.mem_of_getElem? (i := 8) rfl)) (jWr_2 _ (List.mem_of_getElem? (i := 21) rfl)) (jWr_36 _ (List.mem_of_getElem? (i := 9) rfl))) rfl rfl rfl (by decide +kernel) ⟨by rw [← hR]; exact Nat.le_of_ble_eq_true rfl, by rw [← hR]; exact Nat.le_of_ble_eq_true rfl⟩) ⟨fun a U g mk q => by obtain ⟨q0, q1, q2, qK, q10, q11, q12⟩ := q; exact ⟨q0, q1, q2, jG.calling g mk a qK, q10, q11, q12⟩, hh_220.recv (C := RX1) (T := TX1) (N := 17) hB3 rfl (by decide) hg_r0 hK, fun U hU hW => ⟨rfl, hU, hh_220.2.1, hG.step hW hU hh_220.1, hg_r0, (hh_220.2.2.1.sub (L1 := [(r0, 3, 3, .int pl)]) [2] rfl), by first | omega | (refine ⟨?_, ?_, ?_⟩ <;> (first | omega | rfl | assumption | decide | exact Or.inl rfl | exact Or.inr rfl | (simp only; omega)))⟩⟩ rfl rfl hl.1 rfl (lv_room (Nat.le_of_ble_eq_true rfl)) dX1_part_91 ⟨Nat.zero_le _, Nat.zero_le _⟩) hh_220.1 (fun q _ h => h) (fun q h => h) (fun r_223 u_222 t_222 H_222 locs_222 ht_222 hvm_222 hr_223 hb_222 hz_222 hk_222 hS_222 => ?_)
              rw [ht_222] at hb_222
              obtain ⟨hb_2221, hb_2222, hb_2223, hb_2224, hb_2225⟩ := hb_222
              have hh_222 : jSt (dC, dI) B base G0 G0 EX1_partE s.heap 0 0 [(r0, 3, 4, .int z_215), (r0, 3, 8, .ref early_212), (r0, 3, 3, .int pl), (r0, 3, 5, .ref sa_), (r0, 3, 6, .ref ea_)] [(ea_, 172, 40, ca 1, fs_208), (sa_, 171, 40, ca 1, fs_171)] [([(3, 0), (3, 1), (3, 2), (3, 3), (3, 4), (3, 5), (3, 6), (3, 7), (3, 8), (3, 9), (3, 10), (3, 11), (3, 12), (3, 13), (3, 14), (3, 15), (3, 16)], jOw (dC, dI) G0 3 r0 s.heap), (jFdo, jDcc dC dI ca G0 (some r0) ph)] H_222 locs_222 := ((hh_220.call hb_2221 hb_2222 hb_2223 hb_2224 hS_222 rfl (L1 := [(r0, 3, 4, .int z_215), (r0, 3, 8, .ref early_212), (r0, 3, 3, .int pl), (r0, 3, 5, .ref sa_), (r0, 3, 6, .ref ea_)]) [0, 1, 2, 3, 4] rfl rfl (M1 := [(ea_, 172, 40, ca 1, fs_208), (sa_, 171, 40, ca 1, fs_171)]) [0, 1] rfl rfl (I1 := [([(3, 0), (3, 1), (3, 2), (3, 3), (3, 4), (3, 5), (3, 6), (3, 7), (3, 8), (3, 9), (3, 10), (3, 11), (3, 12), (3, 13), (3, 14), (3, 15), (3, 16)], jOw (dC, dI) G0 3 r0 s.heap), (jFdo, jDcc dC dI ca G0 (some r0) ph)]) [0, 1] rfl rfl).more hb_2225)
              clear hh_220 ht_222 hvm_222 hz_222 hk_222 hS_222 hb_2221 hb_2222 hb_2223 hb_2224 hb_2225
              obtain ⟨hr_223_0, hr_223_1⟩ := hr_223
              refine lv_istore_n (lv' := [(2, .int r_223), (4, .int r_167), (0, .ref r0), (1, .ref r1), (3, .int v3_9)]) hx hb dX1_part_94 rfl hl (by decide) rfl (fun ls hl => ?_)
              obtain ⟨z_224, ez_224⟩ : ∃ y : Int32, y = v3_9 + 1 := ⟨_, rfl⟩
              refine lv_iinc (v := z_224) (lv' := [(3, .int z_224), (2, .int r_223), (4, .int r_167), (0, .ref r0), (1, .ref r1)]) hx hb dX1_part_95 hl (k := 4) rfl (by rw [ez_224]; rfl) (by decide) rfl (fun ls hl => ?_)
              have hz_224 : z_224.toInt = v3_9.toInt + 1 := by rw [ez_224]; exact jb_iadd2 (rfl) (by decide) (by omega)
              refine lv_goto (tgt := 13) hx hb dX1_part_98 (by decide) ?_
              exact L13 r_223 z_224 z_215 fs_171 fs_208 _ _ (hh_222.sub (L1 := [(r0, 3, 4, .int z_215), (r0, 3, 3, .int pl), (r0, 3, 5, .ref sa_), (r0, 3, 6, .ref ea_)]) [0, 2, 3, 4] rfl (M1 := [(ea_, 172, 40, ca 1, fs_208), (sa_, 171, 40, ca 1, fs_171)]) [0, 1] rfl (I1 := [([(3, 0), (3, 1), (3, 2), (3, 3), (3, 4), (3, 5), (3, 6), (3, 7), (3, 8), (3, 9), (3, 10), (3, 11), (3, 12), (3, 13), (3, 14), (3, 15), (3, 16)], jOw (dC, dI) G0 3 r0 s.heap), (jFdo, jDcc dC dI ca G0 (some r0) ph)]) [0, 1] rfl) (by refine ⟨by omega, by omega, by omega, by omega, by omega, jSn.put hi_9_5 hi_9_6 hv_168 ho_168 hv_205 ho_205 (by omega) (by omega) (by omega) (by omega) (by omega) (by omega), jSn.nx hv_205 (by omega) (by omega)⟩) (by omega) _ (lv_sub hl [3, 4, 1, 0] rfl)
            · skip
              have c_213' : r_167.toInt < 0 := jb_ge_n (rfl) ((by decide)) c_213
              first | (have hr_167q := hr_167.resolve_left (by omega); clear hr_167) | (have hr_167q := hr_167.resolve_right (by omega); clear hr_167) | skip
              refine lv_iconst (v := 1) hx hb dX1_part_71 (by decide) ?_
              refine lv_goto (tgt := 76) hx hb dX1_part_72 (by decide) ?_
              refine j7_iast hx hb hK hh_211 hB hB101 1 rfl (by decide) (by decide) rfl rfl rfl hg_early_212 (x := v3_9.toInt) (rfl) (by omega) (trivial) dX1_part_76 (fun H_225 locs_225 hh_225 => ?_)
              clear hh_211
              refine lv_aload_n hx hb dX1_part_77 rfl (lv_at hl 1 rfl) ?_
              refine lv_iload_n hx hb dX1_part_78 rfl (lv_at hl 4 rfl) ?_
              refine lv_iconst (v := 1) hx hb dX1_part_79 (by decide) ?_
              refine lv_iadd hx hb dX1_part_80 ?_
              refine lv_topi (fun z_226 ez_226 => ?_)
              have hz_226 : z_226.toInt = v3_9.toInt + 1 := by rw [ez_226]; exact jb_iadd2 (rfl) ((by decide)) (by omega)
              have hd_228 := hh_225.iv 0 rfl
              have hd_2285 := hh_225.at 3 rfl
              have hd_2286 := hh_225.at 4 rfl
              have hd_228o := hh_225.iv 1 rfl
              have hh_229 := hh_225.sub (L1 := [(r0, 3, 8, .ref early_212), (r0, 3, 4, .int ws_9), (r0, 3, 3, .int pl), (r0, 3, 5, .ref sa_), (r0, 3, 6, .ref ea_)]) [0, 1, 2, 3, 4] rfl (M1 := [(ea_, 172, 40, ca 1, fs_208), (sa_, 171, 40, ca 1, fs_171)]) [0, 1] rfl (I1 := []) [] rfl
              clear hh_225
              refine j7_putX hx hb hown hK hh_229 hB hAp hB3 (C := RX1) (T := TX1) (N := 17) rfl (by decide) hg_r0 (i := 4) (by decide) hly_3_4 rfl hlk_69 rfl (ty := .int) (v := .int z_226) (by decide +kernel) rfl rfl (⟨_, rfl, by omega, by omega⟩) rfl (L1 := [(r0, 3, 8, .ref early_212), (r0, 3, 3, .int pl), (r0, 3, 5, .ref sa_), (r0, 3, 6, .ref ea_)]) [0, 2, 3, 4] rfl rfl rfl dX1_part_81 (fun H_227 locs_227 hr_227 hh_227 => ?_)
              clear hh_229
              have hd_228n := jDcc.fld hd_228 hg_r0 hr_227 hd_2285 hd_2286 (hh_227.at 3 rfl) (hh_227.at 4 rfl)
              have hd_228on := jOw.put hd_228o hr_227
              have hh_230 := hh_227.addI (jDcc.ie hd_228n)
              clear hh_227
              have hh_231 := hh_230.addI (jOw.ie (dC := dC) (dI := dI) (G0 := G0) (k := 3) (r := r0) (H0 := s.heap) (F := [(3, 0), (3, 1), (3, 2), (3, 3), (3, 4), (3, 5), (3, 6), (3, 7), (3, 8), (3, 9), (3, 10), (3, 11), (3, 12), (3, 13), (3, 14), (3, 15), (3, 16)]) (C := RX1) (T := TX1) (N := 17) rfl (by decide) hh_230.2.2.2.2.1 (hd_228on))
              clear hh_230
              clear hd_228 hd_228n hd_2285 hd_2286 hr_227 hd_228o hd_228on
              refine lv_aload_n hx hb dX1_part_84 rfl (lv_at hl 1 rfl) ?_
              refine lv_aload_n hx hb dX1_part_85 rfl (lv_at hl 1 rfl) ?_
              refine j7_read hx hb hown hK (C := RX1) (T := TX1) (N := 17) rfl hly_3_6 hlk_21 (hh_231.at 4 rfl) dX1_part_86 ?_
              refine lv_iload_n hx hb dX1_part_89 rfl (lv_at hl 4 rfl) ?_
              refine j7_ialdM hx hb hK hh_231 hB172 1 rfl (by decide) hg_ea_ (x := v3_9.toInt) (rfl) (by omega) (j := 0) rfl dX1_part_90 (fun z_232 ez_232 (hz_232 : 0 ≤ z_232.toInt ∧ z_232.toInt ≤ 1500) => ?_)
              have hqz_232 : z_232.toInt = jSo fs_208 (v3_9.toInt) := by unfold jSo; rw [ez_232]
              refine va_calli (A0 := jA base) (H0 := s.heap) (va_runV (As := [.int z_232]) (rest := []) ⟨hx, hb, hml, hown, hts⟩ (uX1_sentenceBeginS l dC dI ca base B hB hAp hB3 hB101 hB173 G0 H_227 r0 z_232 n0 pl) (cwV 1 hts (jgV (jWr_36 _ (List.mem_of_getElem? (i := 6) rfl)) (jWr_36 _ (List.mem_of_getElem? (i := 7) rfl)) (jWr_36 _ (List.mem_of_getElem? (i := 8) rfl)) (jWr_2 _ (List.mem_of_getElem? (i := 21) rfl)) (jWr_36 _ (List.mem_of_getElem? (i := 9) rfl))) rfl rfl rfl (by decide +kernel) ⟨by rw [← hR]; exact Nat.le_of_ble_eq_true rfl, by rw [← hR]; exact Nat.le_of_ble_eq_true rfl⟩) ⟨fun a U g mk q => by obtain ⟨q0, q1, q2, qK, q10, q11, q12⟩ := q; exact ⟨q0, q1, q2, jG.calling g mk a qK, q10, q11, q12⟩, hh_231.recv (C := RX1) (T := TX1) (N := 17) hB3 rfl (by decide) hg_r0 hK, fun U hU hW => ⟨rfl, hU, hh_231.2.1, hG.step hW hU hh_231.1, hg_r0, (hh_231.2.2.1.sub (L1 := [(r0, 3, 3, .int pl)]) [2] rfl), by first | omega | (refine ⟨?_, ?_, ?_⟩ <;> (first | omega | rfl | assumption | decide | exact Or.inl rfl | exact Or.inr rfl | (simp only; omega)))⟩⟩ rfl rfl hl.1 rfl (lv_room (Nat.le_of_ble_eq_true rfl)) dX1_part_91 ⟨Nat.zero_le _, Nat.zero_le _⟩) hh_231.1 (fun q _ h => h) (fun q h => h) (fun r_234 u_233 t_233 H_233 locs_233 ht_233 hvm_233 hr_234 hb_233 hz_233 hk_233 hS_233 => ?_)
              rw [ht_233] at hb_233
              obtain ⟨hb_2331, hb_2332, hb_2333, hb_2334, hb_2335⟩ := hb_233
              have hh_233 : jSt (dC, dI) B base G0 G0 EX1_partE s.heap 0 0 [(r0, 3, 4, .int z_226), (r0, 3, 8, .ref early_212), (r0, 3, 3, .int pl), (r0, 3, 5, .ref sa_), (r0, 3, 6, .ref ea_)] [(ea_, 172, 40, ca 1, fs_208), (sa_, 171, 40, ca 1, fs_171)] [([(3, 0), (3, 1), (3, 2), (3, 3), (3, 4), (3, 5), (3, 6), (3, 7), (3, 8), (3, 9), (3, 10), (3, 11), (3, 12), (3, 13), (3, 14), (3, 15), (3, 16)], jOw (dC, dI) G0 3 r0 s.heap), (jFdo, jDcc dC dI ca G0 (some r0) ph)] H_233 locs_233 := ((hh_231.call hb_2331 hb_2332 hb_2333 hb_2334 hS_233 rfl (L1 := [(r0, 3, 4, .int z_226), (r0, 3, 8, .ref early_212), (r0, 3, 3, .int pl), (r0, 3, 5, .ref sa_), (r0, 3, 6, .ref ea_)]) [0, 1, 2, 3, 4] rfl rfl (M1 := [(ea_, 172, 40, ca 1, fs_208), (sa_, 171, 40, ca 1, fs_171)]) [0, 1] rfl rfl (I1 := [([(3, 0), (3, 1), (3, 2), (3, 3), (3, 4), (3, 5), (3, 6), (3, 7), (3, 8), (3, 9), (3, 10), (3, 11), (3, 12), (3, 13), (3, 14), (3, 15), (3, 16)], jOw (dC, dI) G0 3 r0 s.heap), (jFdo, jDcc dC dI ca G0 (some r0) ph)]) [0, 1] rfl rfl).more hb_2335)
              clear hh_231 ht_233 hvm_233 hz_233 hk_233 hS_233 hb_2331 hb_2332 hb_2333 hb_2334 hb_2335
              obtain ⟨hr_234_0, hr_234_1⟩ := hr_234
              refine lv_istore_n (lv' := [(2, .int r_234), (4, .int r_167), (0, .ref r0), (1, .ref r1), (3, .int v3_9)]) hx hb dX1_part_94 rfl hl (by decide) rfl (fun ls hl => ?_)
              obtain ⟨z_235, ez_235⟩ : ∃ y : Int32, y = v3_9 + 1 := ⟨_, rfl⟩
              refine lv_iinc (v := z_235) (lv' := [(3, .int z_235), (2, .int r_234), (4, .int r_167), (0, .ref r0), (1, .ref r1)]) hx hb dX1_part_95 hl (k := 4) rfl (by rw [ez_235]; rfl) (by decide) rfl (fun ls hl => ?_)
              have hz_235 : z_235.toInt = v3_9.toInt + 1 := by rw [ez_235]; exact jb_iadd2 (rfl) (by decide) (by omega)
              refine lv_goto (tgt := 13) hx hb dX1_part_98 (by decide) ?_
              exact L13 r_234 z_235 z_226 fs_171 fs_208 _ _ (hh_233.sub (L1 := [(r0, 3, 4, .int z_226), (r0, 3, 3, .int pl), (r0, 3, 5, .ref sa_), (r0, 3, 6, .ref ea_)]) [0, 2, 3, 4] rfl (M1 := [(ea_, 172, 40, ca 1, fs_208), (sa_, 171, 40, ca 1, fs_171)]) [0, 1] rfl (I1 := [([(3, 0), (3, 1), (3, 2), (3, 3), (3, 4), (3, 5), (3, 6), (3, 7), (3, 8), (3, 9), (3, 10), (3, 11), (3, 12), (3, 13), (3, 14), (3, 15), (3, 16)], jOw (dC, dI) G0 3 r0 s.heap), (jFdo, jDcc dC dI ca G0 (some r0) ph)]) [0, 1] rfl) (by refine ⟨by omega, by omega, by omega, by omega, by omega, jSn.put hi_9_5 hi_9_6 hv_168 ho_168 hv_205 ho_205 (by omega) (by omega) (by omega) (by omega) (by omega) (by omega), jSn.nx hv_205 (by omega) (by omega)⟩) (by omega) _ (lv_sub hl [3, 4, 1, 0] rfl)
  exact L13 (40 - (0 : Int32).toInt : Int).toNat.succ r_8 0 0 fb fe _ _ (hh_7.sub (L1 := [(r0, 3, 4, .int 0), (r0, 3, 3, .int pl), (r0, 3, 5, .ref sa_), (r0, 3, 6, .ref ea_)]) [0, 1, 2, 3] rfl (M1 := [(ea_, 172, 40, ca 1, fe), (sa_, 171, 40, ca 1, fb)]) [1, 0] rfl (I1 := [([(3, 0), (3, 1), (3, 2), (3, 3), (3, 4), (3, 5), (3, 6), (3, 7), (3, 8), (3, 9), (3, 10), (3, 11), (3, 12), (3, 13), (3, 14), (3, 15), (3, 16)], jOw (dC, dI) G0 3 r0 s.heap), (jFdo, jDcc dC dI ca G0 (some r0) ph)]) [0, 1] rfl) (by refine ⟨by omega, by omega, by omega, by omega, by omega, jSn.zero (by omega), Or.inl (by omega)⟩) (by omega) _ (lv_sub hl [2, 3, 1, 0] rfl)
end
section
-- p9: what is asked of JSON that was read
theorem jqTx_0 {T : Nat → Int → Int} {f : Nat → Int32} {a : Int} {m n : Nat} (h : m < n) (he : T 7 (a + m) ≠ (jCv (f m)).toInt) : jqTx T f a n = 0 := by
  induction n with
  | zero => omega
  | succ n ih =>
    have e : jqTx T f a (n + 1) = if T 7 (a + n) = (jCv (f n)).toInt then jqTx T f a n else 0 := rfl
    rw [e]
    by_cases q : m = n
    · subst q; rw [if_neg he]
    · split
      · exact ih (by omega)
      · rfl
theorem jqTx_1 {T : Nat → Int → Int} {f : Nat → Int32} {a : Int} {m : Nat} (h : jqTx T f a m = 1) (he : T 7 (a + m) = (jCv (f m)).toInt) : jqTx T f a (m + 1) = 1 := by
  have e : jqTx T f a (m + 1) = if T 7 (a + m) = (jCv (f m)).toInt then jqTx T f a m else 0 := rfl
  rw [e, if_pos he]; exact h
theorem jqMl_s {T : Nat → Int → Int} {f : Nat → Int32} {n k : Nat} {c d c1 d1 : Int} (hk : 0 < k) (e1 : c1 = T 4 c) (e2 : (jqU T f n (T 5 c) (T 6 c) = 1 ∧ d1 = c) ∨ (jqU T f n (T 5 c) (T 6 c) ≠ 1 ∧ d1 = d)) : jqMl T f n (k - 1) c1 d1 = jqMl T f n k c d := by
  cases k with
  | zero => omega
  | succ k =>
    have e : jqMl T f n (k + 1) c d = jqMl T f n k (T 4 c) (if jqU T f n (T 5 c) (T 6 c) = 1 then c else d) := rfl
    rw [e, ← e1]
    rcases e2 with ⟨q, rfl⟩ | ⟨q, rfl⟩
    · rw [if_pos q]; rfl
    · rw [if_neg q]; rfl
theorem jjCh.h {T : Nat → Int → Int} {hi x c : Int} {n : Nat} (h : jjCh T hi x n c) (hn : 0 < n) : x < c ∧ c < hi ∧ T 8 c = 1 ∧ jjCh T hi x (n - 1) (T 4 c) := by
  cases n with
  | zero => omega
  | succ n => exact h
end
