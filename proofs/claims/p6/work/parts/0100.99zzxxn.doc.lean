section
def EX11_documentW : List (Nat × Nat) := []
set_option maxHeartbeats 4000000 in
set_option maxRecDepth 20000 in
theorem uX11_documentW (l : Launch) (dC : Nat → ClassId) (dI : Nat → Nat → Nat) (ca : Nat → ClassId) (base : Nat) (B : jF) (hB : jBok B) (hAp : jAp (dC, dI)) (hB1 : ∀ n G a H, B 1 n G a H ↔ jOb (dC, dI) 1 3 (F1 n G) a H) (hB3 : ∀ n G a H, B 3 n G a H ↔ jOb (dC, dI) 3 17 (F3 n G) a H) (hB7 : ∀ n G a H, B 7 n G a H ↔ jOb (dC, dI) 7 11 (F7 n G) a H) (hB10 : ∀ n G a H, B 10 n G a H ↔ jOb (dC, dI) 10 5 (F10 n G) a H) (hB11 : ∀ n G a H, B 11 n G a H ↔ jOb (dC, dI) 11 9 (F11 n G) a H) (hB13 : ∀ n G a H, B 13 n G a H ↔ jOb (dC, dI) 13 19 (F13 n G) a H) (hB17 : ∀ n G a H, B 17 n G a H ↔ jOb (dC, dI) 17 2 (F17 n G) a H) (hB171 : ∀ n G a H, B 171 n G a H ↔ jAr (dC, dI) (ca 1) (fun j z => 0 ≤ z.toInt ∧ z.toInt ≤ 1500) n a H) (hB172 : ∀ n G a H, B 172 n G a H ↔ jAr (dC, dI) (ca 1) (fun j z => 0 ≤ z.toInt ∧ z.toInt ≤ 1500) n a H) (hB173 : ∀ n G a H, B 173 n G a H ↔ jAr (dC, dI) (ca 1) (fun j z => True) n a H) (hB174 : ∀ n G a H, B 174 n G a H ↔ jAr (dC, dI) (ca 1) (fun j z => True) n a H) (hB175 : ∀ n G a H, B 175 n G a H ↔ jAr (dC, dI) (ca 1) (fun j z => True) n a H) (hB176 : ∀ n G a H, B 176 n G a H ↔ jAr (dC, dI) (ca 1) (fun j z => True) n a H) (hB199 : ∀ n G a H, B 199 n G a H ↔ jAr (dC, dI) (ca 0) (fun j z => jBf j z) n a H) (hB210 : ∀ n G a H, B 210 n G a H ↔ jAq (dC, dI) (ca 6) (jQn 11 0) n G a H) (hB212 : ∀ n G a H, B 212 n G a H ↔ jAq (dC, dI) (ca 5) (jQn 3 0) n G a H) (hB221 : ∀ n G a H, B 221 n G a H ↔ jAq (dC, dI) (ca 9) (jQn 3 0) n G a H) (G0 : jT) (H0 : Heap) (r0 : Nat) (a1 : Int32) (a2 : Int32) (op : Nat) (sz : Int32) (S9 : Int × (Int → jdD)) (Z9 : jwSt) : Met l yX11_document (jw yX11_document cX11_document 4 (some .int)) ({ frames := 4, cells := 0, slots := 0, locals := 85 }) (va_Pc [.ref r0, .int a1, .int a2] (fun U => U.heap = H0 ∧ jX B base G0 [] H0 ∧ jG dC dI ca base U ∧ jK7 dC dI ca base U ∧ G0 r0 = some (13, 0) ∧ G0 op = some (1, 1) ∧ jP (dC, dI) G0 H0 [(r0, 13, 7, .ref op), (op, 1, 2, .int sz)] ∧ jIs (dC, dI) G0 H0 [(jFCZ, jCZ dC dI ca G0 r0 S9 Z9)] ∧ 0 ≤ sz.toInt ∧ sz.toInt ≤ 40)) (va_Qi (S := Unit) (fun r u => (r.toInt = jwDoc S9 Z9 a1.toInt a2.toInt)) (fun u t => (jRt (dC, dI) B base G0 EX11_documentW H0 [] t.heap) ∧ jIs (dC, dI) G0 t.heap [(jFCZ, jCZ dC dI ca G0 r0 S9 Z9)]) (jA base)) 0 0 (jA base) := by
  refine Met.ofW (cc := cX11_document) (maxL := 4) (ret := (some .int)) (by decide) rfl ?_
  intro p e s m args below meth c s₁ Bd hml hv
  obtain ⟨rfl, hH0, hX, hG, hK7, hg_r0, hg_op, hP0, hI0, hp0, hp1⟩ := hv
  have hK := hG.1
  have hx := Bd.exec
  have hb := Bd.bytes
  have hr := Bd.returns
  have hts := atoms_spec (ws := (jw yX11_document cX11_document 4 (some .int))) Bd.pre
  have htw : ∀ w ∈ jWl, w.before _ s = true := fun w h => hts w (List.mem_cons_of_mem _ h)
  have hown : s.vm.findClass RX11 = some m.cls := findClass_of_methodNamed Bd.named
  have hlocks := Bd.notSynchronized
  obtain ⟨Q, hQ⟩ : ∃ Q, Q = MQ below (va_Qi (S := Unit) (fun r u => (r.toInt = jwDoc S9 Z9 a1.toInt a2.toInt)) (fun u t => (jRt (dC, dI) B base G0 EX11_documentW H0 [] t.heap) ∧ jIs (dC, dI) G0 t.heap [(jFCZ, jCZ dC dI ca G0 r0 S9 Z9)]) (jA base)) ([.ref r0, .int a1, .int a2] : List Value).toArray s 0 0 (jA base) := ⟨_, rfl⟩
  rw [← hQ]
  have hl := lv_entry ([.ref r0, .int a1, .int a2]) (n := 4) (Nat.le_of_ble_eq_true rfl)
  rw [lg_entry_eq]
  generalize (lg_sl ([.ref r0, .int a1, .int a2]) ++ List.replicate (4 - (lg_sl ([.ref r0, .int a1, .int a2])).length) Slot.unset).toArray = ls at hl ⊢
  have hl : lv_has ls 4 [(0, .ref r0), (1, .int a1), (2, .int a2)] := hl
  generalize hR : (headSpec (jw yX11_document cX11_document 4 (some .int)) ({ frames := 4, cells := 0, slots := 0, locals := 85 })).room = R
  subst hH0
  have hh : jSt (dC, dI) B base G0 G0 EX11_documentW s.heap 0 0 [(r0, 13, 7, .ref op), (op, 1, 2, .int sz)] [] [(jFCZ, jCZ dC dI ca G0 r0 S9 Z9)] s.heap [] := jSt.start hX hP0 jMc.nil hI0
  clear hX hP0
  have hkm1 : ((-1) : Int32).toInt = (-1) := by decide
  have hk0 : (0 : Int32).toInt = 0 := by decide
  have hk1 : (1 : Int32).toInt = 1 := by decide
  have hly_3_1 := htw (u_lay RX1 TX1 1) (jWc_wsX10 _ (u_in_lay (by decide)))
  have hly_3_3 := htw (u_lay RX1 TX1 3) (jWc_wsX10 _ (u_in_lay (by decide)))
  have hly_3_4 := htw (u_lay RX1 TX1 4) (jWc_wsX10 _ (u_in_lay (by decide)))
  have hly_3_10 := htw (u_lay RX1 TX1 10) (jWc_wsX10 _ (u_in_lay (by decide)))
  have hlk_162 := (htw (.fieldLink RX11 162 "ProofServer$Document" "version" "I") (jWr_35 _ (List.mem_of_getElem? (i := 15) rfl)))
  have hlk_165 := (htw (.fieldLink RX11 165 "ProofServer$Document" "length" "I") (jWr_41 _ (List.mem_of_getElem? (i := 20) rfl)))
  have hlk_168 := (htw (.fieldLink RX11 168 "ProofServer$Document" "sentences" "I") (jWr_35 _ (List.mem_of_getElem? (i := 4) rfl)))
  have hlk_171 := (htw (.fieldLink RX11 171 "ProofServer$Document" "checked" "I") (jWr_35 _ (List.mem_of_getElem? (i := 17) rfl)))
  have hrg_a1 := jb_rng a1
  have hrg_a2 := jb_rng a2
  obtain ⟨s0_1, tq_1, kq_1, wl_1, ho_1, us_1, rw_1, qq_1, ib_1, hb1_1, hb2_1, hb3_1, hb4_1, hb5_1, hb6_1, hb7_1, hb8_1, hCz_1⟩ := hh.iv 0 rfl
  have hh_2 := hh.sub (L1 := [(r0, 13, 7, .ref op), (op, 1, 2, .int sz)]) [0, 1] rfl (M1 := []) [] rfl (I1 := []) [] rfl
  clear hh
  have hh_3 := hh_2.addI (jHst.ie hb8_1)
  clear hh_2
  have hh_4 := hh_3.addI (jIB.ie (r := 0) hb7_1)
  clear hh_3
  have hh_5 := hh_4.addI (jQD.ie (ca := ca) hb6_1)
  clear hh_4
  have hh_6 := hh_5.addI (jUN.ie (r := 0) hb5_1)
  clear hh_5
  have hh_7 := hh_6.addI (jHh.ie hb4_1)
  clear hh_6
  have hh_8 := hh_7.addI (jLs.ie hb3_1)
  clear hh_7
  have hh_9 := hh_8.addI (jKD.ie hb2_1)
  clear hh_8
  have hh_10 := hh_9.addI (jCD.ie hb1_1)
  clear hh_9
  obtain ⟨kr_1, krn_1, -, hgkr_1, hkp1_1, hkp2_1⟩ := hh_10.iv 7 rfl
  have hgs0_1 := hCz_1.2.2.2.2.2.2.2.2.2.1
  have hh_11 := hh_10.more (P1 := [(r0, 13, 5, .ref kr_1), (kr_1, 7, 2, .ref s0_1)]) (jP.cons hg_r0 hkp1_1 (jP.cons hgkr_1 hkp2_1 jP.nil))
  clear hh_10
  have hCz9 := hCz_1
  refine lv_aload_n hx hb dX11_document_0 rfl (lv_at hl 0 rfl) ?_
  refine lv_iload_n hx hb dX11_document_1 rfl (lv_at hl 1 rfl) ?_
  refine j_callx (A0 := jA base) (H0 := s.heap) (va_runV (As := [.int a1]) (rest := []) ⟨hx, hb, hml, hown, hts⟩ (uX11_openAtU l dC dI ca base B hB hAp hB1 hB3 hB13 hB221 G0 s.heap r0 a1 op sz wl_1) (cwV 1 hts (jgV (jWr_92 _ (List.mem_of_getElem? (i := 10) rfl)) (jWr_92 _ (List.mem_of_getElem? (i := 11) rfl)) (jWr_92 _ (List.mem_of_getElem? (i := 12) rfl)) (jWr_1 _ (List.mem_of_getElem? (i := 2) rfl)) (jWr_92 _ (List.mem_of_getElem? (i := 13) rfl))) rfl rfl rfl (by decide +kernel) ⟨by rw [← hR]; exact Nat.le_of_ble_eq_true rfl, by rw [← hR]; exact Nat.le_of_ble_eq_true rfl⟩) ⟨fun a U g mk q => by obtain ⟨q0, q1, q2, qK, q10, q11, q12, q13, q14, q15⟩ := q; exact ⟨q0, q1, q2, jG.calling g mk a qK, (jK7.calling g mk a q10), q11, q12, q13, q14, q15⟩, hh_11.recv (C := RX11) (T := TX11) (N := 19) hB13 rfl (by decide) hg_r0 hK, fun U hU hW => ⟨rfl, hU, hh_11.2.1, hG.step hW hU hh_11.1, (hK7.step hW hU hh_11.1), hg_r0, hg_op, (hh_11.2.2.1.sub (L1 := [(r0, 13, 7, .ref op), (op, 1, 2, .int sz)]) [2, 3] rfl), (hh_11.2.2.2.2.2.2.2.2.sub (L1 := [(jFl, jLs dC dI ca G0 3 none wl_1)]) [2] rfl), by first | omega | (refine ⟨?_, ?_⟩ <;> (first | omega | rfl | assumption | decide | exact Or.inl rfl | exact Or.inr rfl | (simp only; omega)))⟩⟩ rfl rfl hl.1 rfl (lv_room (Nat.le_of_ble_eq_true rfl)) dX11_document_2 ⟨Nat.zero_le _, Nat.zero_le _⟩) hh_11.1 (fun q _ h => h) (fun q h => h) (fun r_13 u_12 t_12 H_12 locs_12 ht_12 hvm_12 hr_13 hb_12 hz_12 hk_12 hS_12 => ?_)
  rw [ht_12] at hb_12
  obtain ⟨hb_12, hbE_12⟩ := hb_12
  obtain ⟨hb_121, hb_122, hb_123, hb_124, hb_125⟩ := hb_12
  have hh_12 : jSt (dC, dI) B base G0 G0 EX11_documentW s.heap 0 0 [(r0, 13, 5, .ref kr_1), (kr_1, 7, 2, .ref s0_1), (r0, 13, 7, .ref op), (op, 1, 2, .int sz)] [] [(jFl, jLs dC dI ca G0 3 none wl_1), (jFcd, jCD dC dI ca G0 none tq_1), (jFkd, jKD dC dI ca G0 none kq_1), (jFHh, jHh dC dI ca G0 r0 ho_1), (jFun, jUN dC dI ca G0 0 us_1 rw_1), (jFqd, jQD dC dI ca G0 none qq_1), (jFib, jIB dC dI ca G0 0 ib_1), (jFhs, jHst dC dI ca G0 r0 s0_1)] H_12 locs_12 := (((hh_11.call hb_121 hb_122 hb_123 hb_124 hS_12 rfl (L1 := [(r0, 13, 5, .ref kr_1), (kr_1, 7, 2, .ref s0_1), (r0, 13, 7, .ref op), (op, 1, 2, .int sz)]) [0, 1, 2, 3] rfl rfl (M1 := []) [] rfl rfl (I1 := [(jFcd, jCD dC dI ca G0 none tq_1), (jFkd, jKD dC dI ca G0 none kq_1), (jFHh, jHh dC dI ca G0 r0 ho_1), (jFun, jUN dC dI ca G0 0 us_1 rw_1), (jFqd, jQD dC dI ca G0 none qq_1), (jFib, jIB dC dI ca G0 0 ib_1), (jFhs, jHst dC dI ca G0 r0 s0_1)]) [0, 1, 3, 4, 5, 6, 7] rfl rfl).more hb_125)).addIs hbE_12
  clear hh_11 ht_12 hvm_12 hz_12 hk_12 hS_12 hb_121 hb_122 hb_123 hb_124 hb_125
  clear  hbE_12
  obtain ⟨hr_13, hr_13p⟩ := hr_13
  have ho2 := hr_13p
  rcases hr_13 with rfl | ⟨ret_14, rfl, hg_ret_14⟩
  · skip
    refine j7_nst_n (lv' := [(3, .null), (0, .ref r0), (1, .int a1), (2, .int a2)]) hx hb dX11_document_5 rfl hl (by decide) rfl (fun ls hl => ?_)
    refine j7_nld_n hx hb dX11_document_6 rfl (lv_at hl 0 rfl) ?_
    refine lv_ifnonnullN hx hb dX11_document_7 ?_
    refine lv_iconst (v := (-1)) hx hb dX11_document_10 (by decide) ?_
    have hCf_15 : jCZ dC dI ca G0 r0 S9 Z9 H_12 := ⟨s0_1, tq_1, kq_1, wl_1, ho_1, us_1, rw_1, qq_1, ib_1, hh_12.iv 1 rfl, hh_12.iv 2 rfl, hh_12.iv 0 rfl, hh_12.iv 3 rfl, hh_12.iv 4 rfl, hh_12.iv 5 rfl, hh_12.iv 6 rfl, hh_12.iv 7 rfl, hCz_1⟩
    have hh_16 := hh_12.sub (L1 := [(r0, 13, 5, .ref kr_1), (kr_1, 7, 2, .ref s0_1), (r0, 13, 7, .ref op), (op, 1, 2, .int sz)]) [0, 1, 2, 3] rfl (M1 := []) [] rfl (I1 := []) [] rfl
    clear hh_12
    have hh_17 := hh_16.addI (jCZ.ie hCf_15)
    clear hh_16
    rw [hQ]
    exact W.iret (v := (-1)) hx hb hr (fun t ht hW => ⟨⟨(-1), (), rfl, by rw [hCz9.dn (jdOd.nul hCz9.1 ho2)]; exact hkm1, ⟨hh_17.rt (M1 := []) [] rfl ht, by rw [ht]; exact hh_17.2.2.2.2.2.2.2.2.sub (L1 := [(jFCZ, jCZ dC dI ca G0 r0 S9 Z9)]) [0] rfl⟩⟩, by rw [ht]; try exact hh_17.1.1, fun q h9 hq => by rw [ht]; try exact hh_17.1.2.1 q h9 hq⟩) hh_17.1.2.2 dX11_document_11
  · skip
    refine lv_astore_n (lv' := [(3, .ref ret_14), (0, .ref r0), (1, .int a1), (2, .int a2)]) hx hb dX11_document_5 rfl hl (by decide) rfl (fun ls hl => ?_)
    refine lv_aload_n hx hb dX11_document_6 rfl (lv_at hl 0 rfl) ?_
    refine lv_ifnonnull (tgt := 12) hx hb dX11_document_7 (by decide) ?_
    have ho9 := jdOd.rf ho2
    refine lv_iload_n hx hb dX11_document_12 rfl (lv_at hl 3 rfl) ?_
    rcases (by omega : (a2.toInt < 0 ∨ 3 < a2.toInt) ∨ a2.toInt = 0 ∨ a2.toInt = 1 ∨ a2.toInt = 2 ∨ a2.toInt = 3) with c_18 | c_18 | c_18 | c_18 | c_18
    · refine lv_tableOut (tgt := 64) hx hb dX11_document_13 c_18 (by decide) ?_
      refine lv_iconst (v := (-1)) hx hb dX11_document_64 (by decide) ?_
      have hCf_19 : jCZ dC dI ca G0 r0 S9 Z9 H_12 := ⟨s0_1, tq_1, kq_1, wl_1, ho_1, us_1, rw_1, qq_1, ib_1, hh_12.iv 1 rfl, hh_12.iv 2 rfl, hh_12.iv 0 rfl, hh_12.iv 3 rfl, hh_12.iv 4 rfl, hh_12.iv 5 rfl, hh_12.iv 6 rfl, hh_12.iv 7 rfl, hCz_1⟩
      have hh_20 := hh_12.sub (L1 := [(r0, 13, 5, .ref kr_1), (kr_1, 7, 2, .ref s0_1), (r0, 13, 7, .ref op), (op, 1, 2, .int sz)]) [0, 1, 2, 3] rfl (M1 := []) [] rfl (I1 := []) [] rfl
      clear hh_12
      have hh_21 := hh_20.addI (jCZ.ie hCf_19)
      clear hh_20
      rw [hQ]
      exact W.iret (v := (-1)) hx hb hr (fun t ht hW => ⟨⟨(-1), (), rfl, by rw [(hCz9.dy ho9.1 ho9.2.1 ho9.2.2).2.2.2.2 (by omega)]; exact hkm1, ⟨hh_21.rt (M1 := []) [] rfl ht, by rw [ht]; exact hh_21.2.2.2.2.2.2.2.2.sub (L1 := [(jFCZ, jCZ dC dI ca G0 r0 S9 Z9)]) [0] rfl⟩⟩, by rw [ht]; try exact hh_21.1.1, fun q h9 hq => by rw [ht]; try exact hh_21.1.2.1 q h9 hq⟩) hh_21.1.2.2 dX11_document_65
    · refine lv_tableIn (off := 31) (tgt := 44) hx hb dX11_document_13 (by omega) (by omega) (by rw [c_18]; rfl) (by decide) ?_
      obtain ⟨ut_22, uz_22, hgt_22, hgz_22, huP_22, huM_22, hul9_22⟩ := jCD.at (hh_12.iv 1 rfl) hg_ret_14 (fun q => by cases q)
      have hh_23 := ((hh_12.sub (L1 := [(r0, 13, 5, .ref kr_1), (kr_1, 7, 2, .ref s0_1), (r0, 13, 7, .ref op), (op, 1, 2, .int sz)]) [0, 1, 2, 3] rfl (M1 := []) [] rfl (I1 := [(jFl, jLs dC dI ca G0 3 none wl_1), (jFcd, jCD dC dI ca G0 none tq_1), (jFkd, jKD dC dI ca G0 none kq_1), (jFHh, jHh dC dI ca G0 r0 ho_1), (jFun, jUN dC dI ca G0 0 us_1 rw_1), (jFqd, jQD dC dI ca G0 none qq_1), (jFib, jIB dC dI ca G0 0 ib_1), (jFhs, jHst dC dI ca G0 r0 s0_1)]) [0, 1, 2, 3, 4, 5, 6, 7] rfl).more huP_22).moreM huM_22
      clear hh_12
      refine lv_aload_n hx hb dX11_document_44 rfl (lv_at hl 0 rfl) ?_
      refine j7_read hx hb hown hK (C := RX1) (T := TX1) (N := 17) rfl hly_3_1 hlk_162 (hh_23.at 1 rfl) dX11_document_45 ?_
      have hCf_24 : jCZ dC dI ca G0 r0 S9 Z9 H_12 := ⟨s0_1, tq_1, kq_1, wl_1, ho_1, us_1, rw_1, qq_1, ib_1, hh_23.iv 1 rfl, hh_23.iv 2 rfl, hh_23.iv 0 rfl, hh_23.iv 3 rfl, hh_23.iv 4 rfl, hh_23.iv 5 rfl, hh_23.iv 6 rfl, hh_23.iv 7 rfl, hCz_1⟩
      have hh_25 := hh_23.sub (L1 := [(ret_14, 3, 2, .ref ut_22), (ret_14, 3, 1, .int (tq_1.ve ret_14)), (ret_14, 3, 3, .int (tq_1.ln ret_14)), (ret_14, 3, 0, .ref uz_22), (r0, 13, 5, .ref kr_1), (kr_1, 7, 2, .ref s0_1), (r0, 13, 7, .ref op), (op, 1, 2, .int sz)]) [0, 1, 2, 3, 4, 5, 6, 7] rfl (M1 := [(ut_22, 173, 1500, ca 1, (tq_1.tx ret_14)), (uz_22, 174, (tq_1.ul ret_14), ca 1, (tq_1.ux ret_14))]) [0, 1] rfl (I1 := []) [] rfl
      clear hh_23
      have hh_26 := hh_25.addI (jCZ.ie hCf_24)
      clear hh_25
      rw [hQ]
      exact W.iret (v := (tq_1.ve ret_14)) hx hb hr (fun t ht hW => ⟨⟨(tq_1.ve ret_14), (), rfl, by rw [(hCz9.dy ho9.1 ho9.2.1 ho9.2.2).1 (by omega)], ⟨hh_26.rt (M1 := []) [] rfl ht, by rw [ht]; exact hh_26.2.2.2.2.2.2.2.2.sub (L1 := [(jFCZ, jCZ dC dI ca G0 r0 S9 Z9)]) [0] rfl⟩⟩, by rw [ht]; try exact hh_26.1.1, fun q h9 hq => by rw [ht]; try exact hh_26.1.2.1 q h9 hq⟩) hh_26.1.2.2 dX11_document_48
    · refine lv_tableIn (off := 36) (tgt := 49) hx hb dX11_document_13 (by omega) (by omega) (by rw [c_18]; rfl) (by decide) ?_
      obtain ⟨ut_27, uz_27, hgt_27, hgz_27, huP_27, huM_27, hul9_27⟩ := jCD.at (hh_12.iv 1 rfl) hg_ret_14 (fun q => by cases q)
      have hh_28 := ((hh_12.sub (L1 := [(r0, 13, 5, .ref kr_1), (kr_1, 7, 2, .ref s0_1), (r0, 13, 7, .ref op), (op, 1, 2, .int sz)]) [0, 1, 2, 3] rfl (M1 := []) [] rfl (I1 := [(jFl, jLs dC dI ca G0 3 none wl_1), (jFcd, jCD dC dI ca G0 none tq_1), (jFkd, jKD dC dI ca G0 none kq_1), (jFHh, jHh dC dI ca G0 r0 ho_1), (jFun, jUN dC dI ca G0 0 us_1 rw_1), (jFqd, jQD dC dI ca G0 none qq_1), (jFib, jIB dC dI ca G0 0 ib_1), (jFhs, jHst dC dI ca G0 r0 s0_1)]) [0, 1, 2, 3, 4, 5, 6, 7] rfl).more huP_27).moreM huM_27
      clear hh_12
      refine lv_aload_n hx hb dX11_document_49 rfl (lv_at hl 0 rfl) ?_
      refine j7_read hx hb hown hK (C := RX1) (T := TX1) (N := 17) rfl hly_3_3 hlk_165 (hh_28.at 2 rfl) dX11_document_50 ?_
      have hCf_29 : jCZ dC dI ca G0 r0 S9 Z9 H_12 := ⟨s0_1, tq_1, kq_1, wl_1, ho_1, us_1, rw_1, qq_1, ib_1, hh_28.iv 1 rfl, hh_28.iv 2 rfl, hh_28.iv 0 rfl, hh_28.iv 3 rfl, hh_28.iv 4 rfl, hh_28.iv 5 rfl, hh_28.iv 6 rfl, hh_28.iv 7 rfl, hCz_1⟩
      have hh_30 := hh_28.sub (L1 := [(ret_14, 3, 2, .ref ut_27), (ret_14, 3, 1, .int (tq_1.ve ret_14)), (ret_14, 3, 3, .int (tq_1.ln ret_14)), (ret_14, 3, 0, .ref uz_27), (r0, 13, 5, .ref kr_1), (kr_1, 7, 2, .ref s0_1), (r0, 13, 7, .ref op), (op, 1, 2, .int sz)]) [0, 1, 2, 3, 4, 5, 6, 7] rfl (M1 := [(ut_27, 173, 1500, ca 1, (tq_1.tx ret_14)), (uz_27, 174, (tq_1.ul ret_14), ca 1, (tq_1.ux ret_14))]) [0, 1] rfl (I1 := []) [] rfl
      clear hh_28
      have hh_31 := hh_30.addI (jCZ.ie hCf_29)
      clear hh_30
      rw [hQ]
      exact W.iret (v := (tq_1.ln ret_14)) hx hb hr (fun t ht hW => ⟨⟨(tq_1.ln ret_14), (), rfl, by rw [(hCz9.dy ho9.1 ho9.2.1 ho9.2.2).2.1 (by omega)], ⟨hh_31.rt (M1 := []) [] rfl ht, by rw [ht]; exact hh_31.2.2.2.2.2.2.2.2.sub (L1 := [(jFCZ, jCZ dC dI ca G0 r0 S9 Z9)]) [0] rfl⟩⟩, by rw [ht]; try exact hh_31.1.1, fun q h9 hq => by rw [ht]; try exact hh_31.1.2.1 q h9 hq⟩) hh_31.1.2.2 dX11_document_53
    · refine lv_tableIn (off := 41) (tgt := 54) hx hb dX11_document_13 (by omega) (by omega) (by rw [c_18]; rfl) (by decide) ?_
      obtain ⟨ysb_32, yse_32, ysc_32, ybh_32, hgsb_32, hgse_32, hgsc_32, hgbh_32, hgP_32, hgM_32, hqbh_32⟩ := jKD.at (ca := ca) (hh_12.iv 2 rfl) hg_ret_14 (fun q => by cases q)
      have hh_33 := ((hh_12.sub (L1 := [(r0, 13, 5, .ref kr_1), (kr_1, 7, 2, .ref s0_1), (r0, 13, 7, .ref op), (op, 1, 2, .int sz)]) [0, 1, 2, 3] rfl (M1 := []) [] rfl (I1 := [(jFl, jLs dC dI ca G0 3 none wl_1), (jFcd, jCD dC dI ca G0 none tq_1), (jFkd, jKD dC dI ca G0 none kq_1), (jFHh, jHh dC dI ca G0 r0 ho_1), (jFun, jUN dC dI ca G0 0 us_1 rw_1), (jFqd, jQD dC dI ca G0 none qq_1), (jFib, jIB dC dI ca G0 0 ib_1), (jFhs, jHst dC dI ca G0 r0 s0_1)]) [0, 1, 2, 3, 4, 5, 6, 7] rfl).more (hgP_32.sub (L1 := [(ret_14, 3, 5, .ref ysb_32), (ret_14, 3, 6, .ref yse_32), (ret_14, 3, 7, .ref ysc_32), (ret_14, 3, 9, .ref ybh_32), (ret_14, 3, 4, .int (kq_1.sn ret_14)), (ret_14, 3, 10, .int (kq_1.ck ret_14)), (ret_14, 3, 13, .int (kq_1.lf ret_14)), (ret_14, 3, 11, (kq_1.cv ret_14)), (ret_14, 3, 12, (kq_1.fv ret_14))]) [0, 1, 2, 3, 4, 5, 6, 7, 8] rfl)).moreM hgM_32
      clear hh_12
      have hh_34 := hh_33.addI (jQc.ie hqbh_32 hgbh_32 (by decide) (by decide))
      clear hh_33
      refine lv_aload_n hx hb dX11_document_54 rfl (lv_at hl 0 rfl) ?_
      refine j7_read hx hb hown hK (C := RX1) (T := TX1) (N := 17) rfl hly_3_4 hlk_168 (hh_34.at 4 rfl) dX11_document_55 ?_
      have hCf_35 : jCZ dC dI ca G0 r0 S9 Z9 H_12 := ⟨s0_1, tq_1, kq_1, wl_1, ho_1, us_1, rw_1, qq_1, ib_1, hh_34.iv 2 rfl, hh_34.iv 3 rfl, hh_34.iv 1 rfl, hh_34.iv 4 rfl, hh_34.iv 5 rfl, hh_34.iv 6 rfl, hh_34.iv 7 rfl, hh_34.iv 8 rfl, hCz_1⟩
      have hh_36 := hh_34.sub (L1 := [(ret_14, 3, 5, .ref ysb_32), (ret_14, 3, 6, .ref yse_32), (ret_14, 3, 7, .ref ysc_32), (ret_14, 3, 9, .ref ybh_32), (ret_14, 3, 4, .int (kq_1.sn ret_14)), (ret_14, 3, 10, .int (kq_1.ck ret_14)), (ret_14, 3, 13, .int (kq_1.lf ret_14)), (ret_14, 3, 11, (kq_1.cv ret_14)), (ret_14, 3, 12, (kq_1.fv ret_14)), (r0, 13, 5, .ref kr_1), (kr_1, 7, 2, .ref s0_1), (r0, 13, 7, .ref op), (op, 1, 2, .int sz)]) [0, 1, 2, 3, 4, 5, 6, 7, 8, 9, 10, 11, 12] rfl (M1 := [(ysb_32, 171, 40, ca 1, (kq_1.sb ret_14)), (yse_32, 172, 40, ca 1, (kq_1.se ret_14)), (ysc_32, 176, 40, ca 1, (kq_1.sc ret_14))]) [0, 1, 2] rfl (I1 := [([(210, 0)], jQc dC dI (ca 6) ybh_32 40 (kq_1.bh ret_14))]) [0] rfl
      clear hh_34
      have hh_37 := hh_36.addI (jCZ.ie hCf_35)
      clear hh_36
      rw [hQ]
      exact W.iret (v := (kq_1.sn ret_14)) hx hb hr (fun t ht hW => ⟨⟨(kq_1.sn ret_14), (), rfl, by rw [(hCz9.dy ho9.1 ho9.2.1 ho9.2.2).2.2.1 (by omega)], ⟨hh_37.rt (M1 := []) [] rfl ht, by rw [ht]; exact hh_37.2.2.2.2.2.2.2.2.sub (L1 := [(jFCZ, jCZ dC dI ca G0 r0 S9 Z9)]) [0] rfl⟩⟩, by rw [ht]; try exact hh_37.1.1, fun q h9 hq => by rw [ht]; try exact hh_37.1.2.1 q h9 hq⟩) hh_37.1.2.2 dX11_document_58
    · refine lv_tableIn (off := 46) (tgt := 59) hx hb dX11_document_13 (by omega) (by omega) (by rw [c_18]; rfl) (by decide) ?_
      obtain ⟨ysb_38, yse_38, ysc_38, ybh_38, hgsb_38, hgse_38, hgsc_38, hgbh_38, hgP_38, hgM_38, hqbh_38⟩ := jKD.at (ca := ca) (hh_12.iv 2 rfl) hg_ret_14 (fun q => by cases q)
      have hh_39 := ((hh_12.sub (L1 := [(r0, 13, 5, .ref kr_1), (kr_1, 7, 2, .ref s0_1), (r0, 13, 7, .ref op), (op, 1, 2, .int sz)]) [0, 1, 2, 3] rfl (M1 := []) [] rfl (I1 := [(jFl, jLs dC dI ca G0 3 none wl_1), (jFcd, jCD dC dI ca G0 none tq_1), (jFkd, jKD dC dI ca G0 none kq_1), (jFHh, jHh dC dI ca G0 r0 ho_1), (jFun, jUN dC dI ca G0 0 us_1 rw_1), (jFqd, jQD dC dI ca G0 none qq_1), (jFib, jIB dC dI ca G0 0 ib_1), (jFhs, jHst dC dI ca G0 r0 s0_1)]) [0, 1, 2, 3, 4, 5, 6, 7] rfl).more (hgP_38.sub (L1 := [(ret_14, 3, 5, .ref ysb_38), (ret_14, 3, 6, .ref yse_38), (ret_14, 3, 7, .ref ysc_38), (ret_14, 3, 9, .ref ybh_38), (ret_14, 3, 4, .int (kq_1.sn ret_14)), (ret_14, 3, 10, .int (kq_1.ck ret_14)), (ret_14, 3, 13, .int (kq_1.lf ret_14)), (ret_14, 3, 11, (kq_1.cv ret_14)), (ret_14, 3, 12, (kq_1.fv ret_14))]) [0, 1, 2, 3, 4, 5, 6, 7, 8] rfl)).moreM hgM_38
      clear hh_12
      have hh_40 := hh_39.addI (jQc.ie hqbh_38 hgbh_38 (by decide) (by decide))
      clear hh_39
      refine lv_aload_n hx hb dX11_document_59 rfl (lv_at hl 0 rfl) ?_
      refine j7_read hx hb hown hK (C := RX1) (T := TX1) (N := 17) rfl hly_3_10 hlk_171 (hh_40.at 5 rfl) dX11_document_60 ?_
      have hCf_41 : jCZ dC dI ca G0 r0 S9 Z9 H_12 := ⟨s0_1, tq_1, kq_1, wl_1, ho_1, us_1, rw_1, qq_1, ib_1, hh_40.iv 2 rfl, hh_40.iv 3 rfl, hh_40.iv 1 rfl, hh_40.iv 4 rfl, hh_40.iv 5 rfl, hh_40.iv 6 rfl, hh_40.iv 7 rfl, hh_40.iv 8 rfl, hCz_1⟩
      have hh_42 := hh_40.sub (L1 := [(ret_14, 3, 5, .ref ysb_38), (ret_14, 3, 6, .ref yse_38), (ret_14, 3, 7, .ref ysc_38), (ret_14, 3, 9, .ref ybh_38), (ret_14, 3, 4, .int (kq_1.sn ret_14)), (ret_14, 3, 10, .int (kq_1.ck ret_14)), (ret_14, 3, 13, .int (kq_1.lf ret_14)), (ret_14, 3, 11, (kq_1.cv ret_14)), (ret_14, 3, 12, (kq_1.fv ret_14)), (r0, 13, 5, .ref kr_1), (kr_1, 7, 2, .ref s0_1), (r0, 13, 7, .ref op), (op, 1, 2, .int sz)]) [0, 1, 2, 3, 4, 5, 6, 7, 8, 9, 10, 11, 12] rfl (M1 := [(ysb_38, 171, 40, ca 1, (kq_1.sb ret_14)), (yse_38, 172, 40, ca 1, (kq_1.se ret_14)), (ysc_38, 176, 40, ca 1, (kq_1.sc ret_14))]) [0, 1, 2] rfl (I1 := [([(210, 0)], jQc dC dI (ca 6) ybh_38 40 (kq_1.bh ret_14))]) [0] rfl
      clear hh_40
      have hh_43 := hh_42.addI (jCZ.ie hCf_41)
      clear hh_42
      rw [hQ]
      exact W.iret (v := (kq_1.ck ret_14)) hx hb hr (fun t ht hW => ⟨⟨(kq_1.ck ret_14), (), rfl, by rw [(hCz9.dy ho9.1 ho9.2.1 ho9.2.2).2.2.2.1 (by omega)], ⟨hh_43.rt (M1 := []) [] rfl ht, by rw [ht]; exact hh_43.2.2.2.2.2.2.2.2.sub (L1 := [(jFCZ, jCZ dC dI ca G0 r0 S9 Z9)]) [0] rfl⟩⟩, by rw [ht]; try exact hh_43.1.1, fun q h9 hq => by rw [ht]; try exact hh_43.1.2.1 q h9 hq⟩) hh_43.1.2.2 dX11_document_63
end
