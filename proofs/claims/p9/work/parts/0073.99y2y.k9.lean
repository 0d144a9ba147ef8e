section
def EX0_quotedu9 : List (Nat × Nat) := [(2, 0), (2, 1), (196, 0)]
set_option maxHeartbeats 4000000 in
set_option maxRecDepth 20000 in
theorem uX0_quotedu9 (l : Launch) (dC : Nat → ClassId) (dI : Nat → Nat → Nat) (ca : Nat → ClassId) (base : Nat) (B : jF) (hB : jBok B) (hAp : jAp (dC, dI)) (hB2 : ∀ n G a H, B 2 n G a H ↔ jOb (dC, dI) 2 2 (F2 n G) a H) (hB174 : ∀ n G a H, B 174 n G a H ↔ jAr (dC, dI) (ca 1) (fun j z => True) n a H) (hB196 : ∀ n G a H, B 196 n G a H ↔ jAr (dC, dI) (ca 0) (fun j z => jBf j z) n a H) (G0 : jT) (H0 : Heap) (r0 : Nat) (r1 : Nat) (a2 : Int32) (a3 : Int32) (n1 : Nat) (pc : Int32) (pa : Nat) (n_pa : Nat) (LC LS : Nat) : Met l yX0_quoted (jw yX0_quoted cX0_quoted 7 none) ({ frames := 5, cells := LC - H0.size, slots := LS - jTot H0, locals := 163 }) (va_Pc [.ref r0, .ref r1, .int a2, .int a3] (fun U => U.heap = H0 ∧ jX B base G0 [] H0 ∧ jG dC dI ca base U ∧ G0 r0 = some (2, 0) ∧ G0 r1 = some (174, n1) ∧ G0 pa = some (196, n_pa) ∧ jP (dC, dI) G0 H0 [(r0, 2, 1, .int pc), (r0, 2, 0, .ref pa)] ∧ H0.size + (1048576 - n_pa) / 16 + 1 ≤ LC ∧ jTot H0 + 2 * (1048576 - n_pa) ≤ LS ∧ 0 ≤ pc.toInt ∧ pc.toInt ≤ n_pa ∧ 16 ≤ n_pa ∧ n_pa ≤ 1048576 ∧ jPw n_pa ∧ n1 ≤ 3000 ∧ 0 ≤ a2.toInt ∧ a2.toInt ≤ 3000 ∧ 0 ≤ a3.toInt ∧ a3.toInt ≤ 3000)) (va_Qv (S := Int32 × Nat × Nat × jT) (fun u => 0 ≤ u.1.toInt ∧ u.1.toInt ≤ u.2.2.1 ∧ n_pa ≤ u.2.2.1 ∧ u.2.2.1 ≤ 1048576 ∧ jPw u.2.2.1) (fun u t => jRa (dC, dI) B base G0 u.2.2.2 EX0_quotedu9 H0 ((u.2.2.1 - n_pa) / 16) (2 * (u.2.2.1 - n_pa)) [(r0, 2, 1, .int u.1), (r0, 2, 0, .ref u.2.1)] t.heap ∧ u.2.2.2 u.2.1 = some (196, u.2.2.1) ∧ (jNk [0, 1, 2, 3, 4, 5, 6, 7, 8, 9, 10, 11, 12, 13, 14, 15, 16]) G0 u.2.2.2 ∧ jOw (dC, dI) G0 2 r0 H0 t.heap) (jA base)) (LC - H0.size) (LS - jTot H0) (jA base) := by
  refine Met.ofW (cc := cX0_quoted) (maxL := 7) (ret := none) (by decide) rfl ?_
  intro p e s m args below meth c s₁ Bd hml hv
  obtain ⟨rfl, hH0, hX, hG, hg_r0, hg_r1, hg_pa, hP0, hLC0, hLS0, hp0, hp1, hp2, hp3, hp4, hp5, hp6, hp7, hp8, hp9⟩ := hv
  have hK := hG.1
  have hx := Bd.exec
  have hb := Bd.bytes
  have hr := Bd.returns
  have hts := atoms_spec (ws := (jw yX0_quoted cX0_quoted 7 none)) Bd.pre
  have htw : ∀ w ∈ jWl, w.before _ s = true := fun w h => hts w (List.mem_cons_of_mem _ h)
  have hown : s.vm.findClass RX0 = some m.cls := findClass_of_methodNamed Bd.named
  have hlocks := Bd.notSynchronized
  obtain ⟨Q, hQ⟩ : ∃ Q, Q = MQ below (va_Qv (S := Int32 × Nat × Nat × jT) (fun u => 0 ≤ u.1.toInt ∧ u.1.toInt ≤ u.2.2.1 ∧ n_pa ≤ u.2.2.1 ∧ u.2.2.1 ≤ 1048576 ∧ jPw u.2.2.1) (fun u t => jRa (dC, dI) B base G0 u.2.2.2 EX0_quotedu9 H0 ((u.2.2.1 - n_pa) / 16) (2 * (u.2.2.1 - n_pa)) [(r0, 2, 1, .int u.1), (r0, 2, 0, .ref u.2.1)] t.heap ∧ u.2.2.2 u.2.1 = some (196, u.2.2.1) ∧ (jNk [0, 1, 2, 3, 4, 5, 6, 7, 8, 9, 10, 11, 12, 13, 14, 15, 16]) G0 u.2.2.2 ∧ jOw (dC, dI) G0 2 r0 H0 t.heap) (jA base)) ([.ref r0, .ref r1, .int a2, .int a3] : List Value).toArray s (LC - H0.size) (LS - jTot H0) (jA base) := ⟨_, rfl⟩
  rw [← hQ]
  have hl := lv_entry ([.ref r0, .ref r1, .int a2, .int a3]) (n := 7) (Nat.le_of_ble_eq_true rfl)
  rw [lg_entry_eq]
  generalize (lg_sl ([.ref r0, .ref r1, .int a2, .int a3]) ++ List.replicate (7 - (lg_sl ([.ref r0, .ref r1, .int a2, .int a3])).length) Slot.unset).toArray = ls at hl ⊢
  have hl : lv_has ls 7 [(0, .ref r0), (1, .ref r1), (2, .int a2), (3, .int a3)] := hl
  generalize hR : (headSpec (jw yX0_quoted cX0_quoted 7 none) ({ frames := 5, cells := LC - H0.size, slots := LS - jTot H0, locals := 163 })).room = R
  subst hH0
  have hh : jSt (dC, dI) B base G0 G0 EX0_quotedu9 s.heap 0 0 [(r0, 2, 1, .int pc), (r0, 2, 0, .ref pa)] [] [] s.heap [] := jSt.start hX hP0 jMc.nil jIs.nil
  clear hX hP0
  have hk0 : (0 : Int32).toInt = 0 := by decide
  have hk1 : (1 : Int32).toInt = 1 := by decide
  have hk4 : (4 : Int32).toInt = 4 := by decide
  have hk10 : (10 : Int32).toInt = 10 := by decide
  have hk15 : (15 : Int32).toInt = 15 := by decide
  have hk32 : (32 : Int32).toInt = 32 := by decide
  have hk34 : (34 : Int32).toInt = 34 := by decide
  have hk48 : (48 : Int32).toInt = 48 := by decide
  have hk92 : (92 : Int32).toInt = 92 := by decide
  have hk97 : (97 : Int32).toInt = 97 := by decide
  have hk55296 : (55296 : Int32).toInt = 55296 := by decide
  have hk56320 : (56320 : Int32).toInt = 56320 := by decide
  have hk65533 : (65533 : Int32).toInt = 65533 := by decide
  have hk65536 : (65536 : Int32).toInt = 65536 := by decide
  have hcs_60 := htw (.constant RX0 60 65536) (jWr_20 _ (List.mem_of_getElem? (i := 15) rfl))
  have hcs_61 := htw (.constant RX0 61 55296) (jWr_20 _ (List.mem_of_getElem? (i := 17) rfl))
  have hcs_62 := htw (.constant RX0 62 56320) (jWr_21 _ (List.mem_of_getElem? (i := 12) rfl))
  have hcs_66 := htw (.constant RX0 66 65533) (jWr_25 _ (List.mem_of_getElem? (i := 14) rfl))
  obtain ⟨str67, rstr67, hstr670⟩ := hG.str (o := RX0) (k := 67) (tx := "\\u00") (List.mem_of_getElem? (i := 790) (by decide +kernel))
  have hstr67 : jStr base str67 4 s s.heap := hstr670
  have hrg_a2 := jb_rng a2
  have hrg_a3 := jb_rng a3
  have hbs : base ≤ s.heap.size := Nat.le_of_lt (Nat.lt_of_le_of_lt (hh.ab hg_r0).1 (hh.ab hg_r0).2)
  have hRc : R.cells = LC - s.heap.size := by rw [← hR]; rfl
  have hRs : R.slots = LS - jTot s.heap := by rw [← hR]; rfl
  have hh_1 := hh.addI (jOw.ie (dC := dC) (dI := dI) (G0 := G0) (k := 2) (r := r0) (H0 := s.heap) (F := [(2, 0), (2, 1)]) (C := RX0) (T := TX0) (N := 2) rfl (by decide) hh.2.2.2.2.1 (jOw.rf))
  clear hh
  refine lv_aload_n hx hb dX0_quoted_0 rfl (lv_at hl 0 rfl) ?_
  refine lv_bipush (v := 34) hx hb dX0_quoted_1 (by decide) ?_
  have hsz_2 := hh_1.2.2.2.2.2.1
  have htt_2 := hh_1.2.2.2.2.2.2.1
  refine W.room (fun hrc_2 hrs_2 => ?_)
  refine va_callv (A0 := jA base) (H0 := s.heap) (va_runV (As := [.int 34]) (rest := []) ⟨hx, hb, hml, hown, hts⟩ (uX0_put l dC dI ca base B hB hAp hB2 hB196 G0 s.heap r0 34 pc pa n_pa LC LS) (cwV 1 hts (jgV (jWr_24 _ (List.mem_of_getElem? (i := 22) rfl)) (jWr_16 _ (List.mem_of_getElem? (i := 0) rfl)) (jWr_16 _ (List.mem_of_getElem? (i := 1) rfl)) (jWr_1 _ (List.mem_of_getElem? (i := 14) rfl)) (jWr_16 _ (List.mem_of_getElem? (i := 2) rfl))) rfl rfl rfl (by decide +kernel) ⟨by rw [← hR]; exact Nat.le_of_ble_eq_true rfl, by rw [← hR]; exact Nat.le_of_ble_eq_true rfl⟩) ⟨fun a U g mk q => by obtain ⟨q0, q1, q2, qK, q10, q11, q12, q13⟩ := q; exact ⟨q0, q1, q2, jG.calling g mk a qK, q10, q11, q12, q13⟩, hh_1.recv (C := RX0) (T := TX0) (N := 2) hB2 rfl (by decide) hg_r0 hK, fun U hU hW => ⟨rfl, hU, hh_1.2.1, hG.step hW hU hh_1.1, hg_r0, hg_pa, (hh_1.2.2.1.sub (L1 := [(r0, 2, 1, .int pc), (r0, 2, 0, .ref pa)]) [0, 1] rfl), (by omega), (by omega), ⟨(by first | omega | rfl | assumption | fail), (by first | omega | rfl | assumption | fail), (by first | omega | rfl | assumption | fail), (by first | omega | rfl | assumption | fail), (by first | assumption | fail | omega)⟩⟩⟩ rfl rfl hl.1 rfl (lv_room (Nat.le_of_ble_eq_true rfl)) dX0_quoted_3 ⟨by rw [hRc]; omega, by rw [hRs]; omega⟩) hh_1.1 (fun q _ h => h) (fun q h => h) (fun u_2 t_2 H_2 locs_2 ht_2 hvm_2 hr_3 hb_2 hz_2 hk_2 hS_2 => ?_)
  obtain ⟨qc_2, qa_2, m_qa_2, G_2⟩ := u_2
  rw [ht_2] at hb_2
  simp only at hb_2
  obtain ⟨⟨hb_21, hb_22, hb_23, hb_24, hb_25, hb_26⟩, hgq_2_0, hN_2, hbO_2⟩ := hb_2
  have hh_2 : jSt (dC, dI) B base G0 G_2 EX0_quotedu9 s.heap (0 + ((m_qa_2 - n_pa) / 16)) (0 + (2 * (m_qa_2 - n_pa))) [(r0, 2, 1, .int qc_2), (r0, 2, 0, .ref qa_2)] [] [] H_2 locs_2 := (hh_1.callG hb_21 hb_22 hb_23 hb_24 hb_25 hS_2 rfl (L1 := []) [] rfl rfl (M1 := []) [] rfl rfl (I1 := []) [] rfl rfl).more hb_26
  have hNn_2 : (jNk [0, 1, 2, 3, 4, 5, 6, 7, 8, 9, 10, 11, 12, 13, 14, 15, 16]) G0 G_2 := (jNk.rf).tr hN_2
  have hg_4 := hb_22 _ _ hg_r0
  have hg_5 := hb_22 _ _ hg_r1
  have hd_6 := jOw.tr (hh_1.iv 0 rfl) hh_1.2.2.2.2.1 hbO_2
  have hh_7 := hh_2.addI (jOw.ie (dC := dC) (dI := dI) (G0 := G0) (k := 2) (r := r0) (H0 := s.heap) (F := [(2, 0), (2, 1)]) (C := RX0) (T := TX0) (N := 2) rfl (by decide) hh_2.2.2.2.2.1 (hd_6))
  clear hh_2
  try simp only at hr_3
  obtain ⟨hr_3_0, hr_3_1, hr_3_2, hr_3_3, hr_3_4⟩ := hr_3
  have hh_8 := hh_7.wk (zc1 := (m_qa_2 - n_pa) / 16) (zs1 := 2 * (m_qa_2 - n_pa)) (by omega) (by omega)
  clear hh_7
  try clear hsz_2 htt_2 hrc_2 hrs_2
  try clear hb_24 hb_25
  refine lv_iload_n hx hb dX0_quoted_6 rfl (lv_at hl 2 rfl) ?_
  refine lv_iload_n hx hb dX0_quoted_7 rfl (lv_at hl 3 rfl) ?_
  refine lv_iadd hx hb dX0_quoted_8 ?_
  refine lv_topi (fun z_9 ez_9 => ?_)
  have hz_9 : z_9.toInt = a2.toInt + a3.toInt := by rw [ez_9]; exact jb_iadd2 (rfl) (rfl) (by omega)
  refine lv_aload_n hx hb dX0_quoted_9 rfl (lv_at hl 1 rfl) ?_
  refine j7_len hx hb hK hh_8 hB174 1 rfl (by decide) hg_5 (by omega) dX0_quoted_10 (fun z_10 hz_10 => ?_)
  have hsz_11 := hh_8.2.2.2.2.2.1
  have htt_11 := hh_8.2.2.2.2.2.2.1
  refine W.room (fun hrc_11 hrs_11 => ?_)
  refine va_mmin hx hb (by rw [hml]; exact hl.1.symm) hown (htw (.methodLink RX0 50 Lib.Math.min.name) (jWr_25 _ (List.mem_of_getElem? (i := 13) rfl))) (htw (.static Lib.Math.min.name) (jWr_16 _ (List.mem_of_getElem? (i := 16) rfl))) (htw (.initialized "java/lang/Math") (jWr_3 _ (List.mem_of_getElem? (i := 7) rfl))) (htw (.code Lib.Math.min.name Lib.Math.min.code 2 (some .int)) (jWr_16 _ (List.mem_of_getElem? (i := 17) rfl))) (by rw [← hR]; exact Nat.le_of_ble_eq_true rfl) (by rw [← hR]; exact Nat.le_of_ble_eq_true rfl) (by rw [hRc]; omega) (by rw [hRs]; omega) dX0_quoted_11 ?_
  refine lv_topi (fun z_12 ez_12 => ?_)
  have hz_12 := jb_min ez_12
  refine lv_istore (lv' := [(4, .int z_12), (0, .ref r0), (1, .ref r1), (2, .int a2), (3, .int a3)]) hx hb dX0_quoted_14 hl (by decide) rfl (fun ls hl => ?_)
  refine lv_iload_n hx hb dX0_quoted_16 rfl (lv_at hl 3 rfl) ?_
  refine lv_iconst (v := 0) hx hb dX0_quoted_17 (by decide) ?_
  have hsz_13 := hh_8.2.2.2.2.2.1
  have htt_13 := hh_8.2.2.2.2.2.2.1
  refine W.room (fun hrc_13 hrs_13 => ?_)
  refine va_mmax hx hb (by rw [hml]; exact hl.1.symm) hown (htw (.methodLink RX0 7 Lib.Math.max.name) (jWr_3 _ (List.mem_of_getElem? (i := 5) rfl))) (htw (.static Lib.Math.max.name) (jWr_3 _ (List.mem_of_getElem? (i := 6) rfl))) (htw (.initialized "java/lang/Math") (jWr_3 _ (List.mem_of_getElem? (i := 7) rfl))) (htw (.code Lib.Math.max.name Lib.Math.max.code 2 (some .int)) (jWr_3 _ (List.mem_of_getElem? (i := 8) rfl))) (by rw [← hR]; exact Nat.le_of_ble_eq_true rfl) (by rw [← hR]; exact Nat.le_of_ble_eq_true rfl) (by rw [hRc]; omega) (by rw [hRs]; omega) dX0_quoted_18 ?_
  refine lv_topi (fun z_14 ez_14 => ?_)
  have hz_14 := jb_max ez_14
  refine lv_istore (lv' := [(5, .int z_14), (4, .int z_12), (0, .ref r0), (1, .ref r1), (2, .int a2), (3, .int a3)]) hx hb dX0_quoted_21 hl (by decide) rfl (fun ls hl => ?_)
  have L23 : ∀ (N : Nat) (Gx_15 : jT) (zcx_15 : Nat) (zsx_15 : Nat) (v5_15 : Int32) (wc_15 : Int32) (wr_15 : Nat) (m_wr_15 : Nat) (H_15 : Heap) (locs_15 : List Loc), jSt (dC, dI) B base G0 Gx_15 EX0_quotedu9 s.heap zcx_15 zsx_15 [(r0, 2, 1, .int wc_15), (r0, 2, 0, .ref wr_15)] [] [([(2, 0), (2, 1)], jOw (dC, dI) G0 2 r0 s.heap)] H_15 locs_15 → (jNk [0, 1, 2, 3, 4, 5, 6, 7, 8, 9, 10, 11, 12, 13, 14, 15, 16]) G0 Gx_15 → jLe G_2 Gx_15 → Gx_15 wr_15 = some (196, m_wr_15) → (0 ≤ wc_15.toInt ∧ wc_15.toInt ≤ m_wr_15 ∧ n_pa ≤ m_wr_15 ∧ m_wr_15 ≤ 1048576 ∧ jPw m_wr_15 ∧ zcx_15 ≤ (m_wr_15 - n_pa) / 16 ∧ zsx_15 ≤ 2 * (m_wr_15 - n_pa) ∧ 0 ≤ v5_15.toInt ∧ v5_15.toInt ≤ 3001) → (((z_12.toInt - v5_15.toInt).toNat : Int) : Int) < N → ∀ ls : Array Slot, lv_has ls 7 [(0, .ref r0), (1, .ref r1), (2, .int a2), (3, .int a3), (4, .int z_12), (5, .int v5_15)] → W p l e R s m ([.ref r0, .ref r1, .int a2, .int a3] : List Value).toArray below meth c H_15 locs_15 zcx_15 zsx_15 Q (F0 m 23 ls []) := by
    intro N
    induction N with
    | zero => intro Gx_15 zcx_15 zsx_15 v5_15 wc_15 wr_15 m_wr_15 H_15 locs_15 hh_15 hN_15 hle_15 hg_wr_15 hi_15 hm; exact absurd hm (by omega)
    | succ N L23 =>
      intro Gx_15 zcx_15 zsx_15 v5_15 wc_15 wr_15 m_wr_15 H_15 locs_15 hh_15 hN_15 hle_15 hg_wr_15 hi_15 hm_15 ls hl
      have hg_16 := hle_15 _ _ hg_4
      have hg_17 := hle_15 _ _ hg_5
      obtain ⟨hi_15_0, hi_15_1, hi_15_2, hi_15_3, hi_15_4, hi_15_5, hi_15_6, hi_15_7, hi_15_8⟩ := hi_15
      refine lv_iload hx hb dX0_quoted_23 (lv_at hl 5 rfl) ?_
      refine lv_iload hx hb dX0_quoted_25 (lv_at hl 4 rfl) ?_
      refine lv_icmp_ge (tgt := 214) hx hb dX0_quoted_27 (by decide) (fun c_18 => ?_) (fun c_18 => ?_)
      · skip
        have c_18' : v5_15.toInt ≥ z_12.toInt := jb_ge (rfl) (rfl) c_18
        refine lv_aload_n hx hb dX0_quoted_214 rfl (lv_at hl 0 rfl) ?_
        refine lv_bipush (v := 34) hx hb dX0_quoted_215 (by decide) ?_
        have hsz_19 := hh_15.2.2.2.2.2.1
        have htt_19 := hh_15.2.2.2.2.2.2.1
        refine W.room (fun hrc_19 hrs_19 => ?_)
        refine va_callv (A0 := jA base) (H0 := s.heap) (va_runV (As := [.int 34]) (rest := []) ⟨hx, hb, hml, hown, hts⟩ (uX0_put l dC dI ca base B hB hAp hB2 hB196 Gx_15 H_15 r0 34 wc_15 wr_15 m_wr_15 LC LS) (cwV 1 hts (jgV (jWr_24 _ (List.mem_of_getElem? (i := 22) rfl)) (jWr_16 _ (List.mem_of_getElem? (i := 0) rfl)) (jWr_16 _ (List.mem_of_getElem? (i := 1) rfl)) (jWr_1 _ (List.mem_of_getElem? (i := 14) rfl)) (jWr_16 _ (List.mem_of_getElem? (i := 2) rfl))) rfl rfl rfl (by decide +kernel) ⟨by rw [← hR]; exact Nat.le_of_ble_eq_true rfl, by rw [← hR]; exact Nat.le_of_ble_eq_true rfl⟩) ⟨fun a U g mk q => by obtain ⟨q0, q1, q2, qK, q10, q11, q12, q13⟩ := q; exact ⟨q0, q1, q2, jG.calling g mk a qK, q10, q11, q12, q13⟩, hh_15.recv (C := RX0) (T := TX0) (N := 2) hB2 rfl (by decide) hg_16 hK, fun U hU hW => ⟨rfl, hU, hh_15.2.1, hG.step hW hU hh_15.1, hg_16, hg_wr_15, (hh_15.2.2.1.sub (L1 := [(r0, 2, 1, .int wc_15), (r0, 2, 0, .ref wr_15)]) [0, 1] rfl), (by omega), (by omega), ⟨(by first | omega | rfl | assumption | fail), (by first | omega | rfl | assumption | fail), (by first | omega | rfl | assumption | fail), (by first | omega | rfl | assumption | fail), (by first | assumption | fail | omega)⟩⟩⟩ rfl rfl hl.1 rfl (lv_room (Nat.le_of_ble_eq_true rfl)) dX0_quoted_217 ⟨by rw [hRc]; omega, by rw [hRs]; omega⟩) hh_15.1 (fun q _ h => h) (fun q h => h) (fun u_19 t_19 H_19 locs_19 ht_19 hvm_19 hr_20 hb_19 hz_19 hk_19 hS_19 => ?_)
        obtain ⟨qc_19, qa_19, m_qa_19, G_19⟩ := u_19
        rw [ht_19] at hb_19
        simp only at hb_19
        obtain ⟨⟨hb_191, hb_192, hb_193, hb_194, hb_195, hb_196⟩, hgq_19_0, hN_19, hbO_19⟩ := hb_19
        have hh_19 : jSt (dC, dI) B base G0 G_19 EX0_quotedu9 s.heap (zcx_15 + ((m_qa_19 - m_wr_15) / 16)) (zsx_15 + (2 * (m_qa_19 - m_wr_15))) [(r0, 2, 1, .int qc_19), (r0, 2, 0, .ref qa_19)] [] [] H_19 locs_19 := (hh_15.callG hb_191 hb_192 hb_193 hb_194 hb_195 hS_19 rfl (L1 := []) [] rfl rfl (M1 := []) [] rfl rfl (I1 := []) [] rfl rfl).more hb_196
        have hNn_19 : (jNk [0, 1, 2, 3, 4, 5, 6, 7, 8, 9, 10, 11, 12, 13, 14, 15, 16]) G0 G_19 := (hN_15).tr hN_19
        have hg_21 := hb_192 _ _ hg_16
        have hg_22 := hb_192 _ _ hg_17
        have hd_23 := jOw.tr (hh_15.iv 0 rfl) hh_15.2.2.2.2.1 hbO_19
        have hh_24 := hh_19.addI (jOw.ie (dC := dC) (dI := dI) (G0 := G0) (k := 2) (r := r0) (H0 := s.heap) (F := [(2, 0), (2, 1)]) (C := RX0) (T := TX0) (N := 2) rfl (by decide) hh_19.2.2.2.2.1 (hd_23))
        clear hh_19
        try simp only at hr_20
        obtain ⟨hr_20_0, hr_20_1, hr_20_2, hr_20_3, hr_20_4⟩ := hr_20
        have hh_25 := hh_24.wk (zc1 := (m_qa_19 - n_pa) / 16) (zs1 := 2 * (m_qa_19 - n_pa)) (by omega) (by omega)
        clear hh_24
        try clear hsz_19 htt_19 hrc_19 hrs_19
        try clear hb_194 hb_195
        have hsz_26 := hh_25.2.2.2.2.2.1
        have htt_26 := hh_25.2.2.2.2.2.2.1
        refine W.room (fun hrc_26 hrs_26 => ?_)
        refine W.widen (k := LC - s.heap.size) (n := LS - jTot s.heap) (by omega) (by omega) ?_
        rw [hQ]
        exact W.vret hx hb hr (fun t ht hW => ⟨⟨(qc_19, qa_19, m_qa_19, G_19), rfl, by (try dsimp only); exact ⟨(by first | omega | rfl | assumption | fail), (by first | omega | rfl | assumption | fail), (by first | omega | rfl | assumption | fail), (by first | omega | rfl | assumption | fail), (by first | assumption | fail | omega)⟩, ⟨hh_25.ra (by first | (simp only; omega) | omega) (by first | (simp only; omega) | omega) (M1 := [(r0, 2, 1, .int qc_19), (r0, 2, 0, .ref qa_19)]) [0, 1] rfl ht, hgq_19_0, hNn_19, by rw [ht]; exact hh_25.iv 0 rfl⟩⟩, by rw [ht]; try exact hh_25.1.1, fun q h9 hq => by rw [ht]; try exact hh_25.1.2.1 q h9 hq⟩) hh_25.1.2.2 dX0_quoted_220
      · skip
        have c_18' : v5_15.toInt < z_12.toInt := jb_ge_n (rfl) (rfl) c_18
        refine lv_aload_n hx hb dX0_quoted_30 rfl (lv_at hl 1 rfl) ?_
        refine lv_iload hx hb dX0_quoted_31 (lv_at hl 5 rfl) ?_
        refine j7_iald hx hb hK hh_15 hB174 1 rfl (by decide) hg_17 (x := v5_15.toInt) (rfl) (by omega) dX0_quoted_33 (fun z_27 (hz_27 : True) => ?_)
        refine lv_istore (lv' := [(6, .int z_27), (0, .ref r0), (1, .ref r1), (2, .int a2), (3, .int a3), (4, .int z_12), (5, .int v5_15)]) hx hb dX0_quoted_34 hl (by decide) rfl (fun ls hl => ?_)
        refine lv_iload hx hb dX0_quoted_36 (lv_at hl 0 rfl) ?_
        have hsz_30 := hh_15.2.2.2.2.2.1
        have htt_30 := hh_15.2.2.2.2.2.2.1
        refine W.room (fun hrc_30 hrs_30 => ?_)
        have hsz_29 := hh_15.2.2.2.2.2.1
        have htt_29 := hh_15.2.2.2.2.2.2.1
        refine W.room (fun hrc_29 hrs_29 => ?_)
        refine vp_callSi (W.runS (As := [.int z_27]) (rest := []) ⟨hx, hb, hml, hown, hts⟩ (wX0_isHigh l dC dI ca base H_15 z_27) (va_cwS 1 hts (jgS (jWr_25 _ (List.mem_of_getElem? (i := 15) rfl)) (jWr_21 _ (List.mem_of_getElem? (i := 18) rfl)) (jWr_1 _ (List.mem_of_getElem? (i := 14) rfl)) (jWr_21 _ (List.mem_of_getElem? (i := 19) rfl))) rfl rfl rfl (by decide +kernel) ⟨by rw [← hR]; exact Nat.le_of_ble_eq_true rfl, by rw [← hR]; exact Nat.le_of_ble_eq_true rfl⟩) ⟨fun a U g mk q => by obtain ⟨q0, q1, qK, q9⟩ := q; exact ⟨q0, q1, jG.calling g mk a qK, q9⟩, fun U hU hW => ⟨rfl, hU, hG.step hW hU hh_15.1, by first | trivial | omega | (constructor <;> omega)⟩⟩ rfl rfl hl.1 rfl (lv_room (Nat.le_of_ble_eq_true rfl)) dX0_quoted_38 ⟨by rw [hRc]; omega, by rw [hRs]; omega⟩) (fun r_28 hr_28 => ?_)
        have hr_28' : r_28.toInt = 0 ∨ r_28.toInt = 1 := jb_01 hr_28
        have C94 : ∀ (H_31 : Heap) (locs_31 : List Loc), jSt (dC, dI) B base G0 Gx_15 EX0_quotedu9 s.heap zcx_15 zsx_15 [(r0, 2, 1, .int wc_15), (r0, 2, 0, .ref wr_15)] [] [([(2, 0), (2, 1)], jOw (dC, dI) G0 2 r0 s.heap)] H_31 locs_31 → (True) → ∀ ls : Array Slot, lv_has ls 7 [(0, .ref r0), (1, .ref r1), (2, .int a2), (3, .int a3), (4, .int z_12), (5, .int v5_15), (6, .int z_27)] → W p l e R s m ([.ref r0, .ref r1, .int a2, .int a3] : List Value).toArray below meth c H_31 locs_31 zcx_15 zsx_15 Q (F0 m 94 ls []) := by
          intro  H_31 locs_31 hh_31  hi_31 ls hl
          refine lv_iload hx hb dX0_quoted_94 (lv_at hl 6 rfl) ?_
          have hsz_34 := hh_31.2.2.2.2.2.1
          have htt_34 := hh_31.2.2.2.2.2.2.1
          refine W.room (fun hrc_34 hrs_34 => ?_)
          have hsz_33 := hh_31.2.2.2.2.2.1
          have htt_33 := hh_31.2.2.2.2.2.2.1
          refine W.room (fun hrc_33 hrs_33 => ?_)
          refine vp_callSi (W.runS (As := [.int z_27]) (rest := []) ⟨hx, hb, hml, hown, hts⟩ (wX0_isHigh l dC dI ca base H_31 z_27) (va_cwS 1 hts (jgS (jWr_25 _ (List.mem_of_getElem? (i := 15) rfl)) (jWr_21 _ (List.mem_of_getElem? (i := 18) rfl)) (jWr_1 _ (List.mem_of_getElem? (i := 14) rfl)) (jWr_21 _ (List.mem_of_getElem? (i := 19) rfl))) rfl rfl rfl (by decide +kernel) ⟨by rw [← hR]; exact Nat.le_of_ble_eq_true rfl, by rw [← hR]; exact Nat.le_of_ble_eq_true rfl⟩) ⟨fun a U g mk q => by obtain ⟨q0, q1, qK, q9⟩ := q; exact ⟨q0, q1, jG.calling g mk a qK, q9⟩, fun U hU hW => ⟨rfl, hU, hG.step hW hU hh_31.1, by first | trivial | omega | (constructor <;> omega)⟩⟩ rfl rfl hl.1 rfl (lv_room (Nat.le_of_ble_eq_true rfl)) dX0_quoted_96 ⟨by rw [hRc]; omega, by rw [hRs]; omega⟩) (fun r_32 hr_32 => ?_)
          have hr_32' : r_32.toInt = 0 ∨ r_32.toInt = 1 := jb_01 hr_32
          refine lv_if_ne (tgt := 110) hx hb dX0_quoted_99 (by decide) (fun c_35 => ?_) (fun c_35 => ?_)
          · skip
            have c_35' : r_32.toInt ≠ 0 := jb_ne (rfl) ((by decide)) c_35
            refine lv_aload_n hx hb dX0_quoted_110 rfl (lv_at hl 0 rfl) ?_
            refine lv_ldc hx hb hown hcs_66 dX0_quoted_111 ?_
            have hsz_36 := hh_31.2.2.2.2.2.1
            have htt_36 := hh_31.2.2.2.2.2.2.1
            refine W.room (fun hrc_36 hrs_36 => ?_)
            refine va_callv (A0 := jA base) (H0 := s.heap) (va_runV (As := [.int 65533]) (rest := []) ⟨hx, hb, hml, hown, hts⟩ (uX0_character l dC dI ca base B hB hAp hB2 hB196 Gx_15 H_31 r0 65533 wc_15 wr_15 m_wr_15 LC LS) (cwV 1 hts (jgV (jWr_25 _ (List.mem_of_getElem? (i := 17) rfl)) (jWr_25 _ (List.mem_of_getElem? (i := 18) rfl)) (jWr_25 _ (List.mem_of_getElem? (i := 19) rfl)) (jWr_1 _ (List.mem_of_getElem? (i := 14) rfl)) (jWr_25 _ (List.mem_of_getElem? (i := 20) rfl))) rfl rfl rfl (by decide +kernel) ⟨by rw [← hR]; exact Nat.le_of_ble_eq_true rfl, by rw [← hR]; exact Nat.le_of_ble_eq_true rfl⟩) ⟨fun a U g mk q => by obtain ⟨q0, q1, q2, qK, q10, q11, q12, q13⟩ := q; exact ⟨q0, q1, q2, jG.calling g mk a qK, q10, q11, q12, q13⟩, hh_31.recv (C := RX0) (T := TX0) (N := 2) hB2 rfl (by decide) hg_16 hK, fun U hU hW => ⟨rfl, hU, hh_31.2.1, hG.step hW hU hh_31.1, hg_16, hg_wr_15, (hh_31.2.2.1.sub (L1 := [(r0, 2, 1, .int wc_15), (r0, 2, 0, .ref wr_15)]) [0, 1] rfl), (by omega), (by omega), ⟨(by first | omega | rfl | assumption | fail), (by first | omega | rfl | assumption | fail), (by first | omega | rfl | assumption | fail), (by first | omega | rfl | assumption | fail), (by first | assumption | fail | omega)⟩⟩⟩ rfl rfl hl.1 rfl (lv_room (Nat.le_of_ble_eq_true rfl)) dX0_quoted_113 ⟨by rw [hRc]; omega, by rw [hRs]; omega⟩) hh_31.1 (fun q _ h => h) (fun q h => h) (fun u_36 t_36 H_36 locs_36 ht_36 hvm_36 hr_37 hb_36 hz_36 hk_36 hS_36 => ?_)
            obtain ⟨qc_36, qa_36, m_qa_36, G_36⟩ := u_36
            rw [ht_36] at hb_36
            simp only at hb_36
            obtain ⟨⟨hb_361, hb_362, hb_363, hb_364, hb_365, hb_366⟩, hgq_36_0, hN_36, hbO_36⟩ := hb_36
            have hh_36 : jSt (dC, dI) B base G0 G_36 EX0_quotedu9 s.heap (zcx_15 + ((m_qa_36 - m_wr_15) / 16)) (zsx_15 + (2 * (m_qa_36 - m_wr_15))) [(r0, 2, 1, .int qc_36), (r0, 2, 0, .ref qa_36)] [] [] H_36 locs_36 := (hh_31.callG hb_361 hb_362 hb_363 hb_364 hb_365 hS_36 rfl (L1 := []) [] rfl rfl (M1 := []) [] rfl rfl (I1 := []) [] rfl rfl).more hb_366
            have hNn_36 : (jNk [0, 1, 2, 3, 4, 5, 6, 7, 8, 9, 10, 11, 12, 13, 14, 15, 16]) G0 G_36 := (hN_15).tr hN_36
            have hg_38 := hb_362 _ _ hg_16
            have hg_39 := hb_362 _ _ hg_17
            have hd_40 := jOw.tr (hh_31.iv 0 rfl) hh_31.2.2.2.2.1 hbO_36
            have hh_41 := hh_36.addI (jOw.ie (dC := dC) (dI := dI) (G0 := G0) (k := 2) (r := r0) (H0 := s.heap) (F := [(2, 0), (2, 1)]) (C := RX0) (T := TX0) (N := 2) rfl (by decide) hh_36.2.2.2.2.1 (hd_40))
            clear hh_36
            try simp only at hr_37
            obtain ⟨hr_37_0, hr_37_1, hr_37_2, hr_37_3, hr_37_4⟩ := hr_37
            have hh_42 := hh_41.wk (zc1 := (m_qa_36 - n_pa) / 16) (zs1 := 2 * (m_qa_36 - n_pa)) (by omega) (by omega)
            clear hh_41
            try clear hsz_36 htt_36 hrc_36 hrs_36
            try clear hb_364 hb_365
            refine lv_goto (tgt := 208) hx hb dX0_quoted_116 (by decide) ?_
            obtain ⟨z_43, ez_43⟩ : ∃ y : Int32, y = v5_15 + 1 := ⟨_, rfl⟩
            refine lv_iinc (v := z_43) (lv' := [(5, .int z_43), (0, .ref r0), (1, .ref r1), (2, .int a2), (3, .int a3), (4, .int z_12), (6, .int z_27)]) hx hb dX0_quoted_208 hl (k := 5) rfl (by rw [ez_43]; rfl) (by decide) rfl (fun ls hl => ?_)
            have hz_43 : z_43.toInt = v5_15.toInt + 1 := by rw [ez_43]; exact jb_iadd2 (rfl) (by decide) (by omega)
            refine lv_goto (tgt := 23) hx hb dX0_quoted_211 (by decide) ?_
            refine W.tight (c2 := ((m_qa_36 - n_pa) / 16)) (n2 := (2 * (m_qa_36 - n_pa))) hh_42.2.2.2.2.2.1 hh_42.2.2.2.2.2.2.1 ?_
            exact L23 G_36 ((m_qa_36 - n_pa) / 16) (2 * (m_qa_36 - n_pa)) z_43 qc_36 qa_36 m_qa_36 _ _ hh_42 (hNn_36) ((hle_15).tr hb_362) hgq_36_0 (⟨(by first | omega | rfl | assumption | fail), (by first | omega | rfl | assumption | fail), (by first | omega | rfl | assumption | fail), (by first | omega | rfl | assumption | fail), (by first | assumption | fail | omega), (by first | omega | rfl | assumption | fail), (by first | omega | rfl | assumption | fail), (by first | omega | rfl | assumption | fail), (by first | omega | rfl | assumption | fail)⟩) (by omega) _ (lv_sub hl [1, 2, 3, 4, 5, 0] rfl)
          · skip
            have c_35' : r_32.toInt = 0 := jb_ne_n (rfl) ((by decide)) c_35
            refine lv_iload hx hb dX0_quoted_102 (lv_at hl 6 rfl) ?_
            have hsz_46 := hh_31.2.2.2.2.2.1
            have htt_46 := hh_31.2.2.2.2.2.2.1
            refine W.room (fun hrc_46 hrs_46 => ?_)
            have hsz_45 := hh_31.2.2.2.2.2.1
            have htt_45 := hh_31.2.2.2.2.2.2.1
            refine W.room (fun hrc_45 hrs_45 => ?_)
            refine vp_callSi (W.runS (As := [.int z_27]) (rest := []) ⟨hx, hb, hml, hown, hts⟩ (wX0_isLow l dC dI ca base H_31 z_27) (va_cwS 1 hts (jgS (jWr_25 _ (List.mem_of_getElem? (i := 16) rfl)) (jWr_21 _ (List.mem_of_getElem? (i := 10) rfl)) (jWr_1 _ (List.mem_of_getElem? (i := 14) rfl)) (jWr_21 _ (List.mem_of_getElem? (i := 11) rfl))) rfl rfl rfl (by decide +kernel) ⟨by rw [← hR]; exact Nat.le_of_ble_eq_true rfl, by rw [← hR]; exact Nat.le_of_ble_eq_true rfl⟩) ⟨fun a U g mk q => by obtain ⟨q0, q1, qK, q9⟩ := q; exact ⟨q0, q1, jG.calling g mk a qK, q9⟩, fun U hU hW => ⟨rfl, hU, hG.step hW hU hh_31.1, by first | trivial | omega | (constructor <;> omega)⟩⟩ rfl rfl hl.1 rfl (lv_room (Nat.le_of_ble_eq_true rfl)) dX0_quoted_104 ⟨by rw [hRc]; omega, by rw [hRs]; omega⟩) (fun r_44 hr_44 => ?_)
            have hr_44' : r_44.toInt = 0 ∨ r_44.toInt = 1 := jb_01 hr_44
            refine lv_if_eq (tgt := 119) hx hb dX0_quoted_107 (by decide) (fun c_47 => ?_) (fun c_47 => ?_)
            · skip
              have c_47' : r_44.toInt = 0 := jb_eq (rfl) ((by decide)) c_47
              refine lv_iload hx hb dX0_quoted_119 (lv_at hl 6 rfl) ?_
              refine lv_bipush (v := 32) hx hb dX0_quoted_121 (by decide) ?_
              refine lv_icmp_ge (tgt := 182) hx hb dX0_quoted_123 (by decide) (fun c_48 => ?_) (fun c_48 => ?_)
              · skip
                have c_48' : z_27.toInt ≥ 32 := jb_ge (rfl) ((by decide)) c_48
                refine lv_iload hx hb dX0_quoted_182 (lv_at hl 6 rfl) ?_
                refine lv_bipush (v := 34) hx hb dX0_quoted_184 (by decide) ?_
                refine lv_icmp_eq (tgt := 196) hx hb dX0_quoted_186 (by decide) (fun c_49 => ?_) (fun c_49 => ?_)
                · skip
                  have c_49' : z_27.toInt = 34 := jb_eq (rfl) ((by decide)) c_49
                  refine lv_aload_n hx hb dX0_quoted_196 rfl (lv_at hl 0 rfl) ?_
                  refine lv_bipush (v := 92) hx hb dX0_quoted_197 (by decide) ?_
                  have hsz_50 := hh_31.2.2.2.2.2.1
                  have htt_50 := hh_31.2.2.2.2.2.2.1
                  refine W.room (fun hrc_50 hrs_50 => ?_)
                  refine va_callv (A0 := jA base) (H0 := s.heap) (va_runV (As := [.int 92]) (rest := []) ⟨hx, hb, hml, hown, hts⟩ (uX0_put l dC dI ca base B hB hAp hB2 hB196 Gx_15 H_31 r0 92 wc_15 wr_15 m_wr_15 LC LS) (cwV 1 hts (jgV (jWr_24 _ (List.mem_of_getElem? (i := 22) rfl)) (jWr_16 _ (List.mem_of_getElem? (i := 0) rfl)) (jWr_16 _ (List.mem_of_getElem? (i := 1) rfl)) (jWr_1 _ (List.mem_of_getElem? (i := 14) rfl)) (jWr_16 _ (List.mem_of_getElem? (i := 2) rfl))) rfl rfl rfl (by decide +kernel) ⟨by rw [← hR]; exact Nat.le_of_ble_eq_true rfl, by rw [← hR]; exact Nat.le_of_ble_eq_true rfl⟩) ⟨fun a U g mk q => by obtain ⟨q0, q1, q2, qK, q10, q11, q12, q13⟩ := q; exact ⟨q0, q1, q2, jG.calling g mk a qK, q10, q11, q12, q13⟩, hh_31.recv (C := RX0) (T := TX0) (N := 2) hB2 rfl (by decide) hg_16 hK, fun U hU hW => ⟨rfl, hU, hh_31.2.1, hG.step hW hU hh_31.1, hg_16, hg_wr_15, (hh_31.2.2.1.sub (L1 := [(r0, 2, 1, .int wc_15), (r0, 2, 0, .ref wr_15)]) [0, 1] rfl), (by omega), (by omega), ⟨(by first | omega | rfl | assumption | fail), (by first | omega | rfl | assumption | fail), (by first | omega | rfl | assumption | fail), (by first | omega | rfl | assumption | fail), (by first | assumption | fail | omega)⟩⟩⟩ rfl rfl hl.1 rfl (lv_room (Nat.le_of_ble_eq_true rfl)) dX0_quoted_199 ⟨by rw [hRc]; omega, by rw [hRs]; omega⟩) hh_31.1 (fun q _ h => h) (fun q h => h) (fun u_50 t_50 H_50 locs_50 ht_50 hvm_50 hr_51 hb_50 hz_50 hk_50 hS_50 => ?_)
                  obtain ⟨qc_50, qa_50, m_qa_50, G_50⟩ := u_50
                  rw [ht_50] at hb_50
                  simp only at hb_50
                  obtain ⟨⟨hb_501, hb_502, hb_503, hb_504, hb_505, hb_506⟩, hgq_50_0, hN_50, hbO_50⟩ := hb_50
                  have hh_50 : jSt (dC, dI) B base G0 G_50 EX0_quotedu9 s.heap (zcx_15 + ((m_qa_50 - m_wr_15) / 16)) (zsx_15 + (2 * (m_qa_50 - m_wr_15))) [(r0, 2, 1, .int qc_50), (r0, 2, 0, .ref qa_50)] [] [] H_50 locs_50 := (hh_31.callG hb_501 hb_502 hb_503 hb_504 hb_505 hS_50 rfl (L1 := []) [] rfl rfl (M1 := []) [] rfl rfl (I1 := []) [] rfl rfl).more hb_506
                  have hNn_50 : (jNk [0, 1, 2, 3, 4, 5, 6, 7, 8, 9, 10, 11, 12, 13, 14, 15, 16]) G0 G_50 := (hN_15).tr hN_50
                  have hg_52 := hb_502 _ _ hg_16
                  have hg_53 := hb_502 _ _ hg_17
                  have hd_54 := jOw.tr (hh_31.iv 0 rfl) hh_31.2.2.2.2.1 hbO_50
                  have hh_55 := hh_50.addI (jOw.ie (dC := dC) (dI := dI) (G0 := G0) (k := 2) (r := r0) (H0 := s.heap) (F := [(2, 0), (2, 1)]) (C := RX0) (T := TX0) (N := 2) rfl (by decide) hh_50.2.2.2.2.1 (hd_54))
                  clear hh_50
                  try simp only at hr_51
                  obtain ⟨hr_51_0, hr_51_1, hr_51_2, hr_51_3, hr_51_4⟩ := hr_51
                  have hh_56 := hh_55.wk (zc1 := (m_qa_50 - n_pa) / 16) (zs1 := 2 * (m_qa_50 - n_pa)) (by omega) (by omega)
                  clear hh_55
                  try clear hsz_50 htt_50 hrc_50 hrs_50
                  try clear hb_504 hb_505
                  refine lv_aload_n hx hb dX0_quoted_202 rfl (lv_at hl 0 rfl) ?_
                  refine lv_iload hx hb dX0_quoted_203 (lv_at hl 6 rfl) ?_
                  have hsz_57 := hh_56.2.2.2.2.2.1
                  have htt_57 := hh_56.2.2.2.2.2.2.1
                  refine W.room (fun hrc_57 hrs_57 => ?_)
                  refine va_callv (A0 := jA base) (H0 := s.heap) (va_runV (As := [.int z_27]) (rest := []) ⟨hx, hb, hml, hown, hts⟩ (uX0_character l dC dI ca base B hB hAp hB2 hB196 G_50 H_50 r0 z_27 qc_50 qa_50 m_qa_50 LC LS) (cwV 1 hts (jgV (jWr_25 _ (List.mem_of_getElem? (i := 17) rfl)) (jWr_25 _ (List.mem_of_getElem? (i := 18) rfl)) (jWr_25 _ (List.mem_of_getElem? (i := 19) rfl)) (jWr_1 _ (List.mem_of_getElem? (i := 14) rfl)) (jWr_25 _ (List.mem_of_getElem? (i := 20) rfl))) rfl rfl rfl (by decide +kernel) ⟨by rw [← hR]; exact Nat.le_of_ble_eq_true rfl, by rw [← hR]; exact Nat.le_of_ble_eq_true rfl⟩) ⟨fun a U g mk q => by obtain ⟨q0, q1, q2, qK, q10, q11, q12, q13⟩ := q; exact ⟨q0, q1, q2, jG.calling g mk a qK, q10, q11, q12, q13⟩, hh_56.recv (C := RX0) (T := TX0) (N := 2) hB2 rfl (by decide) hg_52 hK, fun U hU hW => ⟨rfl, hU, hh_56.2.1, hG.step hW hU hh_56.1, hg_52, hgq_50_0, (hh_56.2.2.1.sub (L1 := [(r0, 2, 1, .int qc_50), (r0, 2, 0, .ref qa_50)]) [0, 1] rfl), (by omega), (by omega), ⟨(by first | omega | rfl | assumption | fail), (by first | omega | rfl | assumption | fail), (by first | omega | rfl | assumption | fail), (by first | omega | rfl | assumption | fail), (by first | assumption | fail | omega)⟩⟩⟩ rfl rfl hl.1 rfl (lv_room (Nat.le_of_ble_eq_true rfl)) dX0_quoted_205 ⟨by rw [hRc]; omega, by rw [hRs]; omega⟩) hh_56.1 (fun q _ h => h) (fun q h => h) (fun u_57 t_57 H_57 locs_57 ht_57 hvm_57 hr_58 hb_57 hz_57 hk_57 hS_57 => ?_)
                  obtain ⟨qc_57, qa_57, m_qa_57, G_57⟩ := u_57
                  rw [ht_57] at hb_57
                  simp only at hb_57
                  obtain ⟨⟨hb_571, hb_572, hb_573, hb_574, hb_575, hb_576⟩, hgq_57_0, hN_57, hbO_57⟩ := hb_57
                  have hh_57 : jSt (dC, dI) B base G0 G_57 EX0_quotedu9 s.heap (((m_qa_50 - n_pa) / 16) + ((m_qa_57 - m_qa_50) / 16)) ((2 * (m_qa_50 - n_pa)) + (2 * (m_qa_57 - m_qa_50))) [(r0, 2, 1, .int qc_57), (r0, 2, 0, .ref qa_57)] [] [] H_57 locs_57 := (hh_56.callG hb_571 hb_572 hb_573 hb_574 hb_575 hS_57 rfl (L1 := []) [] rfl rfl (M1 := []) [] rfl rfl (I1 := []) [] rfl rfl).more hb_576
                  have hNn_57 : (jNk [0, 1, 2, 3, 4, 5, 6, 7, 8, 9, 10, 11, 12, 13, 14, 15, 16]) G0 G_57 := (hNn_50).tr hN_57
                  have hg_59 := hb_572 _ _ hg_52
                  have hg_60 := hb_572 _ _ hg_53
                  have hd_61 := jOw.tr (hh_56.iv 0 rfl) hh_56.2.2.2.2.1 hbO_57
                  have hh_62 := hh_57.addI (jOw.ie (dC := dC) (dI := dI) (G0 := G0) (k := 2) (r := r0) (H0 := s.heap) (F := [(2, 0), (2, 1)]) (C := RX0) (T := TX0) (N := 2) rfl (by decide) hh_57.2.2.2.2.1 (hd_61))
                  clear hh_57
                  try simp only at hr_58
                  obtain ⟨hr_58_0, hr_58_1, hr_58_2, hr_58_3, hr_58_4⟩ := hr_58
                  have hh_63 := hh_62.wk (zc1 := (m_qa_57 - n_pa) / 16) (zs1 := 2 * (m_qa_57 - n_pa)) (by omega) (by omega)
                  clear hh_62
                  try clear hsz_57 htt_57 hrc_57 hrs_57
                  try clear hb_574 hb_575
                  obtain ⟨z_64, ez_64⟩ : ∃ y : Int32, y = v5_15 + 1 := ⟨_, rfl⟩
                  refine lv_iinc (v := z_64) (lv' := [(5, .int z_64), (0, .ref r0), (1, .ref r1), (2, .int a2), (3, .int a3), (4, .int z_12), (6, .int z_27)]) hx hb dX0_quoted_208 hl (k := 5) rfl (by rw [ez_64]; rfl) (by decide) rfl (fun ls hl => ?_)
                  have hz_64 : z_64.toInt = v5_15.toInt + 1 := by rw [ez_64]; exact jb_iadd2 (rfl) (by decide) (by omega)
                  refine lv_goto (tgt := 23) hx hb dX0_quoted_211 (by decide) ?_
                  refine W.tight (c2 := ((m_qa_57 - n_pa) / 16)) (n2 := (2 * (m_qa_57 - n_pa))) hh_63.2.2.2.2.2.1 hh_63.2.2.2.2.2.2.1 ?_
                  exact L23 G_57 ((m_qa_57 - n_pa) / 16) (2 * (m_qa_57 - n_pa)) z_64 qc_57 qa_57 m_qa_57 _ _ hh_63 (hNn_57) (((hle_15).tr hb_502).tr hb_572) hgq_57_0 (⟨(by first | omega | rfl | assumption | fail), (by first | omega | rfl | assumption | fail), (by first | omega | rfl | assumption | fail), (by first | omega | rfl | assumption | fail), (by first | assumption | fail | omega), (by first | omega | rfl | assumption | fail), (by first | omega | rfl | assumption | fail), (by first | omega | rfl | assumption | fail), (by first | omega | rfl | assumption | fail)⟩) (by omega) _ (lv_sub hl [1, 2, 3, 4, 5, 0] rfl)
                · skip
                  have c_49' : z_27.toInt ≠ 34 := jb_eq_n (rfl) ((by decide)) c_49
                  refine lv_iload hx hb dX0_quoted_189 (lv_at hl 6 rfl) ?_
                  refine lv_bipush (v := 92) hx hb dX0_quoted_191 (by decide) ?_
                  refine lv_icmp_ne (tgt := 202) hx hb dX0_quoted_193 (by decide) (fun c_65 => ?_) (fun c_65 => ?_)
                  · skip
                    have c_65' : z_27.toInt ≠ 92 := jb_ne (rfl) ((by decide)) c_65
                    refine lv_aload_n hx hb dX0_quoted_202 rfl (lv_at hl 0 rfl) ?_
                    refine lv_iload hx hb dX0_quoted_203 (lv_at hl 6 rfl) ?_
                    have hsz_66 := hh_31.2.2.2.2.2.1
                    have htt_66 := hh_31.2.2.2.2.2.2.1
                    refine W.room (fun hrc_66 hrs_66 => ?_)
                    refine va_callv (A0 := jA base) (H0 := s.heap) (va_runV (As := [.int z_27]) (rest := []) ⟨hx, hb, hml, hown, hts⟩ (uX0_character l dC dI ca base B hB hAp hB2 hB196 Gx_15 H_31 r0 z_27 wc_15 wr_15 m_wr_15 LC LS) (cwV 1 hts (jgV (jWr_25 _ (List.mem_of_getElem? (i := 17) rfl)) (jWr_25 _ (List.mem_of_getElem? (i := 18) rfl)) (jWr_25 _ (List.mem_of_getElem? (i := 19) rfl)) (jWr_1 _ (List.mem_of_getElem? (i := 14) rfl)) (jWr_25 _ (List.mem_of_getElem? (i := 20) rfl))) rfl rfl rfl (by decide +kernel) ⟨by rw [← hR]; exact Nat.le_of_ble_eq_true rfl, by rw [← hR]; exact Nat.le_of_ble_eq_true rfl⟩) ⟨fun a U g mk q => by obtain ⟨q0, q1, q2, qK, q10, q11, q12, q13⟩ := q; exact ⟨q0, q1, q2, jG.calling g mk a qK, q10, q11, q12, q13⟩, hh_31.recv (C := RX0) (T := TX0) (N := 2) hB2 rfl (by decide) hg_16 hK, fun U hU hW => ⟨rfl, hU, hh_31.2.1, hG.step hW hU hh_31.1, hg_16, hg_wr_15, (hh_31.2.2.1.sub (L1 := [(r0, 2, 1, .int wc_15), (r0, 2, 0, .ref wr_15)]) [0, 1] rfl), (by omega), (by omega), ⟨(by first | omega | rfl | assumption | fail), (by first | omega | rfl | assumption | fail), (by first | omega | rfl | assumption | fail), (by first | omega | rfl | assumption | fail), (by first | assumption | fail | omega)⟩⟩⟩ rfl rfl hl.1 rfl (lv_room (Nat.le_of_ble_eq_true rfl)) dX0_quoted_205 ⟨by rw [hRc]; omega, by rw [hRs]; omega⟩) hh_31.1 (fun q _ h => h) (fun q h => h) (fun u_66 t_66 H_66 locs_66 ht_66 hvm_66 hr_67 hb_66 hz_66 hk_66 hS_66 => ?_)
                    obtain ⟨qc_66, qa_66, m_qa_66, G_66⟩ := u_66
                    rw [ht_66] at hb_66
                    simp only at hb_66
                    obtain ⟨⟨hb_661, hb_662, hb_663, hb_664, hb_665, hb_666⟩, hgq_66_0, hN_66, hbO_66⟩ := hb_66
                    have hh_66 : jSt (dC, dI) B base G0 G_66 EX0_quotedu9 s.heap (zcx_15 + ((m_qa_66 - m_wr_15) / 16)) (zsx_15 + (2 * (m_qa_66 - m_wr_15))) [(r0, 2, 1, .int qc_66), (r0, 2, 0, .ref qa_66)] [] [] H_66 locs_66 := (hh_31.callG hb_661 hb_662 hb_663 hb_664 hb_665 hS_66 rfl (L1 := []) [] rfl rfl (M1 := []) [] rfl rfl (I1 := []) [] rfl rfl).more hb_666
                    have hNn_66 : (jNk [0, 1, 2, 3, 4, 5, 6, 7, 8, 9, 10, 11, 12, 13, 14, 15, 16]) G0 G_66 := (hN_15).tr hN_66
                    have hg_68 := hb_662 _ _ hg_16
                    have hg_69 := hb_662 _ _ hg_17
                    have hd_70 := jOw.tr (hh_31.iv 0 rfl) hh_31.2.2.2.2.1 hbO_66
                    have hh_71 := hh_66.addI (jOw.ie (dC := dC) (dI := dI) (G0 := G0) (k := 2) (r := r0) (H0 := s.heap) (F := [(2, 0), (2, 1)]) (C := RX0) (T := TX0) (N := 2) rfl (by decide) hh_66.2.2.2.2.1 (hd_70))
                    clear hh_66
                    try simp only at hr_67
                    obtain ⟨hr_67_0, hr_67_1, hr_67_2, hr_67_3, hr_67_4⟩ := hr_67
                    have hh_72 := hh_71.wk (zc1 := (m_qa_66 - n_pa) / 16) (zs1 := 2 * (m_qa_66 - n_pa)) (by omega) (by omega)
                    clear hh_71
                    try clear hsz_66 htt_66 hrc_66 hrs_66
                    try clear hb_664 hb_665
                    obtain ⟨z_73, ez_73⟩ : ∃ y : Int32, y = v5_15 + 1 := ⟨_, rfl⟩
                    refine lv_iinc (v := z_73) (lv' := [(5, .int z_73), (0, .ref r0), (1, .ref r1), (2, .int a2), (3, .int a3), (4, .int z_12), (6, .int z_27)]) hx hb dX0_quoted_208 hl (k := 5) rfl (by rw [ez_73]; rfl) (by decide) rfl (fun ls hl => ?_)
                    have hz_73 : z_73.toInt = v5_15.toInt + 1 := by rw [ez_73]; exact jb_iadd2 (rfl) (by decide) (by omega)
                    refine lv_goto (tgt := 23) hx hb dX0_quoted_211 (by decide) ?_
                    refine W.tight (c2 := ((m_qa_66 - n_pa) / 16)) (n2 := (2 * (m_qa_66 - n_pa))) hh_72.2.2.2.2.2.1 hh_72.2.2.2.2.2.2.1 ?_
                    exact L23 G_66 ((m_qa_66 - n_pa) / 16) (2 * (m_qa_66 - n_pa)) z_73 qc_66 qa_66 m_qa_66 _ _ hh_72 (hNn_66) ((hle_15).tr hb_662) hgq_66_0 (⟨(by first | omega | rfl | assumption | fail), (by first | omega | rfl | assumption | fail), (by first | omega | rfl | assumption | fail), (by first | omega | rfl | assumption | fail), (by first | assumption | fail | omega), (by first | omega | rfl | assumption | fail), (by first | omega | rfl | assumption | fail), (by first | omega | rfl | assumption | fail), (by first | omega | rfl | assumption | fail)⟩) (by omega) _ (lv_sub hl [1, 2, 3, 4, 5, 0] rfl)
                  · skip
                    have c_65' : z_27.toInt = 92 := jb_ne_n (rfl) ((by decide)) c_65
                    refine lv_aload_n hx hb dX0_quoted_196 rfl (lv_at hl 0 rfl) ?_
                    refine lv_bipush (v := 92) hx hb dX0_quoted_197 (by decide) ?_
                    have hsz_74 := hh_31.2.2.2.2.2.1
                    have htt_74 := hh_31.2.2.2.2.2.2.1
                    refine W.room (fun hrc_74 hrs_74 => ?_)
                    refine va_callv (A0 := jA base) (H0 := s.heap) (va_runV (As := [.int 92]) (rest := []) ⟨hx, hb, hml, hown, hts⟩ (uX0_put l dC dI ca base B hB hAp hB2 hB196 Gx_15 H_31 r0 92 wc_15 wr_15 m_wr_15 LC LS) (cwV 1 hts (jgV (jWr_24 _ (List.mem_of_getElem? (i := 22) rfl)) (jWr_16 _ (List.mem_of_getElem? (i := 0) rfl)) (jWr_16 _ (List.mem_of_getElem? (i := 1) rfl)) (jWr_1 _ (List.mem_of_getElem? (i := 14) rfl)) (jWr_16 _ (List.mem_of_getElem? (i := 2) rfl))) rfl rfl rfl (by decide +kernel) ⟨by rw [← hR]; exact Nat.le_of_ble_eq_true rfl, by rw [← hR]; exact Nat.le_of_ble_eq_true rfl⟩) ⟨fun a U g mk q => by obtain ⟨q0, q1, q2, qK, q10, q11, q12, q13⟩ := q; exact ⟨q0, q1, q2, jG.calling g mk a qK, q10, q11, q12, q13⟩, hh_31.recv (C := RX0) (T := TX0) (N := 2) hB2 rfl (by decide) hg_16 hK, fun U hU hW => ⟨rfl, hU, hh_31.2.1, hG.step hW hU hh_31.1, hg_16, hg_wr_15, (hh_31.2.2.1.sub (L1 := [(r0, 2, 1, .int wc_15), (r0, 2, 0, .ref wr_15)]) [0, 1] rfl), (by omega), (by omega), ⟨(by first | omega | rfl | assumption | fail), (by first | omega | rfl | assumption | fail), (by first | omega | rfl | assumption | fail), (by first | omega | rfl | assumption | fail), (by first | assumption | fail | omega)⟩⟩⟩ rfl rfl hl.1 rfl (lv_room (Nat.le_of_ble_eq_true rfl)) dX0_quoted_199 ⟨by rw [hRc]; omega, by rw [hRs]; omega⟩) hh_31.1 (fun q _ h => h) (fun q h => h) (fun u_74 t_74 H_74 locs_74 ht_74 hvm_74 hr_75 hb_74 hz_74 hk_74 hS_74 => ?_)
                    obtain ⟨qc_74, qa_74, m_qa_74, G_74⟩ := u_74
                    rw [ht_74] at hb_74
                    simp only at hb_74
                    obtain ⟨⟨hb_741, hb_742, hb_743, hb_744, hb_745, hb_746⟩, hgq_74_0, hN_74, hbO_74⟩ := hb_74
                    have hh_74 : jSt (dC, dI) B base G0 G_74 EX0_quotedu9 s.heap (zcx_15 + ((m_qa_74 - m_wr_15) / 16)) (zsx_15 + (2 * (m_qa_74 - m_wr_15))) [(r0, 2, 1, .int qc_74), (r0, 2, 0, .ref qa_74)] [] [] H_74 locs_74 := (hh_31.callG hb_741 hb_742 hb_743 hb_744 hb_745 hS_74 rfl (L1 := []) [] rfl rfl (M1 := []) [] rfl rfl (I1 := []) [] rfl rfl).more hb_746
                    have hNn_74 : (jNk [0, 1, 2, 3, 4, 5, 6, 7, 8, 9, 10, 11, 12, 13, 14, 15, 16]) G0 G_74 := (hN_15).tr hN_74
                    have hg_76 := hb_742 _ _ hg_16
                    have hg_77 := hb_742 _ _ hg_17
                    have hd_78 := jOw.tr (hh_31.iv 0 rfl) hh_31.2.2.2.2.1 hbO_74
                    have hh_79 := hh_74.addI (jOw.ie (dC := dC) (dI := dI) (G0 := G0) (k := 2) (r := r0) (H0 := s.heap) (F := [(2, 0), (2, 1)]) (C := RX0) (T := TX0) (N := 2) rfl (by decide) hh_74.2.2.2.2.1 (hd_78))
                    clear hh_74
                    try simp only at hr_75
                    obtain ⟨hr_75_0, hr_75_1, hr_75_2, hr_75_3, hr_75_4⟩ := hr_75
                    have hh_80 := hh_79.wk (zc1 := (m_qa_74 - n_pa) / 16) (zs1 := 2 * (m_qa_74 - n_pa)) (by omega) (by omega)
                    clear hh_79
                    try clear hsz_74 htt_74 hrc_74 hrs_74
                    try clear hb_744 hb_745
                    refine lv_aload_n hx hb dX0_quoted_202 rfl (lv_at hl 0 rfl) ?_
                    refine lv_iload hx hb dX0_quoted_203 (lv_at hl 6 rfl) ?_
                    have hsz_81 := hh_80.2.2.2.2.2.1
                    have htt_81 := hh_80.2.2.2.2.2.2.1
                    refine W.room (fun hrc_81 hrs_81 => ?_)
                    refine va_callv (A0 := jA base) (H0 := s.heap) (va_runV (As := [.int z_27]) (rest := []) ⟨hx, hb, hml, hown, hts⟩ (uX0_character l dC dI ca base B hB hAp hB2 hB196 G_74 H_74 r0 z_27 qc_74 qa_74 m_qa_74 LC LS) (cwV 1 hts (jgV (jWr_25 _ (List.mem_of_getElem? (i := 17) rfl)) (jWr_25 _ (List.mem_of_getElem? (i := 18) rfl)) (jWr_25 _ (List.mem_of_getElem? (i := 19) rfl)) (jWr_1 _ (List.mem_of_getElem? (i := 14) rfl)) (jWr_25 _ (List.mem_of_getElem? (i := 20) rfl))) rfl rfl rfl (by decide +kernel) ⟨by rw [← hR]; exact Nat.le_of_ble_eq_true rfl, by rw [← hR]; exact Nat.le_of_ble_eq_true rfl⟩) ⟨fun a U g mk q => by obtain ⟨q0, q1, q2, qK, q10, q11, q12, q13⟩ := q; exact ⟨q0, q1, q2, jG.calling g mk a qK, q10, q11, q12, q13⟩, hh_80.recv (C := RX0) (T := TX0) (N := 2) hB2 rfl (by decide) hg_76 hK, fun U hU hW => ⟨rfl, hU, hh_80.2.1, hG.step hW hU hh_80.1, hg_76, hgq_74_0, (hh_80.2.2.1.sub (L1 := [(r0, 2, 1, .int qc_74), (r0, 2, 0, .ref qa_74)]) [0, 1] rfl), (by omega), (by omega), ⟨(by first | omega | rfl | assumption | fail), (by first | omega | rfl | assumption | fail), (by first | omega | rfl | assumption | fail), (by first | omega | rfl | assumption | fail), (by first | assumption | fail | omega)⟩⟩⟩ rfl rfl hl.1 rfl (lv_room (Nat.le_of_ble_eq_true rfl)) dX0_quoted_205 ⟨by rw [hRc]; omega, by rw [hRs]; omega⟩) hh_80.1 (fun q _ h => h) (fun q h => h) (fun u_81 t_81 H_81 locs_81 ht_81 hvm_81 hr_82 hb_81 hz_81 hk_81 hS_81 => ?_)
                    obtain ⟨qc_81, qa_81, m_qa_81, G_81⟩ := u_81
                    rw [ht_81] at hb_81
                    simp only at hb_81
                    obtain ⟨⟨hb_811, hb_812, hb_813, hb_814, hb_815, hb_816⟩, hgq_81_0, hN_81, hbO_81⟩ := hb_81
                    have hh_81 : jSt (dC, dI) B base G0 G_81 EX0_quotedu9 s.heap (((m_qa_74 - n_pa) / 16) + ((m_qa_81 - m_qa_74) / 16)) ((2 * (m_qa_74 - n_pa)) + (2 * (m_qa_81 - m_qa_74))) [(r0, 2, 1, .int qc_81), (r0, 2, 0, .ref qa_81)] [] [] H_81 locs_81 := (hh_80.callG hb_811 hb_812 hb_813 hb_814 hb_815 hS_81 rfl (L1 := []) [] rfl rfl (M1 := []) [] rfl rfl (I1 := []) [] rfl rfl).more hb_816
                    have hNn_81 : (jNk [0, 1, 2, 3, 4, 5, 6, 7, 8, 9, 10, 11, 12, 13, 14, 15, 16]) G0 G_81 := (hNn_74).tr hN_81
                    have hg_83 := hb_812 _ _ hg_76
                    have hg_84 := hb_812 _ _ hg_77
                    have hd_85 := jOw.tr (hh_80.iv 0 rfl) hh_80.2.2.2.2.1 hbO_81
                    have hh_86 := hh_81.addI (jOw.ie (dC := dC) (dI := dI) (G0 := G0) (k := 2) (r := r0) (H0 := s.heap) (F := [(2, 0), (2, 1)]) (C := RX0) (T := TX0) (N := 2) rfl (by decide) hh_81.2.2.2.2.1 (hd_85))
                    clear hh_81
                    try simp only at hr_82
                    obtain ⟨hr_82_0, hr_82_1, hr_82_2, hr_82_3, hr_82_4⟩ := hr_82
                    have hh_87 := hh_86.wk (zc1 := (m_qa_81 - n_pa) / 16) (zs1 := 2 * (m_qa_81 - n_pa)) (by omega) (by omega)
                    clear hh_86
                    try clear hsz_81 htt_81 hrc_81 hrs_81
                    try clear hb_814 hb_815
                    obtain ⟨z_88, ez_88⟩ : ∃ y : Int32, y = v5_15 + 1 := ⟨_, rfl⟩
                    refine lv_iinc (v := z_88) (lv' := [(5, .int z_88), (0, .ref r0), (1, .ref r1), (2, .int a2), (3, .int a3), (4, .int z_12), (6, .int z_27)]) hx hb dX0_quoted_208 hl (k := 5) rfl (by rw [ez_88]; rfl) (by decide) rfl (fun ls hl => ?_)
                    have hz_88 : z_88.toInt = v5_15.toInt + 1 := by rw [ez_88]; exact jb_iadd2 (rfl) (by decide) (by omega)
                    refine lv_goto (tgt := 23) hx hb dX0_quoted_211 (by decide) ?_
                    refine W.tight (c2 := ((m_qa_81 - n_pa) / 16)) (n2 := (2 * (m_qa_81 - n_pa))) hh_87.2.2.2.2.2.1 hh_87.2.2.2.2.2.2.1 ?_
                    exact L23 G_81 ((m_qa_81 - n_pa) / 16) (2 * (m_qa_81 - n_pa)) z_88 qc_81 qa_81 m_qa_81 _ _ hh_87 (hNn_81) (((hle_15).tr hb_742).tr hb_812) hgq_81_0 (⟨(by first | omega | rfl | assumption | fail), (by first | omega | rfl | assumption | fail), (by first | omega | rfl | assumption | fail), (by first | omega | rfl | assumption | fail), (by first | assumption | fail | omega), (by first | omega | rfl | assumption | fail), (by first | omega | rfl | assumption | fail), (by first | omega | rfl | assumption | fail), (by first | omega | rfl | assumption | fail)⟩) (by omega) _ (lv_sub hl [1, 2, 3, 4, 5, 0] rfl)
              · skip
                have c_48' : z_27.toInt < 32 := jb_ge_n (rfl) ((by decide)) c_48
                refine lv_aload_n hx hb dX0_quoted_126 rfl (lv_at hl 0 rfl) ?_
                refine va_ldcS hx hb hown rstr67 dX0_quoted_127 ?_
                have hsz_89 := hh_31.2.2.2.2.2.1
                have htt_89 := hh_31.2.2.2.2.2.2.1
                refine W.room (fun hrc_89 hrs_89 => ?_)
                refine va_callv (A0 := jA base) (H0 := s.heap) (va_runV (As := [.ref str67]) (rest := []) ⟨hx, hb, hml, hown, hts⟩ (uX0_text l dC dI ca base B hB hAp hB2 hB196 Gx_15 H_31 r0 str67 4 wc_15 wr_15 m_wr_15 LC LS) (cwV 1 hts (jgV (jWr_25 _ (List.mem_of_getElem? (i := 21) rfl)) (jWr_25 _ (List.mem_of_getElem? (i := 22) rfl)) (jWr_25 _ (List.mem_of_getElem? (i := 23) rfl)) (jWr_1 _ (List.mem_of_getElem? (i := 14) rfl)) (jWr_26 _ (List.mem_of_getElem? (i := 0) rfl))) rfl rfl rfl (by decide +kernel) ⟨by rw [← hR]; exact Nat.le_of_ble_eq_true rfl, by rw [← hR]; exact Nat.le_of_ble_eq_true rfl⟩) ⟨fun a U g mk q => by obtain ⟨q0, q1, q2, qK, q10, q11, q12, q13, q14⟩ := q; exact ⟨q0, q1, q2, jG.calling g mk a qK, (q10.moved (Vm.Alike.refl U.vm)), q11, q12, q13, q14⟩, hh_31.recv (C := RX0) (T := TX0) (N := 2) hB2 rfl (by decide) hg_16 hK, fun U hU hW => ⟨rfl, hU, hh_31.2.1, hG.step hW hU hh_31.1, (hstr67.moved hW.alike).kept hh_31.1.2.1, hg_16, hg_wr_15, (hh_31.2.2.1.sub (L1 := [(r0, 2, 1, .int wc_15), (r0, 2, 0, .ref wr_15)]) [0, 1] rfl), (by omega), (by omega), ⟨(by first | omega | rfl | assumption | fail), (by first | omega | rfl | assumption | fail), (by first | omega | rfl | assumption | fail), (by first | omega | rfl | assumption | fail), (by first | assumption | fail | omega), (by first | omega | rfl | assumption | fail)⟩⟩⟩ rfl rfl hl.1 rfl (lv_room (Nat.le_of_ble_eq_true rfl)) dX0_quoted_129 ⟨by rw [hRc]; omega, by rw [hRs]; omega⟩) hh_31.1 (fun q _ h => h) (fun q h => h) (fun u_89 t_89 H_89 locs_89 ht_89 hvm_89 hr_90 hb_89 hz_89 hk_89 hS_89 => ?_)
                obtain ⟨qc_89, qa_89, m_qa_89, G_89⟩ := u_89
                rw [ht_89] at hb_89
                simp only at hb_89
                obtain ⟨⟨hb_891, hb_892, hb_893, hb_894, hb_895, hb_896⟩, hgq_89_0, hN_89, hbO_89⟩ := hb_89
                have hh_89 : jSt (dC, dI) B base G0 G_89 EX0_quotedu9 s.heap (zcx_15 + ((m_qa_89 - m_wr_15) / 16)) (zsx_15 + (2 * (m_qa_89 - m_wr_15))) [(r0, 2, 1, .int qc_89), (r0, 2, 0, .ref qa_89)] [] [] H_89 locs_89 := (hh_31.callG hb_891 hb_892 hb_893 hb_894 hb_895 hS_89 rfl (L1 := []) [] rfl rfl (M1 := []) [] rfl rfl (I1 := []) [] rfl rfl).more hb_896
                have hNn_89 : (jNk [0, 1, 2, 3, 4, 5, 6, 7, 8, 9, 10, 11, 12, 13, 14, 15, 16]) G0 G_89 := (hN_15).tr hN_89
                have hg_91 := hb_892 _ _ hg_16
                have hg_92 := hb_892 _ _ hg_17
                have hd_93 := jOw.tr (hh_31.iv 0 rfl) hh_31.2.2.2.2.1 hbO_89
                have hh_94 := hh_89.addI (jOw.ie (dC := dC) (dI := dI) (G0 := G0) (k := 2) (r := r0) (H0 := s.heap) (F := [(2, 0), (2, 1)]) (C := RX0) (T := TX0) (N := 2) rfl (by decide) hh_89.2.2.2.2.1 (hd_93))
                clear hh_89
                try simp only at hr_90
                obtain ⟨hr_90_0, hr_90_1, hr_90_2, hr_90_3, hr_90_4⟩ := hr_90
                have hh_95 := hh_94.wk (zc1 := (m_qa_89 - n_pa) / 16) (zs1 := 2 * (m_qa_89 - n_pa)) (by omega) (by omega)
                clear hh_94
                try clear hsz_89 htt_89 hrc_89 hrs_89
                try clear hb_894 hb_895
                refine lv_aload_n hx hb dX0_quoted_132 rfl (lv_at hl 0 rfl) ?_
                refine lv_bipush (v := 48) hx hb dX0_quoted_133 (by decide) ?_
                refine lv_iload hx hb dX0_quoted_135 (lv_at hl 6 rfl) ?_
                refine lv_iconst (v := 4) hx hb dX0_quoted_137 (by decide) ?_
                refine lv_ishr hx hb dX0_quoted_138 ?_
                refine lv_topi (fun z_96 ez_96 => ?_)
                have hz_96 : z_96.toInt = z_27.toInt / 2 ^ 4 := by rw [ez_96]; exact jb_ishr 4 (rfl) (by decide)
                refine lv_iadd hx hb dX0_quoted_139 ?_
                refine lv_topi (fun z_97 ez_97 => ?_)
                have hsz_98 := hh_95.2.2.2.2.2.1
                have htt_98 := hh_95.2.2.2.2.2.2.1
                refine W.room (fun hrc_98 hrs_98 => ?_)
                refine va_callv (A0 := jA base) (H0 := s.heap) (va_runV (As := [.int z_97]) (rest := []) ⟨hx, hb, hml, hown, hts⟩ (uX0_put l dC dI ca base B hB hAp hB2 hB196 G_89 H_89 r0 z_97 qc_89 qa_89 m_qa_89 LC LS) (cwV 1 hts (jgV (jWr_24 _ (List.mem_of_getElem? (i := 22) rfl)) (jWr_16 _ (List.mem_of_getElem? (i := 0) rfl)) (jWr_16 _ (List.mem_of_getElem? (i := 1) rfl)) (jWr_1 _ (List.mem_of_getElem? (i := 14) rfl)) (jWr_16 _ (List.mem_of_getElem? (i := 2) rfl))) rfl rfl rfl (by decide +kernel) ⟨by rw [← hR]; exact Nat.le_of_ble_eq_true rfl, by rw [← hR]; exact Nat.le_of_ble_eq_true rfl⟩) ⟨fun a U g mk q => by obtain ⟨q0, q1, q2, qK, q10, q11, q12, q13⟩ := q; exact ⟨q0, q1, q2, jG.calling g mk a qK, q10, q11, q12, q13⟩, hh_95.recv (C := RX0) (T := TX0) (N := 2) hB2 rfl (by decide) hg_91 hK, fun U hU hW => ⟨rfl, hU, hh_95.2.1, hG.step hW hU hh_95.1, hg_91, hgq_89_0, (hh_95.2.2.1.sub (L1 := [(r0, 2, 1, .int qc_89), (r0, 2, 0, .ref qa_89)]) [0, 1] rfl), (by omega), (by omega), ⟨(by first | omega | rfl | assumption | fail), (by first | omega | rfl | assumption | fail), (by first | omega | rfl | assumption | fail), (by first | omega | rfl | assumption | fail), (by first | assumption | fail | omega)⟩⟩⟩ rfl rfl hl.1 rfl (lv_room (Nat.le_of_ble_eq_true rfl)) dX0_quoted_140 ⟨by rw [hRc]; omega, by rw [hRs]; omega⟩) hh_95.1 (fun q _ h => h) (fun q h => h) (fun u_98 t_98 H_98 locs_98 ht_98 hvm_98 hr_99 hb_98 hz_98 hk_98 hS_98 => ?_)
                obtain ⟨qc_98, qa_98, m_qa_98, G_98⟩ := u_98
                rw [ht_98] at hb_98
                simp only at hb_98
                obtain ⟨⟨hb_981, hb_982, hb_983, hb_984, hb_985, hb_986⟩, hgq_98_0, hN_98, hbO_98⟩ := hb_98
                have hh_98 : jSt (dC, dI) B base G0 G_98 EX0_quotedu9 s.heap (((m_qa_89 - n_pa) / 16) + ((m_qa_98 - m_qa_89) / 16)) ((2 * (m_qa_89 - n_pa)) + (2 * (m_qa_98 - m_qa_89))) [(r0, 2, 1, .int qc_98), (r0, 2, 0, .ref qa_98)] [] [] H_98 locs_98 := (hh_95.callG hb_981 hb_982 hb_983 hb_984 hb_985 hS_98 rfl (L1 := []) [] rfl rfl (M1 := []) [] rfl rfl (I1 := []) [] rfl rfl).more hb_986
                have hNn_98 : (jNk [0, 1, 2, 3, 4, 5, 6, 7, 8, 9, 10, 11, 12, 13, 14, 15, 16]) G0 G_98 := (hNn_89).tr hN_98
                have hg_100 := hb_982 _ _ hg_91
                have hg_101 := hb_982 _ _ hg_92
                have hd_102 := jOw.tr (hh_95.iv 0 rfl) hh_95.2.2.2.2.1 hbO_98
                have hh_103 := hh_98.addI (jOw.ie (dC := dC) (dI := dI) (G0 := G0) (k := 2) (r := r0) (H0 := s.heap) (F := [(2, 0), (2, 1)]) (C := RX0) (T := TX0) (N := 2) rfl (by decide) hh_98.2.2.2.2.1 (hd_102))
                clear hh_98
                try simp only at hr_99
                obtain ⟨hr_99_0, hr_99_1, hr_99_2, hr_99_3, hr_99_4⟩ := hr_99
                have hh_104 := hh_103.wk (zc1 := (m_qa_98 - n_pa) / 16) (zs1 := 2 * (m_qa_98 - n_pa)) (by omega) (by omega)
                clear hh_103
                try clear hsz_98 htt_98 hrc_98 hrs_98
                try clear hb_984 hb_985
                refine lv_aload_n hx hb dX0_quoted_143 rfl (lv_at hl 0 rfl) ?_
                refine lv_iload hx hb dX0_quoted_144 (lv_at hl 6 rfl) ?_
                refine lv_bipush (v := 15) hx hb dX0_quoted_146 (by decide) ?_
                refine lv_iand hx hb dX0_quoted_148 ?_
                refine lv_topi (fun z_105 ez_105 => ?_)
                have hz_105 : 0 ≤ z_105.toInt ∧ z_105.toInt ≤ 15 := by rw [ez_105]; exact jb_and z_27 (m := 15) (k := 4) (by decide) (by decide)
                refine lv_bipush (v := 10) hx hb dX0_quoted_149 (by decide) ?_
                refine lv_icmp_ge (tgt := 165) hx hb dX0_quoted_151 (by decide) (fun c_106 => ?_) (fun c_106 => ?_)
                · skip
                  have c_106' : z_105.toInt ≥ 10 := jb_ge (rfl) ((by decide)) c_106
                  refine lv_bipush (v := 97) hx hb dX0_quoted_165 (by decide) ?_
                  refine lv_iload hx hb dX0_quoted_167 (lv_at hl 6 rfl) ?_
                  refine lv_bipush (v := 15) hx hb dX0_quoted_169 (by decide) ?_
                  refine lv_iand hx hb dX0_quoted_171 ?_
                  refine lv_topi (fun z_107 ez_107 => ?_)
                  have hz_107 : 0 ≤ z_107.toInt ∧ z_107.toInt ≤ 15 := by rw [ez_107]; exact jb_and z_27 (m := 15) (k := 4) (by decide) (by decide)
                  refine lv_iadd hx hb dX0_quoted_172 ?_
                  refine lv_topi (fun z_108 ez_108 => ?_)
                  refine lv_bipush (v := 10) hx hb dX0_quoted_173 (by decide) ?_
                  refine lv_isub hx hb dX0_quoted_175 ?_
                  refine lv_topi (fun z_109 ez_109 => ?_)
                  have hsz_110 := hh_104.2.2.2.2.2.1
                  have htt_110 := hh_104.2.2.2.2.2.2.1
                  refine W.room (fun hrc_110 hrs_110 => ?_)
                  refine va_callv (A0 := jA base) (H0 := s.heap) (va_runV (As := [.int z_109]) (rest := []) ⟨hx, hb, hml, hown, hts⟩ (uX0_put l dC dI ca base B hB hAp hB2 hB196 G_98 H_98 r0 z_109 qc_98 qa_98 m_qa_98 LC LS) (cwV 1 hts (jgV (jWr_24 _ (List.mem_of_getElem? (i := 22) rfl)) (jWr_16 _ (List.mem_of_getElem? (i := 0) rfl)) (jWr_16 _ (List.mem_of_getElem? (i := 1) rfl)) (jWr_1 _ (List.mem_of_getElem? (i := 14) rfl)) (jWr_16 _ (List.mem_of_getElem? (i := 2) rfl))) rfl rfl rfl (by decide +kernel) ⟨by rw [← hR]; exact Nat.le_of_ble_eq_true rfl, by rw [← hR]; exact Nat.le_of_ble_eq_true rfl⟩) ⟨fun a U g mk q => by obtain ⟨q0, q1, q2, qK, q10, q11, q12, q13⟩ := q; exact ⟨q0, q1, q2, jG.calling g mk a qK, q10, q11, q12, q13⟩, hh_104.recv (C := RX0) (T := TX0) (N := 2) hB2 rfl (by decide) hg_100 hK, fun U hU hW => ⟨rfl, hU, hh_104.2.1, hG.step hW hU hh_104.1, hg_100, hgq_98_0, (hh_104.2.2.1.sub (L1 := [(r0, 2, 1, .int qc_98), (r0, 2, 0, .ref qa_98)]) [0, 1] rfl), (by omega), (by omega), ⟨(by first | omega | rfl | assumption | fail), (by first | omega | rfl | assumption | fail), (by first | omega | rfl | assumption | fail), (by first | omega | rfl | assumption | fail), (by first | assumption | fail | omega)⟩⟩⟩ rfl rfl hl.1 rfl (lv_room (Nat.le_of_ble_eq_true rfl)) dX0_quoted_176 ⟨by rw [hRc]; omega, by rw [hRs]; omega⟩) hh_104.1 (fun q _ h => h) (fun q h => h) (fun u_110 t_110 H_110 locs_110 ht_110 hvm_110 hr_111 hb_110 hz_110 hk_110 hS_110 => ?_)
                  obtain ⟨qc_110, qa_110, m_qa_110, G_110⟩ := u_110
                  rw [ht_110] at hb_110
                  simp only at hb_110
                  obtain ⟨⟨hb_1101, hb_1102, hb_1103, hb_1104, hb_1105, hb_1106⟩, hgq_110_0, hN_110, hbO_110⟩ := hb_110
                  have hh_110 : jSt (dC, dI) B base G0 G_110 EX0_quotedu9 s.heap (((m_qa_98 - n_pa) / 16) + ((m_qa_110 - m_qa_98) / 16)) ((2 * (m_qa_98 - n_pa)) + (2 * (m_qa_110 - m_qa_98))) [(r0, 2, 1, .int qc_110), (r0, 2, 0, .ref qa_110)] [] [] H_110 locs_110 := (hh_104.callG hb_1101 hb_1102 hb_1103 hb_1104 hb_1105 hS_110 rfl (L1 := []) [] rfl rfl (M1 := []) [] rfl rfl (I1 := []) [] rfl rfl).more hb_1106
                  have hNn_110 : (jNk [0, 1, 2, 3, 4, 5, 6, 7, 8, 9, 10, 11, 12, 13, 14, 15, 16]) G0 G_110 := (hNn_98).tr hN_110
                  have hg_112 := hb_1102 _ _ hg_100
                  have hg_113 := hb_1102 _ _ hg_101
                  have hd_114 := jOw.tr (hh_104.iv 0 rfl) hh_104.2.2.2.2.1 hbO_110
                  have hh_115 := hh_110.addI (jOw.ie (dC := dC) (dI := dI) (G0 := G0) (k := 2) (r := r0) (H0 := s.heap) (F := [(2, 0), (2, 1)]) (C := RX0) (T := TX0) (N := 2) rfl (by decide) hh_110.2.2.2.2.1 (hd_114))
                  clear hh_110
                  try simp only at hr_111
                  obtain ⟨hr_111_0, hr_111_1, hr_111_2, hr_111_3, hr_111_4⟩ := hr_111
                  have hh_116 := hh_115.wk (zc1 := (m_qa_110 - n_pa) / 16) (zs1 := 2 * (m_qa_110 - n_pa)) (by omega) (by omega)
                  clear hh_115
                  try clear hsz_110 htt_110 hrc_110 hrs_110
                  try clear hb_1104 hb_1105
                  refine lv_goto (tgt := 208) hx hb dX0_quoted_179 (by decide) ?_
                  obtain ⟨z_117, ez_117⟩ : ∃ y : Int32, y = v5_15 + 1 := ⟨_, rfl⟩
                  refine lv_iinc (v := z_117) (lv' := [(5, .int z_117), (0, .ref r0), (1, .ref r1), (2, .int a2), (3, .int a3), (4, .int z_12), (6, .int z_27)]) hx hb dX0_quoted_208 hl (k := 5) rfl (by rw [ez_117]; rfl) (by decide) rfl (fun ls hl => ?_)
                  have hz_117 : z_117.toInt = v5_15.toInt + 1 := by rw [ez_117]; exact jb_iadd2 (rfl) (by decide) (by omega)
                  refine lv_goto (tgt := 23) hx hb dX0_quoted_211 (by decide) ?_
                  refine W.tight (c2 := ((m_qa_110 - n_pa) / 16)) (n2 := (2 * (m_qa_110 - n_pa))) hh_116.2.2.2.2.2.1 hh_116.2.2.2.2.2.2.1 ?_
                  exact L23 G_110 ((m_qa_110 - n_pa) / 16) (2 * (m_qa_110 - n_pa)) z_117 qc_110 qa_110 m_qa_110 _ _ hh_116 (hNn_110) ((((hle_15).tr hb_892).tr hb_982).tr hb_1102) hgq_110_0 (⟨(by first | omega | rfl | assumption | fail), (by first | omega | rfl | assumption | fail), (by first | omega | rfl | assumption | fail), (by first | omega | rfl | assumption | fail), (by first | assumption | fail | omega), (by first | omega | rfl | assumption | fail), (by first | omega | rfl | assumption | fail), (by first | omega | rfl | assumption | fail), (by first | omega | rfl | assumption | fail)⟩) (by omega) _ (lv_sub hl [1, 2, 3, 4, 5, 0] rfl)
                · skip
                  have c_106' : z_105.toInt < 10 := jb_ge_n (rfl) ((by decide)) c_106
                  refine lv_bipush (v := 48) hx hb dX0_quoted_154 (by decide) ?_
                  refine lv_iload hx hb dX0_quoted_156 (lv_at hl 6 rfl) ?_
                  refine lv_bipush (v := 15) hx hb dX0_quoted_158 (by decide) ?_
                  refine lv_iand hx hb dX0_quoted_160 ?_
                  refine lv_topi (fun z_118 ez_118 => ?_)
                  have hz_118 : 0 ≤ z_118.toInt ∧ z_118.toInt ≤ 15 := by rw [ez_118]; exact jb_and z_27 (m := 15) (k := 4) (by decide) (by decide)
                  refine lv_iadd hx hb dX0_quoted_161 ?_
                  refine lv_topi (fun z_119 ez_119 => ?_)
                  refine lv_goto (tgt := 176) hx hb dX0_quoted_162 (by decide) ?_
                  have hsz_120 := hh_104.2.2.2.2.2.1
                  have htt_120 := hh_104.2.2.2.2.2.2.1
                  refine W.room (fun hrc_120 hrs_120 => ?_)
                  refine va_callv (A0 := jA base) (H0 := s.heap) (va_runV (As := [.int z_119]) (rest := []) ⟨hx, hb, hml, hown, hts⟩ (uX0_put l dC dI ca base B hB hAp hB2 hB196 G_98 H_98 r0 z_119 qc_98 qa_98 m_qa_98 LC LS) (cwV 1 hts (jgV (jWr_24 _ (List.mem_of_getElem? (i := 22) rfl)) (jWr_16 _ (List.mem_of_getElem? (i := 0) rfl)) (jWr_16 _ (List.mem_of_getElem? (i := 1) rfl)) (jWr_1 _ (List.mem_of_getElem? (i := 14) rfl)) (jWr_16 _ (List.mem_of_getElem? (i := 2) rfl))) rfl rfl rfl (by decide +kernel) ⟨by rw [← hR]; exact Nat.le_of_ble_eq_true rfl, by rw [← hR]; exact Nat.le_of_ble_eq_true rfl⟩) ⟨fun a U g mk q => by obtain ⟨q0, q1, q2, qK, q10, q11, q12, q13⟩ := q; exact ⟨q0, q1, q2, jG.calling g mk a qK, q10, q11, q12, q13⟩, hh_104.recv (C := RX0) (T := TX0) (N := 2) hB2 rfl (by decide) hg_100 hK, fun U hU hW => ⟨rfl, hU, hh_104.2.1, hG.step hW hU hh_104.1, hg_100, hgq_98_0, (hh_104.2.2.1.sub (L1 := [(r0, 2, 1, .int qc_98), (r0, 2, 0, .ref qa_98)]) [0, 1] rfl), (by omega), (by omega), ⟨(by first | omega | rfl | assumption | fail), (by first | omega | rfl | assumption | fail), (by first | omega | rfl | assumption | fail), (by first | omega | rfl | assumption | fail), (by first | assumption | fail | omega)⟩⟩⟩ rfl rfl hl.1 rfl (lv_room (Nat.le_of_ble_eq_true rfl)) dX0_quoted_176 ⟨by rw [hRc]; omega, by rw [hRs]; omega⟩) hh_104.1 (fun q _ h => h) (fun q h => h) (fun u_120 t_120 H_120 locs_120 ht_120 hvm_120 hr_121 hb_120 hz_120 hk_120 hS_120 => ?_)
                  obtain ⟨qc_120, qa_120, m_qa_120, G_120⟩ := u_120
                  rw [ht_120] at hb_120
                  simp only at hb_120
                  obtain ⟨⟨hb_1201, hb_1202, hb_1203, hb_1204, hb_1205, hb_1206⟩, hgq_120_0, hN_120, hbO_120⟩ := hb_120
                  have hh_120 : jSt (dC, dI) B base G0 G_120 EX0_quotedu9 s.heap (((m_qa_98 - n_pa) / 16) + ((m_qa_120 - m_qa_98) / 16)) ((2 * (m_qa_98 - n_pa)) + (2 * (m_qa_120 - m_qa_98))) [(r0, 2, 1, .int qc_120), (r0, 2, 0, .ref qa_120)] [] [] H_120 locs_120 := (hh_104.callG hb_1201 hb_1202 hb_1203 hb_1204 hb_1205 hS_120 rfl (L1 := []) [] rfl rfl (M1 := []) [] rfl rfl (I1 := []) [] rfl rfl).more hb_1206
                  have hNn_120 : (jNk [0, 1, 2, 3, 4, 5, 6, 7, 8, 9, 10, 11, 12, 13, 14, 15, 16]) G0 G_120 := (hNn_98).tr hN_120
                  have hg_122 := hb_1202 _ _ hg_100
                  have hg_123 := hb_1202 _ _ hg_101
                  have hd_124 := jOw.tr (hh_104.iv 0 rfl) hh_104.2.2.2.2.1 hbO_120
                  have hh_125 := hh_120.addI (jOw.ie (dC := dC) (dI := dI) (G0 := G0) (k := 2) (r := r0) (H0 := s.heap) (F := [(2, 0), (2, 1)]) (C := RX0) (T := TX0) (N := 2) rfl (by decide) hh_120.2.2.2.2.1 (hd_124))
                  clear hh_120
                  try simp only at hr_121
                  obtain ⟨hr_121_0, hr_121_1, hr_121_2, hr_121_3, hr_121_4⟩ := hr_121
                  have hh_126 := hh_125.wk (zc1 := (m_qa_120 - n_pa) / 16) (zs1 := 2 * (m_qa_120 - n_pa)) (by omega) (by omega)
                  clear hh_125
                  try clear hsz_120 htt_120 hrc_120 hrs_120
                  try clear hb_1204 hb_1205
                  refine lv_goto (tgt := 208) hx hb dX0_quoted_179 (by decide) ?_
                  obtain ⟨z_127, ez_127⟩ : ∃ y : Int32, y = v5_15 + 1 := ⟨_, rfl⟩
                  refine lv_iinc (v := z_127) (lv' := [(5, .int z_127), (0, .ref r0), (1, .ref r1), (2, .int a2), (3, .int a3), (4, .int z_12), (6, .int z_27)]) hx hb dX0_quoted_208 hl (k := 5) rfl (by rw [ez_127]; rfl) (by decide) rfl (fun ls hl => ?_)
                  have hz_127 : z_127.toInt = v5_15.toInt + 1 := by rw [ez_127]; exact jb_iadd2 (rfl) (by decide) (by omega)
                  refine lv_goto (tgt := 23) hx hb dX0_quoted_211 (by decide) ?_
                  refine W.tight (c2 := ((m_qa_120 - n_pa) / 16)) (n2 := (2 * (m_qa_120 - n_pa))) hh_126.2.2.2.2.2.1 hh_126.2.2.2.2.2.2.1 ?_
                  exact L23 G_120 ((m_qa_120 - n_pa) / 16) (2 * (m_qa_120 - n_pa)) z_127 qc_120 qa_120 m_qa_120 _ _ hh_126 (hNn_120) ((((hle_15).tr hb_892).tr hb_982).tr hb_1202) hgq_120_0 (⟨(by first | omega | rfl | assumption | fail), (by first | omega | rfl | assumption | fail), (by first | omega | rfl | assumption | fail), (by first | omega | rfl | assumption | fail), (by first | assumption | fail | omega), (by first | omega | rfl | assumption | fail), (by first | omega | rfl | assumption | fail), (by first | omega | rfl | assumption | fail), (by first | omega | rfl | assumption | fail)⟩) (by omega) _ (lv_sub hl [1, 2, 3, 4, 5, 0] rfl)
            · skip
              have c_47' : r_44.toInt ≠ 0 := jb_eq_n (rfl) ((by decide)) c_47
              refine lv_aload_n hx hb dX0_quoted_110 rfl (lv_at hl 0 rfl) ?_
              refine lv_ldc hx hb hown hcs_66 dX0_quoted_111 ?_
              have hsz_128 := hh_31.2.2.2.2.2.1
              have htt_128 := hh_31.2.2.2.2.2.2.1
              refine W.room (fun hrc_128 hrs_128 => ?_)
              refine va_callv (A0 := jA base) (H0 := s.heap) (va_runV (As := [.int 65533]) (rest := []) ⟨hx, hb, hml, hown, hts⟩ (uX0_character l dC dI ca base B hB hAp hB2 hB196 Gx_15 H_31 r0 65533 wc_15 wr_15 m_wr_15 LC LS) (cwV 1 hts (jgV (jWr_25 _ (List.mem_of_getElem? (i := 17) rfl)) (jWr_25 _ (List.mem_of_getElem? (i := 18) rfl)) (jWr_25 _ (List.mem_of_getElem? (i := 19) rfl)) (jWr_1 _ (List.mem_of_getElem? (i := 14) rfl)) (jWr_25 _ (List.mem_of_getElem? (i := 20) rfl))) rfl rfl rfl (by decide +kernel) ⟨by rw [← hR]; exact Nat.le_of_ble_eq_true rfl, by rw [← hR]; exact Nat.le_of_ble_eq_true rfl⟩) ⟨fun a U g mk q => by obtain ⟨q0, q1, q2, qK, q10, q11, q12, q13⟩ := q; exact ⟨q0, q1, q2, jG.calling g mk a qK, q10, q11, q12, q13⟩, hh_31.recv (C := RX0) (T := TX0) (N := 2) hB2 rfl (by decide) hg_16 hK, fun U hU hW => ⟨rfl, hU, hh_31.2.1, hG.step hW hU hh_31.1, hg_16, hg_wr_15, (hh_31.2.2.1.sub (L1 := [(r0, 2, 1, .int wc_15), (r0, 2, 0, .ref wr_15)]) [0, 1] rfl), (by omega), (by omega), ⟨(by first | omega | rfl | assumption | fail), (by first | omega | rfl | assumption | fail), (by first | omega | rfl | assumption | fail), (by first | omega | rfl | assumption | fail), (by first | assumption | fail | omega)⟩⟩⟩ rfl rfl hl.1 rfl (lv_room (Nat.le_of_ble_eq_true rfl)) dX0_quoted_113 ⟨by rw [hRc]; omega, by rw [hRs]; omega⟩) hh_31.1 (fun q _ h => h) (fun q h => h) (fun u_128 t_128 H_128 locs_128 ht_128 hvm_128 hr_129 hb_128 hz_128 hk_128 hS_128 => ?_)
              obtain ⟨qc_128, qa_128, m_qa_128, G_128⟩ := u_128
              rw [ht_128] at hb_128
              simp only at hb_128
              obtain ⟨⟨hb_1281, hb_1282, hb_1283, hb_1284, hb_1285, hb_1286⟩, hgq_128_0, hN_128, hbO_128⟩ := hb_128
              have hh_128 : jSt (dC, dI) B base G0 G_128 EX0_quotedu9 s.heap (zcx_15 + ((m_qa_128 - m_wr_15) / 16)) (zsx_15 + (2 * (m_qa_128 - m_wr_15))) [(r0, 2, 1, .int qc_128), (r0, 2, 0, .ref qa_128)] [] [] H_128 locs_128 := (hh_31.callG hb_1281 hb_1282 hb_1283 hb_1284 hb_1285 hS_128 rfl (L1 := []) [] rfl rfl (M1 := []) [] rfl rfl (I1 := []) [] rfl rfl).more hb_1286
              have hNn_128 : (jNk [0, 1, 2, 3, 4, 5, 6, 7, 8, 9, 10, 11, 12, 13, 14, 15, 16]) G0 G_128 := (hN_15).tr hN_128
              have hg_130 := hb_1282 _ _ hg_16
              have hg_131 := hb_1282 _ _ hg_17
              have hd_132 := jOw.tr (hh_31.iv 0 rfl) hh_31.2.2.2.2.1 hbO_128
              have hh_133 := hh_128.addI (jOw.ie (dC := dC) (dI := dI) (G0 := G0) (k := 2) (r := r0) (H0 := s.heap) (F := [(2, 0), (2, 1)]) (C := RX0) (T := TX0) (N := 2) rfl (by decide) hh_128.2.2.2.2.1 (hd_132))
              clear hh_128
              try simp only at hr_129
              obtain ⟨hr_129_0, hr_129_1, hr_129_2, hr_129_3, hr_129_4⟩ := hr_129
              have hh_134 := hh_133.wk (zc1 := (m_qa_128 - n_pa) / 16) (zs1 := 2 * (m_qa_128 - n_pa)) (by omega) (by omega)
              clear hh_133
              try clear hsz_128 htt_128 hrc_128 hrs_128
              try clear hb_1284 hb_1285
              refine lv_goto (tgt := 208) hx hb dX0_quoted_116 (by decide) ?_
              obtain ⟨z_135, ez_135⟩ : ∃ y : Int32, y = v5_15 + 1 := ⟨_, rfl⟩
              refine lv_iinc (v := z_135) (lv' := [(5, .int z_135), (0, .ref r0), (1, .ref r1), (2, .int a2), (3, .int a3), (4, .int z_12), (6, .int z_27)]) hx hb dX0_quoted_208 hl (k := 5) rfl (by rw [ez_135]; rfl) (by decide) rfl (fun ls hl => ?_)
              have hz_135 : z_135.toInt = v5_15.toInt + 1 := by rw [ez_135]; exact jb_iadd2 (rfl) (by decide) (by omega)
              refine lv_goto (tgt := 23) hx hb dX0_quoted_211 (by decide) ?_
              refine W.tight (c2 := ((m_qa_128 - n_pa) / 16)) (n2 := (2 * (m_qa_128 - n_pa))) hh_134.2.2.2.2.2.1 hh_134.2.2.2.2.2.2.1 ?_
              exact L23 G_128 ((m_qa_128 - n_pa) / 16) (2 * (m_qa_128 - n_pa)) z_135 qc_128 qa_128 m_qa_128 _ _ hh_134 (hNn_128) ((hle_15).tr hb_1282) hgq_128_0 (⟨(by first | omega | rfl | assumption | fail), (by first | omega | rfl | assumption | fail), (by first | omega | rfl | assumption | fail), (by first | omega | rfl | assumption | fail), (by first | assumption | fail | omega), (by first | omega | rfl | assumption | fail), (by first | omega | rfl | assumption | fail), (by first | omega | rfl | assumption | fail), (by first | omega | rfl | assumption | fail)⟩) (by omega) _ (lv_sub hl [1, 2, 3, 4, 5, 0] rfl)
        refine lv_if_eq (tgt := 94) hx hb dX0_quoted_41 (by decide) (fun c_136 => ?_) (fun c_136 => ?_)
        · skip
          have c_136' : r_28.toInt = 0 := jb_eq (rfl) ((by decide)) c_136
          refine W.tight (c2 := zcx_15) (n2 := zsx_15) hh_15.2.2.2.2.2.1 hh_15.2.2.2.2.2.2.1 ?_
          exact C94  _ _ hh_15 (trivial) _ (lv_sub hl [1, 2, 3, 4, 5, 6, 0] rfl)
        · skip
          have c_136' : r_28.toInt ≠ 0 := jb_eq_n (rfl) ((by decide)) c_136
          refine lv_iload hx hb dX0_quoted_44 (lv_at hl 6 rfl) ?_
          refine lv_iconst (v := 1) hx hb dX0_quoted_46 (by decide) ?_
          refine lv_iadd hx hb dX0_quoted_47 ?_
          refine lv_topi (fun z_137 ez_137 => ?_)
          have hz_137 : z_137.toInt = v5_15.toInt + 1 := by rw [ez_137]; exact jb_iadd2 (rfl) ((by decide)) (by omega)
          refine lv_iload hx hb dX0_quoted_48 (lv_at hl 5 rfl) ?_
          refine lv_icmp_ge (tgt := 94) hx hb dX0_quoted_50 (by decide) (fun c_138 => ?_) (fun c_138 => ?_)
          · skip
            have c_138' : z_137.toInt ≥ z_12.toInt := jb_ge (rfl) (rfl) c_138
            refine W.tight (c2 := zcx_15) (n2 := zsx_15) hh_15.2.2.2.2.2.1 hh_15.2.2.2.2.2.2.1 ?_
            exact C94  _ _ hh_15 (trivial) _ (lv_sub hl [1, 2, 3, 4, 5, 6, 0] rfl)
          · skip
            have c_138' : z_137.toInt < z_12.toInt := jb_ge_n (rfl) (rfl) c_138
            refine lv_aload_n hx hb dX0_quoted_53 rfl (lv_at hl 2 rfl) ?_
            refine lv_iload hx hb dX0_quoted_54 (lv_at hl 6 rfl) ?_
            refine lv_iconst (v := 1) hx hb dX0_quoted_56 (by decide) ?_
            refine lv_iadd hx hb dX0_quoted_57 ?_
            refine lv_topi (fun z_139 ez_139 => ?_)
            have hz_139 : z_139.toInt = v5_15.toInt + 1 := by rw [ez_139]; exact jb_iadd2 (rfl) ((by decide)) (by omega)
            refine j7_iald hx hb hK hh_15 hB174 1 rfl (by decide) hg_17 (x := z_139.toInt) (rfl) (by omega) dX0_quoted_58 (fun z_140 (hz_140 : True) => ?_)
            have hsz_143 := hh_15.2.2.2.2.2.1
            have htt_143 := hh_15.2.2.2.2.2.2.1
            refine W.room (fun hrc_143 hrs_143 => ?_)
            have hsz_142 := hh_15.2.2.2.2.2.1
            have htt_142 := hh_15.2.2.2.2.2.2.1
            refine W.room (fun hrc_142 hrs_142 => ?_)
            refine vp_callSi (W.runS (As := [.int z_140]) (rest := []) ⟨hx, hb, hml, hown, hts⟩ (wX0_isLow l dC dI ca base H_15 z_140) (va_cwS 1 hts (jgS (jWr_25 _ (List.mem_of_getElem? (i := 16) rfl)) (jWr_21 _ (List.mem_of_getElem? (i := 10) rfl)) (jWr_1 _ (List.mem_of_getElem? (i := 14) rfl)) (jWr_21 _ (List.mem_of_getElem? (i := 11) rfl))) rfl rfl rfl (by decide +kernel) ⟨by rw [← hR]; exact Nat.le_of_ble_eq_true rfl, by rw [← hR]; exact Nat.le_of_ble_eq_true rfl⟩) ⟨fun a U g mk q => by obtain ⟨q0, q1, qK, q9⟩ := q; exact ⟨q0, q1, jG.calling g mk a qK, q9⟩, fun U hU hW => ⟨rfl, hU, hG.step hW hU hh_15.1, by first | trivial | omega | (constructor <;> omega)⟩⟩ rfl rfl hl.1 rfl (lv_room (Nat.le_of_ble_eq_true rfl)) dX0_quoted_59 ⟨by rw [hRc]; omega, by rw [hRs]; omega⟩) (fun r_141 hr_141 => ?_)
            have hr_141' : r_141.toInt = 0 ∨ r_141.toInt = 1 := jb_01 hr_141
            refine lv_if_eq (tgt := 94) hx hb dX0_quoted_62 (by decide) (fun c_144 => ?_) (fun c_144 => ?_)
            · skip
              have c_144' : r_141.toInt = 0 := jb_eq (rfl) ((by decide)) c_144
              refine W.tight (c2 := zcx_15) (n2 := zsx_15) hh_15.2.2.2.2.2.1 hh_15.2.2.2.2.2.2.1 ?_
              exact C94  _ _ hh_15 (trivial) _ (lv_sub hl [1, 2, 3, 4, 5, 6, 0] rfl)
            · skip
              have c_144' : r_141.toInt ≠ 0 := jb_eq_n (rfl) ((by decide)) c_144
              obtain ⟨z_145, ez_145⟩ : ∃ y : Int32, y = v5_15 + 1 := ⟨_, rfl⟩
              refine lv_iinc (v := z_145) (lv' := [(5, .int z_145), (6, .int z_27), (0, .ref r0), (1, .ref r1), (2, .int a2), (3, .int a3), (4, .int z_12)]) hx hb dX0_quoted_65 hl (k := 6) rfl (by rw [ez_145]; rfl) (by decide) rfl (fun ls hl => ?_)
              have hz_145 : z_145.toInt = v5_15.toInt + 1 := by rw [ez_145]; exact jb_iadd2 (rfl) (by decide) (by omega)
              refine lv_aload_n hx hb dX0_quoted_68 rfl (lv_at hl 2 rfl) ?_
              refine lv_ldc hx hb hown hcs_60 dX0_quoted_69 ?_
              refine lv_iload hx hb dX0_quoted_71 (lv_at hl 1 rfl) ?_
              refine lv_ldc hx hb hown hcs_61 dX0_quoted_73 ?_
              refine lv_isub hx hb dX0_quoted_75 ?_
              refine lv_topi (fun z_146 ez_146 => ?_)
              refine lv_bipush (v := 10) hx hb dX0_quoted_76 (by decide) ?_
              refine lv_ishl hx hb dX0_quoted_78 ?_
              refine lv_topi (fun z_147 ez_147 => ?_)
              refine lv_iadd hx hb dX0_quoted_79 ?_
              refine lv_topi (fun z_148 ez_148 => ?_)
              refine lv_aload_n hx hb dX0_quoted_80 rfl (lv_at hl 3 rfl) ?_
              refine lv_iload hx hb dX0_quoted_81 (lv_at hl 0 rfl) ?_
              refine j7_iald hx hb hK hh_15 hB174 1 rfl (by decide) hg_17 (x := z_145.toInt) (rfl) (by omega) dX0_quoted_83 (fun z_149 (hz_149 : True) => ?_)
              refine lv_iadd hx hb dX0_quoted_84 ?_
              refine lv_topi (fun z_150 ez_150 => ?_)
              refine lv_ldc hx hb hown hcs_62 dX0_quoted_85 ?_
              refine lv_isub hx hb dX0_quoted_87 ?_
              refine lv_topi (fun z_151 ez_151 => ?_)
              have hsz_152 := hh_15.2.2.2.2.2.1
              have htt_152 := hh_15.2.2.2.2.2.2.1
              refine W.room (fun hrc_152 hrs_152 => ?_)
              refine va_callv (A0 := jA base) (H0 := s.heap) (va_runV (As := [.int z_151]) (rest := []) ⟨hx, hb, hml, hown, hts⟩ (uX0_character l dC dI ca base B hB hAp hB2 hB196 Gx_15 H_15 r0 z_151 wc_15 wr_15 m_wr_15 LC LS) (cwV 1 hts (jgV (jWr_25 _ (List.mem_of_getElem? (i := 17) rfl)) (jWr_25 _ (List.mem_of_getElem? (i := 18) rfl)) (jWr_25 _ (List.mem_of_getElem? (i := 19) rfl)) (jWr_1 _ (List.mem_of_getElem? (i := 14) rfl)) (jWr_25 _ (List.mem_of_getElem? (i := 20) rfl))) rfl rfl rfl (by decide +kernel) ⟨by rw [← hR]; exact Nat.le_of_ble_eq_true rfl, by rw [← hR]; exact Nat.le_of_ble_eq_true rfl⟩) ⟨fun a U g mk q => by obtain ⟨q0, q1, q2, qK, q10, q11, q12, q13⟩ := q; exact ⟨q0, q1, q2, jG.calling g mk a qK, q10, q11, q12, q13⟩, hh_15.recv (C := RX0) (T := TX0) (N := 2) hB2 rfl (by decide) hg_16 hK, fun U hU hW => ⟨rfl, hU, hh_15.2.1, hG.step hW hU hh_15.1, hg_16, hg_wr_15, (hh_15.2.2.1.sub (L1 := [(r0, 2, 1, .int wc_15), (r0, 2, 0, .ref wr_15)]) [0, 1] rfl), (by omega), (by omega), ⟨(by first | omega | rfl | assumption | fail), (by first | omega | rfl | assumption | fail), (by first | omega | rfl | assumption | fail), (by first | omega | rfl | assumption | fail), (by first | assumption | fail | omega)⟩⟩⟩ rfl rfl hl.1 rfl (lv_room (Nat.le_of_ble_eq_true rfl)) dX0_quoted_88 ⟨by rw [hRc]; omega, by rw [hRs]; omega⟩) hh_15.1 (fun q _ h => h) (fun q h => h) (fun u_152 t_152 H_152 locs_152 ht_152 hvm_152 hr_153 hb_152 hz_152 hk_152 hS_152 => ?_)
              obtain ⟨qc_152, qa_152, m_qa_152, G_152⟩ := u_152
              rw [ht_152] at hb_152
              simp only at hb_152
              obtain ⟨⟨hb_1521, hb_1522, hb_1523, hb_1524, hb_1525, hb_1526⟩, hgq_152_0, hN_152, hbO_152⟩ := hb_152
              have hh_152 : jSt (dC, dI) B base G0 G_152 EX0_quotedu9 s.heap (zcx_15 + ((m_qa_152 - m_wr_15) / 16)) (zsx_15 + (2 * (m_qa_152 - m_wr_15))) [(r0, 2, 1, .int qc_152), (r0, 2, 0, .ref qa_152)] [] [] H_152 locs_152 := (hh_15.callG hb_1521 hb_1522 hb_1523 hb_1524 hb_1525 hS_152 rfl (L1 := []) [] rfl rfl (M1 := []) [] rfl rfl (I1 := []) [] rfl rfl).more hb_1526
              have hNn_152 : (jNk [0, 1, 2, 3, 4, 5, 6, 7, 8, 9, 10, 11, 12, 13, 14, 15, 16]) G0 G_152 := (hN_15).tr hN_152
              have hg_154 := hb_1522 _ _ hg_16
              have hg_155 := hb_1522 _ _ hg_17
              have hd_156 := jOw.tr (hh_15.iv 0 rfl) hh_15.2.2.2.2.1 hbO_152
              have hh_157 := hh_152.addI (jOw.ie (dC := dC) (dI := dI) (G0 := G0) (k := 2) (r := r0) (H0 := s.heap) (F := [(2, 0), (2, 1)]) (C := RX0) (T := TX0) (N := 2) rfl (by decide) hh_152.2.2.2.2.1 (hd_156))
              clear hh_152
              try simp only at hr_153
              obtain ⟨hr_153_0, hr_153_1, hr_153_2, hr_153_3, hr_153_4⟩ := hr_153
              have hh_158 := hh_157.wk (zc1 := (m_qa_152 - n_pa) / 16) (zs1 := 2 * (m_qa_152 - n_pa)) (by omega) (by omega)
              clear hh_157
              try clear hsz_152 htt_152 hrc_152 hrs_152
              try clear hb_1524 hb_1525
              refine lv_goto (tgt := 208) hx hb dX0_quoted_91 (by decide) ?_
              obtain ⟨z_159, ez_159⟩ : ∃ y : Int32, y = z_145 + 1 := ⟨_, rfl⟩
              refine lv_iinc (v := z_159) (lv' := [(5, .int z_159), (6, .int z_27), (0, .ref r0), (1, .ref r1), (2, .int a2), (3, .int a3), (4, .int z_12)]) hx hb dX0_quoted_208 hl (k := 0) rfl (by rw [ez_159]; rfl) (by decide) rfl (fun ls hl => ?_)
              have hz_159 : z_159.toInt = z_145.toInt + 1 := by rw [ez_159]; exact jb_iadd2 (rfl) (by decide) (by omega)
              refine lv_goto (tgt := 23) hx hb dX0_quoted_211 (by decide) ?_
              refine W.tight (c2 := ((m_qa_152 - n_pa) / 16)) (n2 := (2 * (m_qa_152 - n_pa))) hh_158.2.2.2.2.2.1 hh_158.2.2.2.2.2.2.1 ?_
              exact L23 G_152 ((m_qa_152 - n_pa) / 16) (2 * (m_qa_152 - n_pa)) z_159 qc_152 qa_152 m_qa_152 _ _ hh_158 (hNn_152) ((hle_15).tr hb_1522) hgq_152_0 (⟨(by first | omega | rfl | assumption | fail), (by first | omega | rfl | assumption | fail), (by first | omega | rfl | assumption | fail), (by first | omega | rfl | assumption | fail), (by first | assumption | fail | omega), (by first | omega | rfl | assumption | fail), (by first | omega | rfl | assumption | fail), (by first | omega | rfl | assumption | fail), (by first | omega | rfl | assumption | fail)⟩) (by omega) _ (lv_sub hl [2, 3, 4, 5, 6, 0] rfl)
  refine W.tight (c2 := ((m_qa_2 - n_pa) / 16)) (n2 := (2 * (m_qa_2 - n_pa))) hh_8.2.2.2.2.2.1 hh_8.2.2.2.2.2.2.1 ?_
  exact L23 (((z_12.toInt - (z_14 : Int32).toInt).toNat : Int) : Int).toNat.succ G_2 ((m_qa_2 - n_pa) / 16) (2 * (m_qa_2 - n_pa)) z_14 qc_2 qa_2 m_qa_2 _ _ hh_8 (hNn_2) (jLe.rf) hgq_2_0 (⟨(by first | omega | rfl | assumption | fail), (by first | omega | rfl | assumption | fail), (by first | omega | rfl | assumption | fail), (by first | omega | rfl | assumption | fail), (by first | assumption | fail | omega), (by first | omega | rfl | assumption | fail), (by first | omega | rfl | assumption | fail), (by first | omega | rfl | assumption | fail), (by first | omega | rfl | assumption | fail)⟩) (by omega) _ (lv_sub hl [2, 3, 4, 5, 1, 0] rfl)
end
section
-- what a method writes of some objects only
theorem jn1 {a b : Nat} (h : a ≠ b) : a ∉ [b] := fun q => h (List.mem_singleton.mp q)
theorem jnek2 {G : jT} {a b k n n1 : Nat} (h : G a = some (k, n)) (h1 : G b = some (k, n1)) (hn : n ≠ n1) : a ≠ b := fun e => by
  rw [e, h1] at h
  exact hn (Prod.mk.inj (Option.some.inj h)).2.symm
end
section
theorem dX11_beginAnswer_0 : decode cX11_beginAnswer 0 = .ok (.aload_n 0, 1) := by decide +kernel
theorem dX11_beginAnswer_1 : decode cX11_beginAnswer 1 = .ok (.getfield 35, 3) := by decide +kernel
theorem dX11_beginAnswer_4 : decode cX11_beginAnswer 4 = .ok (.iconst 0, 1) := by decide +kernel
theorem dX11_beginAnswer_5 : decode cX11_beginAnswer 5 = .ok (.putfield 92, 3) := by decide +kernel
theorem dX11_beginAnswer_8 : decode cX11_beginAnswer 8 = .ok (.aload_n 0, 1) := by decide +kernel
theorem dX11_beginAnswer_9 : decode cX11_beginAnswer 9 = .ok (.getfield 35, 3) := by decide +kernel
theorem dX11_beginAnswer_12 : decode cX11_beginAnswer 12 = .ok (.ldc_w 491, 3) := by decide +kernel
theorem dX11_beginAnswer_15 : decode cX11_beginAnswer 15 = .ok (.invokevirtual 297, 3) := by decide +kernel
theorem dX11_beginAnswer_18 : decode cX11_beginAnswer 18 = .ok (.aload_n 1, 1) := by decide +kernel
theorem dX11_beginAnswer_19 : decode cX11_beginAnswer 19 = .ok (.getfield 114, 3) := by decide +kernel
theorem dX11_beginAnswer_22 : decode cX11_beginAnswer 22 = .ok (.ifnonnull 16, 3) := by decide +kernel
theorem dX11_beginAnswer_25 : decode cX11_beginAnswer 25 = .ok (.aload_n 0, 1) := by decide +kernel
theorem dX11_beginAnswer_26 : decode cX11_beginAnswer 26 = .ok (.getfield 35, 3) := by decide +kernel
theorem dX11_beginAnswer_29 : decode cX11_beginAnswer 29 = .ok (.ldc_w 493, 3) := by decide +kernel
theorem dX11_beginAnswer_32 : decode cX11_beginAnswer 32 = .ok (.invokevirtual 297, 3) := by decide +kernel
theorem dX11_beginAnswer_35 : decode cX11_beginAnswer 35 = .ok (.goto 14, 3) := by decide +kernel
theorem dX11_beginAnswer_38 : decode cX11_beginAnswer 38 = .ok (.aload_n 0, 1) := by decide +kernel
theorem dX11_beginAnswer_39 : decode cX11_beginAnswer 39 = .ok (.getfield 35, 3) := by decide +kernel
theorem dX11_beginAnswer_42 : decode cX11_beginAnswer 42 = .ok (.aload_n 1, 1) := by decide +kernel
theorem dX11_beginAnswer_43 : decode cX11_beginAnswer 43 = .ok (.getfield 114, 3) := by decide +kernel
theorem dX11_beginAnswer_46 : decode cX11_beginAnswer 46 = .ok (.invokevirtual 495, 3) := by decide +kernel
theorem dX11_beginAnswer_49 : decode cX11_beginAnswer 49 = .ok (.aload_n 0, 1) := by decide +kernel
theorem dX11_beginAnswer_50 : decode cX11_beginAnswer 50 = .ok (.getfield 35, 3) := by decide +kernel
theorem dX11_beginAnswer_53 : decode cX11_beginAnswer 53 = .ok (.aload_n 2, 1) := by decide +kernel
theorem dX11_beginAnswer_54 : decode cX11_beginAnswer 54 = .ok (.invokevirtual 297, 3) := by decide +kernel
theorem dX11_beginAnswer_57 : decode cX11_beginAnswer 57 = .ok (.return_, 1) := by decide +kernel
theorem dX11_diagnostic_0 : decode cX11_diagnostic 0 = .ok (.aload_n 0, 1) := by decide +kernel
theorem dX11_diagnostic_1 : decode cX11_diagnostic 1 = .ok (.getfield 35, 3) := by decide +kernel
theorem dX11_diagnostic_4 : decode cX11_diagnostic 4 = .ok (.ldc_w 518, 3) := by decide +kernel
theorem dX11_diagnostic_7 : decode cX11_diagnostic 7 = .ok (.invokevirtual 297, 3) := by decide +kernel
theorem dX11_diagnostic_10 : decode cX11_diagnostic 10 = .ok (.aload_n 0, 1) := by decide +kernel
theorem dX11_diagnostic_11 : decode cX11_diagnostic 11 = .ok (.aload_n 1, 1) := by decide +kernel
theorem dX11_diagnostic_12 : decode cX11_diagnostic 12 = .ok (.aload_n 1, 1) := by decide +kernel
theorem dX11_diagnostic_13 : decode cX11_diagnostic 13 = .ok (.getfield 182, 3) := by decide +kernel
theorem dX11_diagnostic_16 : decode cX11_diagnostic 16 = .ok (.iload_n 2, 1) := by decide +kernel
theorem dX11_diagnostic_17 : decode cX11_diagnostic 17 = .ok (.iaload, 1) := by decide +kernel
theorem dX11_diagnostic_18 : decode cX11_diagnostic 18 = .ok (.invokevirtual 520, 3) := by decide +kernel
theorem dX11_diagnostic_21 : decode cX11_diagnostic 21 = .ok (.aload_n 0, 1) := by decide +kernel
theorem dX11_diagnostic_22 : decode cX11_diagnostic 22 = .ok (.getfield 35, 3) := by decide +kernel
theorem dX11_diagnostic_25 : decode cX11_diagnostic 25 = .ok (.ldc_w 522, 3) := by decide +kernel
theorem dX11_diagnostic_28 : decode cX11_diagnostic 28 = .ok (.invokevirtual 297, 3) := by decide +kernel
theorem dX11_diagnostic_31 : decode cX11_diagnostic 31 = .ok (.aload_n 0, 1) := by decide +kernel
theorem dX11_diagnostic_32 : decode cX11_diagnostic 32 = .ok (.aload_n 1, 1) := by decide +kernel
theorem dX11_diagnostic_33 : decode cX11_diagnostic 33 = .ok (.aload_n 1, 1) := by decide +kernel
theorem dX11_diagnostic_34 : decode cX11_diagnostic 34 = .ok (.getfield 185, 3) := by decide +kernel
theorem dX11_diagnostic_37 : decode cX11_diagnostic 37 = .ok (.iload_n 2, 1) := by decide +kernel
theorem dX11_diagnostic_38 : decode cX11_diagnostic 38 = .ok (.iaload, 1) := by decide +kernel
theorem dX11_diagnostic_39 : decode cX11_diagnostic 39 = .ok (.invokevirtual 520, 3) := by decide +kernel
theorem dX11_diagnostic_42 : decode cX11_diagnostic 42 = .ok (.aload_n 0, 1) := by decide +kernel
theorem dX11_diagnostic_43 : decode cX11_diagnostic 43 = .ok (.getfield 35, 3) := by decide +kernel
theorem dX11_diagnostic_46 : decode cX11_diagnostic 46 = .ok (.ldc_w 524, 3) := by decide +kernel
theorem dX11_diagnostic_49 : decode cX11_diagnostic 49 = .ok (.invokevirtual 297, 3) := by decide +kernel
theorem dX11_diagnostic_52 : decode cX11_diagnostic 52 = .ok (.aload_n 0, 1) := by decide +kernel
theorem dX11_diagnostic_53 : decode cX11_diagnostic 53 = .ok (.getfield 35, 3) := by decide +kernel
theorem dX11_diagnostic_56 : decode cX11_diagnostic 56 = .ok (.aload_n 1, 1) := by decide +kernel
theorem dX11_diagnostic_57 : decode cX11_diagnostic 57 = .ok (.getfield 178, 3) := by decide +kernel
theorem dX11_diagnostic_60 : decode cX11_diagnostic 60 = .ok (.iload_n 2, 1) := by decide +kernel
theorem dX11_diagnostic_61 : decode cX11_diagnostic 61 = .ok (.aaload, 1) := by decide +kernel
theorem dX11_diagnostic_62 : decode cX11_diagnostic 62 = .ok (.getfield 188, 3) := by decide +kernel
theorem dX11_diagnostic_65 : decode cX11_diagnostic 65 = .ok (.invokestatic 526, 3) := by decide +kernel
theorem dX11_diagnostic_68 : decode cX11_diagnostic 68 = .ok (.invokevirtual 297, 3) := by decide +kernel
theorem dX11_diagnostic_71 : decode cX11_diagnostic 71 = .ok (.aload_n 0, 1) := by decide +kernel
theorem dX11_diagnostic_72 : decode cX11_diagnostic 72 = .ok (.getfield 35, 3) := by decide +kernel
theorem dX11_diagnostic_75 : decode cX11_diagnostic 75 = .ok (.ldc_w 529, 3) := by decide +kernel
theorem dX11_diagnostic_78 : decode cX11_diagnostic 78 = .ok (.invokevirtual 297, 3) := by decide +kernel
theorem dX11_diagnostic_81 : decode cX11_diagnostic 81 = .ok (.return_, 1) := by decide +kernel
theorem dX11_position_0 : decode cX11_position 0 = .ok (.aload_n 1, 1) := by decide +kernel
theorem dX11_position_1 : decode cX11_position 1 = .ok (.iload_n 2, 1) := by decide +kernel
theorem dX11_position_2 : decode cX11_position 2 = .ok (.invokevirtual 531, 3) := by decide +kernel
theorem dX11_position_5 : decode cX11_position 5 = .ok (.aload_n 0, 1) := by decide +kernel
theorem dX11_position_6 : decode cX11_position 6 = .ok (.getfield 35, 3) := by decide +kernel
theorem dX11_position_9 : decode cX11_position 9 = .ok (.ldc_w 534, 3) := by decide +kernel
theorem dX11_position_12 : decode cX11_position 12 = .ok (.invokevirtual 297, 3) := by decide +kernel
theorem dX11_position_15 : decode cX11_position 15 = .ok (.aload_n 0, 1) := by decide +kernel
theorem dX11_position_16 : decode cX11_position 16 = .ok (.getfield 35, 3) := by decide +kernel
theorem dX11_position_19 : decode cX11_position 19 = .ok (.aload_n 1, 1) := by decide +kernel
theorem dX11_position_20 : decode cX11_position 20 = .ok (.getfield 536, 3) := by decide +kernel
theorem dX11_position_23 : decode cX11_position 23 = .ok (.invokevirtual 466, 3) := by decide +kernel
theorem dX11_position_26 : decode cX11_position 26 = .ok (.aload_n 0, 1) := by decide +kernel
theorem dX11_position_27 : decode cX11_position 27 = .ok (.getfield 35, 3) := by decide +kernel
theorem dX11_position_30 : decode cX11_position 30 = .ok (.ldc_w 538, 3) := by decide +kernel
theorem dX11_position_33 : decode cX11_position 33 = .ok (.invokevirtual 297, 3) := by decide +kernel
theorem dX11_position_36 : decode cX11_position 36 = .ok (.aload_n 0, 1) := by decide +kernel
theorem dX11_position_37 : decode cX11_position 37 = .ok (.getfield 35, 3) := by decide +kernel
theorem dX11_position_40 : decode cX11_position 40 = .ok (.iload_n 2, 1) := by decide +kernel
theorem dX11_position_41 : decode cX11_position 41 = .ok (.aload_n 1, 1) := by decide +kernel
theorem dX11_position_42 : decode cX11_position 42 = .ok (.getfield 540, 3) := by decide +kernel
theorem dX11_position_45 : decode cX11_position 45 = .ok (.isub, 1) := by decide +kernel
theorem dX11_position_46 : decode cX11_position 46 = .ok (.invokevirtual 466, 3) := by decide +kernel
theorem dX11_position_49 : decode cX11_position 49 = .ok (.aload_n 0, 1) := by decide +kernel
theorem dX11_position_50 : decode cX11_position 50 = .ok (.getfield 35, 3) := by decide +kernel
theorem dX11_position_53 : decode cX11_position 53 = .ok (.bipush 125, 2) := by decide +kernel
theorem dX11_position_55 : decode cX11_position 55 = .ok (.invokevirtual 246, 3) := by decide +kernel
theorem dX11_position_58 : decode cX11_position 58 = .ok (.return_, 1) := by decide +kernel
def EX11_beginAnswer : List (Nat × Nat) := [(2, 0), (2, 1), (196, 0)]
def EX11_position : List (Nat × Nat) := [(2, 0), (2, 1), (3, 14), (3, 15), (3, 16), (196, 0)]
def EX11_diagnostic : List (Nat × Nat) := [(2, 0), (2, 1), (3, 14), (3, 15), (3, 16), (196, 0)]
set_option maxHeartbeats 4000000 in
set_option maxRecDepth 20000 in
theorem uX11_beginAnswer (l : Launch) (dC : Nat → ClassId) (dI : Nat → Nat → Nat) (ca : Nat → ClassId) (base : Nat) (B : jF) (hB : jBok B) (hAp : jAp (dC, dI)) (hB2 : ∀ n G a H, B 2 n G a H ↔ jOb (dC, dI) 2 2 (F2 n G) a H) (hB10 : ∀ n G a H, B 10 n G a H ↔ jOb (dC, dI) 10 5 (F10 n G) a H) (hB13 : ∀ n G a H, B 13 n G a H ↔ jOb (dC, dI) 13 19 (F13 n G) a H) (hB196 : ∀ n G a H, B 196 n G a H ↔ jAr (dC, dI) (ca 0) (fun j z => jBf j z) n a H) (G0 : jT) (H0 : Heap) (r0 : Nat) (r1 : Nat) (r2 : Nat) (n2 : Nat) (bo : Nat) (pc : Int32) (pa : Nat) (n_pa : Nat) (LC LS : Nat) : Met l yX11_beginAnswer (jw yX11_beginAnswer cX11_beginAnswer 3 none) ({ frames := 5, cells := LC - H0.size, slots := LS - jTot H0, locals := 163 }) (va_Pc [.ref r0, .ref r1, .ref r2] (fun U => U.heap = H0 ∧ jX B base G0 [] H0 ∧ jG dC dI ca base U ∧ jStr base r2 n2 U H0 ∧ G0 r1 = some (10, 0) ∧ G0 r0 = some (13, 0) ∧ G0 bo = some (2, 0) ∧ G0 pa = some (196, n_pa) ∧ jP (dC, dI) G0 H0 [(r0, 13, 4, .ref bo), (bo, 2, 1, .int pc), (bo, 2, 0, .ref pa)] ∧ jIs (dC, dI) G0 H0 [(jFy, jYb dC dI G0)] ∧ H0.size + (1048576 - n_pa) / 16 + 1 ≤ LC ∧ jTot H0 + 2 * (1048576 - n_pa) ≤ LS ∧ 0 ≤ pc.toInt ∧ pc.toInt ≤ n_pa ∧ 16 ≤ n_pa ∧ n_pa ≤ 1048576 ∧ jPw n_pa ∧ n2 < 2147483648)) (va_Qv (S := Int32 × Nat × Nat × jT) (fun u => 0 ≤ u.1.toInt ∧ u.1.toInt ≤ u.2.2.1 ∧ n_pa ≤ u.2.2.1 ∧ u.2.2.1 ≤ 1048576 ∧ jPw u.2.2.1) (fun u t => jRa (dC, dI) B base G0 u.2.2.2 EX11_beginAnswer H0 ((u.2.2.1 - n_pa) / 16) (2 * (u.2.2.1 - n_pa)) [(bo, 2, 1, .int u.1), (bo, 2, 0, .ref u.2.1)] t.heap ∧ u.2.2.2 u.2.1 = some (196, u.2.2.1) ∧ (jNk [0, 1, 2, 3, 4, 5, 6, 7, 8, 9, 10, 11, 12, 13, 14, 15, 16]) G0 u.2.2.2 ∧ jOl (dC, dI) G0 2 [bo] H0 t.heap ∧ jIs (dC, dI) u.2.2.2 t.heap [(jFy, jYb dC dI u.2.2.2)]) (jA base)) (LC - H0.size) (LS - jTot H0) (jA base) := by
  refine Met.ofW (cc := cX11_beginAnswer) (maxL := 3) (ret := none) (by decide) rfl ?_
  intro p e s m args below meth c s₁ Bd hml hv
  obtain ⟨rfl, hH0, hX, hG, hstr_r2, hg_r1, hg_r0, hg_bo, hg_pa, hP0, hI0, hLC0, hLS0, hp0, hp1, hp2, hp3, hp4, hp5⟩ := hv
  have hK := hG.1
  have hx := Bd.exec
  have hb := Bd.bytes
  have hr := Bd.returns
  have hts := atoms_spec (ws := (jw yX11_beginAnswer cX11_beginAnswer 3 none)) Bd.pre
  have htw : ∀ w ∈ jWl, w.before _ s = true := fun w h => hts w (List.mem_cons_of_mem _ h)
  have hown : s.vm.findClass RX11 = some m.cls := findClass_of_methodNamed Bd.named
  have hlocks := Bd.notSynchronized
  obtain ⟨Q, hQ⟩ : ∃ Q, Q = MQ below (va_Qv (S := Int32 × Nat × Nat × jT) (fun u => 0 ≤ u.1.toInt ∧ u.1.toInt ≤ u.2.2.1 ∧ n_pa ≤ u.2.2.1 ∧ u.2.2.1 ≤ 1048576 ∧ jPw u.2.2.1) (fun u t => jRa (dC, dI) B base G0 u.2.2.2 EX11_beginAnswer H0 ((u.2.2.1 - n_pa) / 16) (2 * (u.2.2.1 - n_pa)) [(bo, 2, 1, .int u.1), (bo, 2, 0, .ref u.2.1)] t.heap ∧ u.2.2.2 u.2.1 = some (196, u.2.2.1) ∧ (jNk [0, 1, 2, 3, 4, 5, 6, 7, 8, 9, 10, 11, 12, 13, 14, 15, 16]) G0 u.2.2.2 ∧ jOl (dC, dI) G0 2 [bo] H0 t.heap ∧ jIs (dC, dI) u.2.2.2 t.heap [(jFy, jYb dC dI u.2.2.2)]) (jA base)) ([.ref r0, .ref r1, .ref r2] : List Value).toArray s (LC - H0.size) (LS - jTot H0) (jA base) := ⟨_, rfl⟩
  rw [← hQ]
  have hl := lv_entry ([.ref r0, .ref r1, .ref r2]) (n := 3) (Nat.le_of_ble_eq_true rfl)
  rw [lg_entry_eq]
  generalize (lg_sl ([.ref r0, .ref r1, .ref r2]) ++ List.replicate (3 - (lg_sl ([.ref r0, .ref r1, .ref r2])).length) Slot.unset).toArray = ls at hl ⊢
  have hl : lv_has ls 3 [(0, .ref r0), (1, .ref r1), (2, .ref r2)] := hl
  generalize hR : (headSpec (jw yX11_beginAnswer cX11_beginAnswer 3 none) ({ frames := 5, cells := LC - H0.size, slots := LS - jTot H0, locals := 163 })).room = R
  subst hH0
  have hh : jSt (dC, dI) B base G0 G0 EX11_beginAnswer s.heap 0 0 [(r0, 13, 4, .ref bo), (bo, 2, 1, .int pc), (bo, 2, 0, .ref pa)] [] [(jFy, jYb dC dI G0)] s.heap [] := jSt.start hX hP0 jMc.nil hI0
  clear hX hP0
  have hk0 : (0 : Int32).toInt = 0 := by decide
  have hk1 : (1 : Int32).toInt = 1 := by decide
  have hly_2_1 := htw (u_lay RX0 TX0 1) (jWc_wsX00 _ (u_in_lay (by decide)))
  have hly_10_0 := htw (u_lay RX8 TX8 0) (jWc_wsX80 _ (u_in_lay (by decide)))
  have hly_13_4 := htw (u_lay RX11 TX11 4) (jWc_wsX110 _ (u_in_lay (by decide)))
  have hlk_35 := (htw (.fieldLink RX11 35 "ProofServer" "body" "LProofServer$Bytes;") (jWr_2 _ (List.mem_of_getElem? (i := 1) rfl)))
  have hlk_92 := (htw (.fieldLink RX11 92 "ProofServer$Bytes" "count" "I") (jWr_15 _ (List.mem_of_getElem? (i := 18) rfl)))
  obtain ⟨str491, rstr491, hstr4910⟩ := hG.str (o := RX11) (k := 491) (tx := "{\"jsonrpc\":\"2.0\",\"id\":") (List.mem_of_getElem? (i := 826) (by decide +kernel))
  have hstr491 : jStr base str491 22 s s.heap := hstr4910
  have hlk_114 := (htw (.fieldLink RX11 114 "ProofServer$Request" "id" "LProofServer$Bytes;") (jWr_17 _ (List.mem_of_getElem? (i := 9) rfl)))
  obtain ⟨str493, rstr493, hstr4930⟩ := hG.str (o := RX11) (k := 493) (tx := "null") (List.mem_of_getElem? (i := 828) (by decide +kernel))
  have hstr493 : jStr base str493 4 s s.heap := hstr4930
  have hbs : base ≤ s.heap.size := Nat.le_of_lt (Nat.lt_of_le_of_lt (hh.ab hg_r0).1 (hh.ab hg_r0).2)
  have hRc : R.cells = LC - s.heap.size := by rw [← hR]; rfl
  have hRs : R.slots = LS - jTot s.heap := by rw [← hR]; rfl
  have hh_1 := hh.addI (jOl.ie (dC := dC) (dI := dI) (G0 := G0) (k := 2) (rs := [bo]) (H0 := s.heap) (F := [(2, 0), (2, 1)]) (C := RX0) (T := TX0) (N := 2) rfl (by decide) hh.2.2.2.2.1 (jOl.rf))
  clear hh
  refine lv_aload_n hx hb dX11_beginAnswer_0 rfl (lv_at hl 0 rfl) ?_
  refine j7_read hx hb hown hK (C := RX11) (T := TX11) (N := 19) rfl hly_13_4 hlk_35 (hh_1.at 0 rfl) dX11_beginAnswer_1 ?_
  refine lv_iconst (v := 0) hx hb dX11_beginAnswer_4 (by decide) ?_
  have hd_3 := hh_1.iv 0 rfl
  have hd_4 := hh_1.iv 1 rfl
  have hh_5 := hh_1.sub (L1 := [(r0, 13, 4, .ref bo), (bo, 2, 1, .int pc), (bo, 2, 0, .ref pa)]) [0, 1, 2] rfl (M1 := []) [] rfl (I1 := []) [] rfl
  clear hh_1
  refine j7_putX hx hb hown hK hh_5 hB hAp hB2 (C := RX0) (T := TX0) (N := 2) rfl (by decide) hg_bo (i := 1) (by decide) hly_2_1 rfl hlk_92 rfl (ty := .int) (v := .int 0) (by decide +kernel) rfl rfl (⟨_, rfl, by omega, by omega, by omega⟩) rfl (L1 := [(r0, 13, 4, .ref bo), (bo, 2, 0, .ref pa)]) [0, 2] rfl rfl rfl dX11_beginAnswer_5 (fun H_2 locs_2 hr_2 hh_2 => ?_)
  clear hh_5
  have hd_4n := jYb.put hd_4 hr_2 hg_bo (fun h9 => ⟨_, _, _, hh_2.at 0 rfl, hh_2.at 2 rfl, hg_pa, by omega⟩)
  have hd_3n := jOl.put hd_3 hr_2 (by simp)
  have hh_6 := hh_2.addI (jYb.ie hd_4n)
  clear hh_2
  have hh_7 := hh_6.addI (jOl.ie (dC := dC) (dI := dI) (G0 := G0) (k := 2) (rs := [bo]) (H0 := s.heap) (F := [(2, 0), (2, 1)]) (C := RX0) (T := TX0) (N := 2) rfl (by decide) hh_6.2.2.2.2.1 (hd_3n))
  clear hh_6
  clear hd_3 hd_3n hd_4 hd_4n hr_2
  refine lv_aload_n hx hb dX11_beginAnswer_8 rfl (lv_at hl 0 rfl) ?_
  refine j7_read hx hb hown hK (C := RX11) (T := TX11) (N := 19) rfl hly_13_4 hlk_35 (hh_7.at 1 rfl) dX11_beginAnswer_9 ?_
  refine j_ldcSw hx hb hown rstr491 dX11_beginAnswer_12 ?_
  have hsz_8 := hh_7.2.2.2.2.2.1
  have htt_8 := hh_7.2.2.2.2.2.2.1
  refine W.room (fun hrc_8 hrs_8 => ?_)
  refine va_callv (A0 := jA base) (H0 := s.heap) (va_runV (As := [.ref str491]) (rest := []) ⟨hx, hb, hml, hown, hts⟩ (uX0_text l dC dI ca base B hB hAp hB2 hB196 G0 H_2 bo str491 22 0 pa n_pa LC LS) (cwV 1 hts (jgV (jWr_26 _ (List.mem_of_getElem? (i := 11) rfl)) (jWr_25 _ (List.mem_of_getElem? (i := 22) rfl)) (jWr_25 _ (List.mem_of_getElem? (i := 23) rfl)) (jWr_1 _ (List.mem_of_getElem? (i := 14) rfl)) (jWr_26 _ (List.mem_of_getElem? (i := 0) rfl))) rfl rfl rfl (by decide +kernel) ⟨by rw [← hR]; exact Nat.le_of_ble_eq_true rfl, by rw [← hR]; exact Nat.le_of_ble_eq_true rfl⟩) ⟨fun a U g mk q => by obtain ⟨q0, q1, q2, qK, q10, q11, q12, q13, q14⟩ := q; exact ⟨q0, q1, q2, jG.calling g mk a qK, (q10.moved (Vm.Alike.refl U.vm)), q11, q12, q13, q14⟩, hh_7.recv (C := RX0) (T := TX0) (N := 2) hB2 rfl (by decide) hg_bo hK, fun U hU hW => ⟨rfl, hU, hh_7.2.1, hG.step hW hU hh_7.1, (hstr491.moved hW.alike).kept hh_7.1.2.1, hg_bo, hg_pa, (hh_7.2.2.1.sub (L1 := [(bo, 2, 1, .int 0), (bo, 2, 0, .ref pa)]) [0, 2] rfl), (by omega), (by omega), ⟨(by first | omega | rfl | assumption | fail), (by first | omega | rfl | assumption | fail), (by first | omega | rfl | assumption | fail), (by first | omega | rfl | assumption | fail), (by first | assumption | fail | omega), (by first | omega | rfl | assumption | fail)⟩⟩⟩ rfl rfl hl.1 rfl (lv_room (Nat.le_of_ble_eq_true rfl)) dX11_beginAnswer_15 ⟨by rw [hRc]; omega, by rw [hRs]; omega⟩) hh_7.1 (fun q _ h => h) (fun q h => h) (fun u_8 t_8 H_8 locs_8 ht_8 hvm_8 hr_9 hb_8 hz_8 hk_8 hS_8 => ?_)
  obtain ⟨qc_8, qa_8, m_qa_8, G_8⟩ := u_8
  rw [ht_8] at hb_8
  simp only at hb_8
  obtain ⟨⟨hb_81, hb_82, hb_83, hb_84, hb_85, hb_86⟩, hgq_8_0, hN_8, hbO_8⟩ := hb_8
  have hy_10 := hh_7.iv 1 rfl
  have hh_8 : jSt (dC, dI) B base G0 G_8 EX11_beginAnswer s.heap (0 + ((m_qa_8 - n_pa) / 16)) (0 + (2 * (m_qa_8 - n_pa))) [(bo, 2, 1, .int qc_8), (bo, 2, 0, .ref qa_8), (r0, 13, 4, .ref bo)] [] [] H_8 locs_8 := (hh_7.callG hb_81 hb_82 hb_83 hb_84 hb_85 hS_8 rfl (L1 := [(r0, 13, 4, .ref bo)]) [1] rfl rfl (M1 := []) [] rfl rfl (I1 := []) [] rfl rfl).more hb_86
  have hNn_8 : (jNk [0, 1, 2, 3, 4, 5, 6, 7, 8, 9, 10, 11, 12, 13, 14, 15, 16]) G0 G_8 := (jNk.rf).tr hN_8
  have hg_11 := hb_82 _ _ hg_r0
  have hg_12 := hb_82 _ _ hg_r1
  have hg_13 := hb_82 _ _ hg_bo
  have hd_14 := jOl.trO (hh_7.iv 0 rfl) hh_7.2.2.2.2.1 hbO_8 (by simp)
  have hh_15 := hh_8.addI (jOl.ie (dC := dC) (dI := dI) (G0 := G0) (k := 2) (rs := [bo]) (H0 := s.heap) (F := [(2, 0), (2, 1)]) (C := RX0) (T := TX0) (N := 2) rfl (by decide) hh_8.2.2.2.2.1 (hd_14))
  clear hh_8
  have hyp_8 : qc_8.toInt ≤ (m_qa_8 : Nat) ∧ m_qa_8 ≤ 1048576 := by (try simp only at hr_9); omega
  have hy_16 := jYb.own hy_10 hbO_8 hb_82 hN_8 (by decide) (fun _ => ⟨_, _, _, hh_15.at 0 rfl, hh_15.at 1 rfl, hgq_8_0, hyp_8⟩)
  have hh_17 := hh_15.addI (jYb.ie hy_16)
  clear hh_15
  try simp only at hr_9
  obtain ⟨hr_9_0, hr_9_1, hr_9_2, hr_9_3, hr_9_4⟩ := hr_9
  have hh_18 := hh_17.wk (zc1 := (m_qa_8 - n_pa) / 16) (zs1 := 2 * (m_qa_8 - n_pa)) (by omega) (by omega)
  clear hh_17
  try clear hsz_8 htt_8 hrc_8 hrs_8
  try clear hb_84 hb_85
  refine lv_aload_n hx hb dX11_beginAnswer_18 rfl (lv_at hl 1 rfl) ?_
  obtain ⟨v_19, hv_19, hh_20⟩ := hh_18.pin (C := RX8) (T := TX8) (N := 5) hB10 rfl (by decide) hg_12 (i := 0) (by decide) rfl
  clear hh_18
  rcases hv_19 with rfl | ⟨id_21, rfl, hg_id_21⟩
  · refine j7_read hx hb hown hK (C := RX8) (T := TX8) (N := 5) rfl hly_10_0 hlk_114 (hh_20.at 0 rfl) dX11_beginAnswer_19 ?_
    refine lv_ifnonnullN hx hb dX11_beginAnswer_22 ?_
    refine lv_aload_n hx hb dX11_beginAnswer_25 rfl (lv_at hl 0 rfl) ?_
    refine j7_read hx hb hown hK (C := RX11) (T := TX11) (N := 19) rfl hly_13_4 hlk_35 (hh_20.at 3 rfl) dX11_beginAnswer_26 ?_
    refine j_ldcSw hx hb hown rstr493 dX11_beginAnswer_29 ?_
    have hsz_22 := hh_20.2.2.2.2.2.1
    have htt_22 := hh_20.2.2.2.2.2.2.1
    refine W.room (fun hrc_22 hrs_22 => ?_)
    refine va_callv (A0 := jA base) (H0 := s.heap) (va_runV (As := [.ref str493]) (rest := []) ⟨hx, hb, hml, hown, hts⟩ (uX0_text l dC dI ca base B hB hAp hB2 hB196 G_8 H_8 bo str493 4 qc_8 qa_8 m_qa_8 LC LS) (cwV 1 hts (jgV (jWr_26 _ (List.mem_of_getElem? (i := 11) rfl)) (jWr_25 _ (List.mem_of_getElem? (i := 22) rfl)) (jWr_25 _ (List.mem_of_getElem? (i := 23) rfl)) (jWr_1 _ (List.mem_of_getElem? (i := 14) rfl)) (jWr_26 _ (List.mem_of_getElem? (i := 0) rfl))) rfl rfl rfl (by decide +kernel) ⟨by rw [← hR]; exact Nat.le_of_ble_eq_true rfl, by rw [← hR]; exact Nat.le_of_ble_eq_true rfl⟩) ⟨fun a U g mk q => by obtain ⟨q0, q1, q2, qK, q10, q11, q12, q13, q14⟩ := q; exact ⟨q0, q1, q2, jG.calling g mk a qK, (q10.moved (Vm.Alike.refl U.vm)), q11, q12, q13, q14⟩, hh_20.recv (C := RX0) (T := TX0) (N := 2) hB2 rfl (by decide) hg_13 hK, fun U hU hW => ⟨rfl, hU, hh_20.2.1, hG.step hW hU hh_20.1, (hstr493.moved hW.alike).kept hh_20.1.2.1, hg_13, hgq_8_0, (hh_20.2.2.1.sub (L1 := [(bo, 2, 1, .int qc_8), (bo, 2, 0, .ref qa_8)]) [1, 2] rfl), (by omega), (by omega), ⟨(by first | omega | rfl | assumption | fail), (by first | omega | rfl | assumption | fail), (by first | omega | rfl | assumption | fail), (by first | omega | rfl | assumption | fail), (by first | assumption | fail | omega), (by first | omega | rfl | assumption | fail)⟩⟩⟩ rfl rfl hl.1 rfl (lv_room (Nat.le_of_ble_eq_true rfl)) dX11_beginAnswer_32 ⟨by rw [hRc]; omega, by rw [hRs]; omega⟩) hh_20.1 (fun q _ h => h) (fun q h => h) (fun u_22 t_22 H_22 locs_22 ht_22 hvm_22 hr_23 hb_22 hz_22 hk_22 hS_22 => ?_)
    obtain ⟨qc_22, qa_22, m_qa_22, G_22⟩ := u_22
    rw [ht_22] at hb_22
    simp only at hb_22
    obtain ⟨⟨hb_221, hb_222, hb_223, hb_224, hb_225, hb_226⟩, hgq_22_0, hN_22, hbO_22⟩ := hb_22
    have hy_24 := hh_20.iv 0 rfl
    have hh_22 : jSt (dC, dI) B base G0 G_22 EX11_beginAnswer s.heap (((m_qa_8 - n_pa) / 16) + ((m_qa_22 - m_qa_8) / 16)) ((2 * (m_qa_8 - n_pa)) + (2 * (m_qa_22 - m_qa_8))) [(bo, 2, 1, .int qc_22), (bo, 2, 0, .ref qa_22), (r1, 10, 0, .null), (r0, 13, 4, .ref bo)] [] [] H_22 locs_22 := (hh_20.callG hb_221 hb_222 hb_223 hb_224 hb_225 hS_22 rfl (L1 := [(r1, 10, 0, .null), (r0, 13, 4, .ref bo)]) [0, 3] rfl rfl (M1 := []) [] rfl rfl (I1 := []) [] rfl rfl).more hb_226
    have hNn_22 : (jNk [0, 1, 2, 3, 4, 5, 6, 7, 8, 9, 10, 11, 12, 13, 14, 15, 16]) G0 G_22 := (hNn_8).tr hN_22
    have hg_25 := hb_222 _ _ hg_11
    have hg_26 := hb_222 _ _ hg_12
    have hg_27 := hb_222 _ _ hg_13
    have hd_28 := jOl.trO (hh_20.iv 1 rfl) hh_20.2.2.2.2.1 hbO_22 (by simp)
    have hh_29 := hh_22.addI (jOl.ie (dC := dC) (dI := dI) (G0 := G0) (k := 2) (rs := [bo]) (H0 := s.heap) (F := [(2, 0), (2, 1)]) (C := RX0) (T := TX0) (N := 2) rfl (by decide) hh_22.2.2.2.2.1 (hd_28))
    clear hh_22
    have hyp_22 : qc_22.toInt ≤ (m_qa_22 : Nat) ∧ m_qa_22 ≤ 1048576 := by (try simp only at hr_23); omega
    have hy_30 := jYb.own hy_24 hbO_22 hb_222 hN_22 (by decide) (fun _ => ⟨_, _, _, hh_29.at 0 rfl, hh_29.at 1 rfl, hgq_22_0, hyp_22⟩)
    have hh_31 := hh_29.addI (jYb.ie hy_30)
    clear hh_29
    try simp only at hr_23
    obtain ⟨hr_23_0, hr_23_1, hr_23_2, hr_23_3, hr_23_4⟩ := hr_23
    have hh_32 := hh_31.wk (zc1 := (m_qa_22 - n_pa) / 16) (zs1 := 2 * (m_qa_22 - n_pa)) (by omega) (by omega)
    clear hh_31
    try clear hsz_22 htt_22 hrc_22 hrs_22
    try clear hb_224 hb_225
    refine lv_goto (tgt := 49) hx hb dX11_beginAnswer_35 (by decide) ?_
    refine lv_aload_n hx hb dX11_beginAnswer_49 rfl (lv_at hl 0 rfl) ?_
    refine j7_read hx hb hown hK (C := RX11) (T := TX11) (N := 19) rfl hly_13_4 hlk_35 (hh_32.at 3 rfl) dX11_beginAnswer_50 ?_
    refine lv_aload_n hx hb dX11_beginAnswer_53 rfl (lv_at hl 2 rfl) ?_
    have hsz_33 := hh_32.2.2.2.2.2.1
    have htt_33 := hh_32.2.2.2.2.2.2.1
    refine W.room (fun hrc_33 hrs_33 => ?_)
    refine va_callv (A0 := jA base) (H0 := s.heap) (va_runV (As := [.ref r2]) (rest := []) ⟨hx, hb, hml, hown, hts⟩ (uX0_text l dC dI ca base B hB hAp hB2 hB196 G_22 H_22 bo r2 n2 qc_22 qa_22 m_qa_22 LC LS) (cwV 1 hts (jgV (jWr_26 _ (List.mem_of_getElem? (i := 11) rfl)) (jWr_25 _ (List.mem_of_getElem? (i := 22) rfl)) (jWr_25 _ (List.mem_of_getElem? (i := 23) rfl)) (jWr_1 _ (List.mem_of_getElem? (i := 14) rfl)) (jWr_26 _ (List.mem_of_getElem? (i := 0) rfl))) rfl rfl rfl (by decide +kernel) ⟨by rw [← hR]; exact Nat.le_of_ble_eq_true rfl, by rw [← hR]; exact Nat.le_of_ble_eq_true rfl⟩) ⟨fun a U g mk q => by obtain ⟨q0, q1, q2, qK, q10, q11, q12, q13, q14⟩ := q; exact ⟨q0, q1, q2, jG.calling g mk a qK, (q10.moved (Vm.Alike.refl U.vm)), q11, q12, q13, q14⟩, hh_32.recv (C := RX0) (T := TX0) (N := 2) hB2 rfl (by decide) hg_27 hK, fun U hU hW => ⟨rfl, hU, hh_32.2.1, hG.step hW hU hh_32.1, (hstr_r2.moved hW.alike).kept hh_32.1.2.1, hg_27, hgq_22_0, (hh_32.2.2.1.sub (L1 := [(bo, 2, 1, .int qc_22), (bo, 2, 0, .ref qa_22)]) [0, 1] rfl), (by omega), (by omega), ⟨(by first | omega | rfl | assumption | fail), (by first | omega | rfl | assumption | fail), (by first | omega | rfl | assumption | fail), (by first | omega | rfl | assumption | fail), (by first | assumption | fail | omega), (by first | omega | rfl | assumption | fail)⟩⟩⟩ rfl rfl hl.1 rfl (lv_room (Nat.le_of_ble_eq_true rfl)) dX11_beginAnswer_54 ⟨by rw [hRc]; omega, by rw [hRs]; omega⟩) hh_32.1 (fun q _ h => h) (fun q h => h) (fun u_33 t_33 H_33 locs_33 ht_33 hvm_33 hr_34 hb_33 hz_33 hk_33 hS_33 => ?_)
    obtain ⟨qc_33, qa_33, m_qa_33, G_33⟩ := u_33
    rw [ht_33] at hb_33
    simp only at hb_33
    obtain ⟨⟨hb_331, hb_332, hb_333, hb_334, hb_335, hb_336⟩, hgq_33_0, hN_33, hbO_33⟩ := hb_33
    have hy_35 := hh_32.iv 0 rfl
    have hh_33 : jSt (dC, dI) B base G0 G_33 EX11_beginAnswer s.heap (((m_qa_22 - n_pa) / 16) + ((m_qa_33 - m_qa_22) / 16)) ((2 * (m_qa_22 - n_pa)) + (2 * (m_qa_33 - m_qa_22))) [(bo, 2, 1, .int qc_33), (bo, 2, 0, .ref qa_33), (r1, 10, 0, .null), (r0, 13, 4, .ref bo)] [] [] H_33 locs_33 := (hh_32.callG hb_331 hb_332 hb_333 hb_334 hb_335 hS_33 rfl (L1 := [(r1, 10, 0, .null), (r0, 13, 4, .ref bo)]) [2, 3] rfl rfl (M1 := []) [] rfl rfl (I1 := []) [] rfl rfl).more hb_336
    have hNn_33 : (jNk [0, 1, 2, 3, 4, 5, 6, 7, 8, 9, 10, 11, 12, 13, 14, 15, 16]) G0 G_33 := (hNn_22).tr hN_33
    have hg_36 := hb_332 _ _ hg_25
    have hg_37 := hb_332 _ _ hg_26
    have hg_38 := hb_332 _ _ hg_27
    have hd_39 := jOl.trO (hh_32.iv 1 rfl) hh_32.2.2.2.2.1 hbO_33 (by simp)
    have hh_40 := hh_33.addI (jOl.ie (dC := dC) (dI := dI) (G0 := G0) (k := 2) (rs := [bo]) (H0 := s.heap) (F := [(2, 0), (2, 1)]) (C := RX0) (T := TX0) (N := 2) rfl (by decide) hh_33.2.2.2.2.1 (hd_39))
    clear hh_33
    have hyp_33 : qc_33.toInt ≤ (m_qa_33 : Nat) ∧ m_qa_33 ≤ 1048576 := by (try simp only at hr_34); omega
    have hy_41 := jYb.own hy_35 hbO_33 hb_332 hN_33 (by decide) (fun _ => ⟨_, _, _, hh_40.at 0 rfl, hh_40.at 1 rfl, hgq_33_0, hyp_33⟩)
    have hh_42 := hh_40.addI (jYb.ie hy_41)
    clear hh_40
    try simp only at hr_34
    obtain ⟨hr_34_0, hr_34_1, hr_34_2, hr_34_3, hr_34_4⟩ := hr_34
    have hh_43 := hh_42.wk (zc1 := (m_qa_33 - n_pa) / 16) (zs1 := 2 * (m_qa_33 - n_pa)) (by omega) (by omega)
    clear hh_42
    try clear hsz_33 htt_33 hrc_33 hrs_33
    try clear hb_334 hb_335
    have hsz_44 := hh_43.2.2.2.2.2.1
    have htt_44 := hh_43.2.2.2.2.2.2.1
    refine W.room (fun hrc_44 hrs_44 => ?_)
    refine W.widen (k := LC - s.heap.size) (n := LS - jTot s.heap) (by omega) (by omega) ?_
    rw [hQ]
    exact W.vret hx hb hr (fun t ht hW => ⟨⟨(qc_33, qa_33, m_qa_33, G_33), rfl, by (try dsimp only); exact ⟨(by first | omega | rfl | assumption | fail), (by first | omega | rfl | assumption | fail), (by first | omega | rfl | assumption | fail), (by first | omega | rfl | assumption | fail), (by first | assumption | fail | omega)⟩, ⟨hh_43.ra (by first | omega | (simp only; omega)) (by first | omega | (simp only; omega)) (M1 := [(bo, 2, 1, .int qc_33), (bo, 2, 0, .ref qa_33)]) [0, 1] rfl ht, hgq_33_0, hNn_33, by rw [ht]; exact hh_43.iv 1 rfl, by rw [ht]; exact hh_43.2.2.2.2.2.2.2.2.sub (L1 := [(jFy, jYb dC dI G_33)]) [0] rfl⟩⟩, by rw [ht]; try exact hh_43.1.1, fun q h9 hq => by rw [ht]; try exact hh_43.1.2.1 q h9 hq⟩) hh_43.1.2.2 dX11_beginAnswer_57
  · refine j7_read hx hb hown hK (C := RX8) (T := TX8) (N := 5) rfl hly_10_0 hlk_114 (hh_20.at 0 rfl) dX11_beginAnswer_19 ?_
    refine lv_ifnonnull (tgt := 38) hx hb dX11_beginAnswer_22 (by decide) ?_
    refine lv_aload_n hx hb dX11_beginAnswer_38 rfl (lv_at hl 0 rfl) ?_
    refine j7_read hx hb hown hK (C := RX11) (T := TX11) (N := 19) rfl hly_13_4 hlk_35 (hh_20.at 3 rfl) dX11_beginAnswer_39 ?_
    refine lv_aload_n hx hb dX11_beginAnswer_42 rfl (lv_at hl 1 rfl) ?_
    refine j7_read hx hb hown hK (C := RX8) (T := TX8) (N := 5) rfl hly_10_0 hlk_114 (hh_20.at 0 rfl) dX11_beginAnswer_43 ?_
    have hsz_45 := hh_20.2.2.2.2.2.1
    have htt_45 := hh_20.2.2.2.2.2.2.1
    refine W.room (fun hrc_45 hrs_45 => ?_)
    refine va_callv (A0 := jA base) (H0 := s.heap) (va_runV (As := [.ref id_21]) (rest := []) ⟨hx, hb, hml, hown, hts⟩ (uX0_append l dC dI ca base B hB hAp hB2 hB196 G_8 H_8 bo id_21 qc_8 qa_8 m_qa_8 LC LS) (cwV 1 hts (jgV (jWr_26 _ (List.mem_of_getElem? (i := 12) rfl)) (jWr_26 _ (List.mem_of_getElem? (i := 13) rfl)) (jWr_26 _ (List.mem_of_getElem? (i := 14) rfl)) (jWr_1 _ (List.mem_of_getElem? (i := 14) rfl)) (jWr_26 _ (List.mem_of_getElem? (i := 15) rfl))) rfl rfl rfl (by decide +kernel) ⟨by rw [← hR]; exact Nat.le_of_ble_eq_true rfl, by rw [← hR]; exact Nat.le_of_ble_eq_true rfl⟩) ⟨fun a U g mk q => by obtain ⟨q0, q1, q2, qK, q10, q11, q12, q13, q14⟩ := q; exact ⟨q0, q1, q2, jG.calling g mk a qK, q10, q11, q12, q13, q14⟩, hh_20.recv (C := RX0) (T := TX0) (N := 2) hB2 rfl (by decide) hg_13 hK, fun U hU hW => ⟨rfl, hU, hh_20.2.1, hG.step hW hU hh_20.1, hg_13, hg_id_21, hgq_8_0, (hh_20.2.2.1.sub (L1 := [(bo, 2, 1, .int qc_8), (bo, 2, 0, .ref qa_8)]) [1, 2] rfl), (by omega), (by omega), ⟨(by first | omega | rfl | assumption | fail), (by first | omega | rfl | assumption | fail), (by first | omega | rfl | assumption | fail), (by first | omega | rfl | assumption | fail), (by first | assumption | fail | omega)⟩⟩⟩ rfl rfl hl.1 rfl (lv_room (Nat.le_of_ble_eq_true rfl)) dX11_beginAnswer_46 ⟨by rw [hRc]; omega, by rw [hRs]; omega⟩) hh_20.1 (fun q _ h => h) (fun q h => h) (fun u_45 t_45 H_45 locs_45 ht_45 hvm_45 hr_46 hb_45 hz_45 hk_45 hS_45 => ?_)
    obtain ⟨qc_45, qa_45, m_qa_45, G_45⟩ := u_45
    rw [ht_45] at hb_45
    simp only at hb_45
    obtain ⟨⟨hb_451, hb_452, hb_453, hb_454, hb_455, hb_456⟩, hgq_45_0, hN_45, hbO_45⟩ := hb_45
    have hy_47 := hh_20.iv 0 rfl
    have hh_45 : jSt (dC, dI) B base G0 G_45 EX11_beginAnswer s.heap (((m_qa_8 - n_pa) / 16) + ((m_qa_45 - m_qa_8) / 16)) ((2 * (m_qa_8 - n_pa)) + (2 * (m_qa_45 - m_qa_8))) [(bo, 2, 1, .int qc_45), (bo, 2, 0, .ref qa_45), (r1, 10, 0, .ref id_21), (r0, 13, 4, .ref bo)] [] [] H_45 locs_45 := (hh_20.callG hb_451 hb_452 hb_453 hb_454 hb_455 hS_45 rfl (L1 := [(r1, 10, 0, .ref id_21), (r0, 13, 4, .ref bo)]) [0, 3] rfl rfl (M1 := []) [] rfl rfl (I1 := []) [] rfl rfl).more hb_456
    have hNn_45 : (jNk [0, 1, 2, 3, 4, 5, 6, 7, 8, 9, 10, 11, 12, 13, 14, 15, 16]) G0 G_45 := (hNn_8).tr hN_45
    have hg_48 := hb_452 _ _ hg_11
    have hg_49 := hb_452 _ _ hg_12
    have hg_50 := hb_452 _ _ hg_id_21
    have hg_51 := hb_452 _ _ hg_13
    have hd_52 := jOl.trO (hh_20.iv 1 rfl) hh_20.2.2.2.2.1 hbO_45 (by simp)
    have hh_53 := hh_45.addI (jOl.ie (dC := dC) (dI := dI) (G0 := G0) (k := 2) (rs := [bo]) (H0 := s.heap) (F := [(2, 0), (2, 1)]) (C := RX0) (T := TX0) (N := 2) rfl (by decide) hh_45.2.2.2.2.1 (hd_52))
    clear hh_45
    have hyp_45 : qc_45.toInt ≤ (m_qa_45 : Nat) ∧ m_qa_45 ≤ 1048576 := by (try simp only at hr_46); omega
    have hy_54 := jYb.own hy_47 hbO_45 hb_452 hN_45 (by decide) (fun _ => ⟨_, _, _, hh_53.at 0 rfl, hh_53.at 1 rfl, hgq_45_0, hyp_45⟩)
    have hh_55 := hh_53.addI (jYb.ie hy_54)
    clear hh_53
    try simp only at hr_46
    obtain ⟨hr_46_0, hr_46_1, hr_46_2, hr_46_3, hr_46_4⟩ := hr_46
    have hh_56 := hh_55.wk (zc1 := (m_qa_45 - n_pa) / 16) (zs1 := 2 * (m_qa_45 - n_pa)) (by omega) (by omega)
    clear hh_55
    try clear hsz_45 htt_45 hrc_45 hrs_45
    try clear hb_454 hb_455
    refine lv_aload_n hx hb dX11_beginAnswer_49 rfl (lv_at hl 0 rfl) ?_
    refine j7_read hx hb hown hK (C := RX11) (T := TX11) (N := 19) rfl hly_13_4 hlk_35 (hh_56.at 3 rfl) dX11_beginAnswer_50 ?_
    refine lv_aload_n hx hb dX11_beginAnswer_53 rfl (lv_at hl 2 rfl) ?_
    have hsz_57 := hh_56.2.2.2.2.2.1
    have htt_57 := hh_56.2.2.2.2.2.2.1
    refine W.room (fun hrc_57 hrs_57 => ?_)
    refine va_callv (A0 := jA base) (H0 := s.heap) (va_runV (As := [.ref r2]) (rest := []) ⟨hx, hb, hml, hown, hts⟩ (uX0_text l dC dI ca base B hB hAp hB2 hB196 G_45 H_45 bo r2 n2 qc_45 qa_45 m_qa_45 LC LS) (cwV 1 hts (jgV (jWr_26 _ (List.mem_of_getElem? (i := 11) rfl)) (jWr_25 _ (List.mem_of_getElem? (i := 22) rfl)) (jWr_25 _ (List.mem_of_getElem? (i := 23) rfl)) (jWr_1 _ (List.mem_of_getElem? (i := 14) rfl)) (jWr_26 _ (List.mem_of_getElem? (i := 0) rfl))) rfl rfl rfl (by decide +kernel) ⟨by rw [← hR]; exact Nat.le_of_ble_eq_true rfl, by rw [← hR]; exact Nat.le_of_ble_eq_true rfl⟩) ⟨fun a U g mk q => by obtain ⟨q0, q1, q2, qK, q10, q11, q12, q13, q14⟩ := q; exact ⟨q0, q1, q2, jG.calling g mk a qK, (q10.moved (Vm.Alike.refl U.vm)), q11, q12, q13, q14⟩, hh_56.recv (C := RX0) (T := TX0) (N := 2) hB2 rfl (by decide) hg_51 hK, fun U hU hW => ⟨rfl, hU, hh_56.2.1, hG.step hW hU hh_56.1, (hstr_r2.moved hW.alike).kept hh_56.1.2.1, hg_51, hgq_45_0, (hh_56.2.2.1.sub (L1 := [(bo, 2, 1, .int qc_45), (bo, 2, 0, .ref qa_45)]) [0, 1] rfl), (by omega), (by omega), ⟨(by first | omega | rfl | assumption | fail), (by first | omega | rfl | assumption | fail), (by first | omega | rfl | assumption | fail), (by first | omega | rfl | assumption | fail), (by first | assumption | fail | omega), (by first | omega | rfl | assumption | fail)⟩⟩⟩ rfl rfl hl.1 rfl (lv_room (Nat.le_of_ble_eq_true rfl)) dX11_beginAnswer_54 ⟨by rw [hRc]; omega, by rw [hRs]; omega⟩) hh_56.1 (fun q _ h => h) (fun q h => h) (fun u_57 t_57 H_57 locs_57 ht_57 hvm_57 hr_58 hb_57 hz_57 hk_57 hS_57 => ?_)
    obtain ⟨qc_57, qa_57, m_qa_57, G_57⟩ := u_57
    rw [ht_57] at hb_57
    simp only at hb_57
    obtain ⟨⟨hb_571, hb_572, hb_573, hb_574, hb_575, hb_576⟩, hgq_57_0, hN_57, hbO_57⟩ := hb_57
    have hy_59 := hh_56.iv 0 rfl
    have hh_57 : jSt (dC, dI) B base G0 G_57 EX11_beginAnswer s.heap (((m_qa_45 - n_pa) / 16) + ((m_qa_57 - m_qa_45) / 16)) ((2 * (m_qa_45 - n_pa)) + (2 * (m_qa_57 - m_qa_45))) [(bo, 2, 1, .int qc_57), (bo, 2, 0, .ref qa_57), (r1, 10, 0, .ref id_21), (r0, 13, 4, .ref bo)] [] [] H_57 locs_57 := (hh_56.callG hb_571 hb_572 hb_573 hb_574 hb_575 hS_57 rfl (L1 := [(r1, 10, 0, .ref id_21), (r0, 13, 4, .ref bo)]) [2, 3] rfl rfl (M1 := []) [] rfl rfl (I1 := []) [] rfl rfl).more hb_576
    have hNn_57 : (jNk [0, 1, 2, 3, 4, 5, 6, 7, 8, 9, 10, 11, 12, 13, 14, 15, 16]) G0 G_57 := (hNn_45).tr hN_57
    have hg_60 := hb_572 _ _ hg_48
    have hg_61 := hb_572 _ _ hg_49
    have hg_62 := hb_572 _ _ hg_50
    have hg_63 := hb_572 _ _ hg_51
    have hd_64 := jOl.trO (hh_56.iv 1 rfl) hh_56.2.2.2.2.1 hbO_57 (by simp)
    have hh_65 := hh_57.addI (jOl.ie (dC := dC) (dI := dI) (G0 := G0) (k := 2) (rs := [bo]) (H0 := s.heap) (F := [(2, 0), (2, 1)]) (C := RX0) (T := TX0) (N := 2) rfl (by decide) hh_57.2.2.2.2.1 (hd_64))
    clear hh_57
    have hyp_57 : qc_57.toInt ≤ (m_qa_57 : Nat) ∧ m_qa_57 ≤ 1048576 := by (try simp only at hr_58); omega
    have hy_66 := jYb.own hy_59 hbO_57 hb_572 hN_57 (by decide) (fun _ => ⟨_, _, _, hh_65.at 0 rfl, hh_65.at 1 rfl, hgq_57_0, hyp_57⟩)
    have hh_67 := hh_65.addI (jYb.ie hy_66)
    clear hh_65
    try simp only at hr_58
    obtain ⟨hr_58_0, hr_58_1, hr_58_2, hr_58_3, hr_58_4⟩ := hr_58
    have hh_68 := hh_67.wk (zc1 := (m_qa_57 - n_pa) / 16) (zs1 := 2 * (m_qa_57 - n_pa)) (by omega) (by omega)
    clear hh_67
    try clear hsz_57 htt_57 hrc_57 hrs_57
    try clear hb_574 hb_575
    have hsz_69 := hh_68.2.2.2.2.2.1
    have htt_69 := hh_68.2.2.2.2.2.2.1
    refine W.room (fun hrc_69 hrs_69 => ?_)
    refine W.widen (k := LC - s.heap.size) (n := LS - jTot s.heap) (by omega) (by omega) ?_
    rw [hQ]
    exact W.vret hx hb hr (fun t ht hW => ⟨⟨(qc_57, qa_57, m_qa_57, G_57), rfl, by (try dsimp only); exact ⟨(by first | omega | rfl | assumption | fail), (by first | omega | rfl | assumption | fail), (by first | omega | rfl | assumption | fail), (by first | omega | rfl | assumption | fail), (by first | assumption | fail | omega)⟩, ⟨hh_68.ra (by first | omega | (simp only; omega)) (by first | omega | (simp only; omega)) (M1 := [(bo, 2, 1, .int qc_57), (bo, 2, 0, .ref qa_57)]) [0, 1] rfl ht, hgq_57_0, hNn_57, by rw [ht]; exact hh_68.iv 1 rfl, by rw [ht]; exact hh_68.2.2.2.2.2.2.2.2.sub (L1 := [(jFy, jYb dC dI G_57)]) [0] rfl⟩⟩, by rw [ht]; try exact hh_68.1.1, fun q h9 hq => by rw [ht]; try exact hh_68.1.2.1 q h9 hq⟩) hh_68.1.2.2 dX11_beginAnswer_57
set_option maxHeartbeats 4000000 in
set_option maxRecDepth 20000 in
theorem uX11_position (l : Launch) (dC : Nat → ClassId) (dI : Nat → Nat → Nat) (ca : Nat → ClassId) (base : Nat) (B : jF) (hB : jBok B) (hAp : jAp (dC, dI)) (hB2 : ∀ n G a H, B 2 n G a H ↔ jOb (dC, dI) 2 2 (F2 n G) a H) (hB3 : ∀ n G a H, B 3 n G a H ↔ jOb (dC, dI) 3 17 (F3 n G) a H) (hB13 : ∀ n G a H, B 13 n G a H ↔ jOb (dC, dI) 13 19 (F13 n G) a H) (hB173 : ∀ n G a H, B 173 n G a H ↔ jAr (dC, dI) (ca 1) (fun j z => True) n a H) (hB196 : ∀ n G a H, B 196 n G a H ↔ jAr (dC, dI) (ca 0) (fun j z => jBf j z) n a H) (G0 : jT) (H0 : Heap) (r0 : Nat) (r1 : Nat) (a2 : Int32) (bo : Nat) (pc : Int32) (pa : Nat) (n_pa : Nat) (LC LS : Nat) : Met l yX11_position (jw yX11_position cX11_position 3 none) ({ frames := 5, cells := LC - H0.size, slots := LS - jTot H0, locals := 163 }) (va_Pc [.ref r0, .ref r1, .int a2] (fun U => U.heap = H0 ∧ jX B base G0 [] H0 ∧ jG dC dI ca base U ∧ G0 r1 = some (3, 0) ∧ G0 r0 = some (13, 0) ∧ G0 bo = some (2, 0) ∧ G0 pa = some (196, n_pa) ∧ jP (dC, dI) G0 H0 [(r0, 13, 4, .ref bo), (bo, 2, 1, .int pc), (bo, 2, 0, .ref pa)] ∧ jIs (dC, dI) G0 H0 [(jFy, jYb dC dI G0)] ∧ H0.size + (1048576 - n_pa) / 16 + 1 ≤ LC ∧ jTot H0 + 2 * (1048576 - n_pa) ≤ LS ∧ 0 ≤ pc.toInt ∧ pc.toInt ≤ n_pa ∧ 16 ≤ n_pa ∧ n_pa ≤ 1048576 ∧ jPw n_pa)) (va_Qv (S := Int32 × Nat × Nat × jT) (fun u => 0 ≤ u.1.toInt ∧ u.1.toInt ≤ u.2.2.1 ∧ n_pa ≤ u.2.2.1 ∧ u.2.2.1 ≤ 1048576 ∧ jPw u.2.2.1) (fun u t => jRa (dC, dI) B base G0 u.2.2.2 EX11_position H0 ((u.2.2.1 - n_pa) / 16) (2 * (u.2.2.1 - n_pa)) [(bo, 2, 1, .int u.1), (bo, 2, 0, .ref u.2.1)] t.heap ∧ u.2.2.2 u.2.1 = some (196, u.2.2.1) ∧ (jNk [0, 1, 2, 3, 4, 5, 6, 7, 8, 9, 10, 11, 12, 13, 14, 15, 16]) G0 u.2.2.2 ∧ jOl (dC, dI) G0 2 [bo] H0 t.heap ∧ jIs (dC, dI) u.2.2.2 t.heap [(jFy, jYb dC dI u.2.2.2)]) (jA base)) (LC - H0.size) (LS - jTot H0) (jA base) := by
  refine Met.ofW (cc := cX11_position) (maxL := 3) (ret := none) (by decide) rfl ?_
  intro p e s m args below meth c s₁ Bd hml hv
  obtain ⟨rfl, hH0, hX, hG, hg_r1, hg_r0, hg_bo, hg_pa, hP0, hI0, hLC0, hLS0, hp0, hp1, hp2, hp3, hp4⟩ := hv
  have hK := hG.1
  have hx := Bd.exec
  have hb := Bd.bytes
  have hr := Bd.returns
  have hts := atoms_spec (ws := (jw yX11_position cX11_position 3 none)) Bd.pre
  have htw : ∀ w ∈ jWl, w.before _ s = true := fun w h => hts w (List.mem_cons_of_mem _ h)
  have hown : s.vm.findClass RX11 = some m.cls := findClass_of_methodNamed Bd.named
  have hlocks := Bd.notSynchronized
  obtain ⟨Q, hQ⟩ : ∃ Q, Q = MQ below (va_Qv (S := Int32 × Nat × Nat × jT) (fun u => 0 ≤ u.1.toInt ∧ u.1.toInt ≤ u.2.2.1 ∧ n_pa ≤ u.2.2.1 ∧ u.2.2.1 ≤ 1048576 ∧ jPw u.2.2.1) (fun u t => jRa (dC, dI) B base G0 u.2.2.2 EX11_position H0 ((u.2.2.1 - n_pa) / 16) (2 * (u.2.2.1 - n_pa)) [(bo, 2, 1, .int u.1), (bo, 2, 0, .ref u.2.1)] t.heap ∧ u.2.2.2 u.2.1 = some (196, u.2.2.1) ∧ (jNk [0, 1, 2, 3, 4, 5, 6, 7, 8, 9, 10, 11, 12, 13, 14, 15, 16]) G0 u.2.2.2 ∧ jOl (dC, dI) G0 2 [bo] H0 t.heap ∧ jIs (dC, dI) u.2.2.2 t.heap [(jFy, jYb dC dI u.2.2.2)]) (jA base)) ([.ref r0, .ref r1, .int a2] : List Value).toArray s (LC - H0.size) (LS - jTot H0) (jA base) := ⟨_, rfl⟩
  rw [← hQ]
  have hl := lv_entry ([.ref r0, .ref r1, .int a2]) (n := 3) (Nat.le_of_ble_eq_true rfl)
  rw [lg_entry_eq]
  generalize (lg_sl ([.ref r0, .ref r1, .int a2]) ++ List.replicate (3 - (lg_sl ([.ref r0, .ref r1, .int a2])).length) Slot.unset).toArray = ls at hl ⊢
  have hl : lv_has ls 3 [(0, .ref r0), (1, .ref r1), (2, .int a2)] := hl
  generalize hR : (headSpec (jw yX11_position cX11_position 3 none) ({ frames := 5, cells := LC - H0.size, slots := LS - jTot H0, locals := 163 })).room = R
  subst hH0
  have hh : jSt (dC, dI) B base G0 G0 EX11_position s.heap 0 0 [(r0, 13, 4, .ref bo), (bo, 2, 1, .int pc), (bo, 2, 0, .ref pa)] [] [(jFy, jYb dC dI G0)] s.heap [] := jSt.start hX hP0 jMc.nil hI0
  clear hX hP0
  have hk0 : (0 : Int32).toInt = 0 := by decide
  have hk1 : (1 : Int32).toInt = 1 := by decide
  have hk125 : (125 : Int32).toInt = 125 := by decide
  have hly_3_14 := htw (u_lay RX1 TX1 14) (jWc_wsX10 _ (u_in_lay (by decide)))
  have hly_3_15 := htw (u_lay RX1 TX1 15) (jWc_wsX10 _ (u_in_lay (by decide)))
  have hly_13_4 := htw (u_lay RX11 TX11 4) (jWc_wsX110 _ (u_in_lay (by decide)))
  have hlk_35 := (htw (.fieldLink RX11 35 "ProofServer" "body" "LProofServer$Bytes;") (jWr_2 _ (List.mem_of_getElem? (i := 1) rfl)))
  obtain ⟨str534, rstr534, hstr5340⟩ := hG.str (o := RX11) (k := 534) (tx := "{\"line\":") (List.mem_of_getElem? (i := 1233) (by decide +kernel))
  have hstr534 : jStr base str534 8 s s.heap := hstr5340
  have hlk_536 := (htw (.fieldLink RX11 536 "ProofServer$Document" "line" "I") (jWr_40 _ (List.mem_of_getElem? (i := 19) rfl)))
  obtain ⟨str538, rstr538, hstr5380⟩ := hG.str (o := RX11) (k := 538) (tx := ",\"character\":") (List.mem_of_getElem? (i := 1234) (by decide +kernel))
  have hstr538 : jStr base str538 13 s s.heap := hstr5380
  have hlk_540 := (htw (.fieldLink RX11 540 "ProofServer$Document" "lineStart" "I") (jWr_40 _ (List.mem_of_getElem? (i := 20) rfl)))
  have hrg_a2 := jb_rng a2
  have hbs : base ≤ s.heap.size := Nat.le_of_lt (Nat.lt_of_le_of_lt (hh.ab hg_r0).1 (hh.ab hg_r0).2)
  have hRc : R.cells = LC - s.heap.size := by rw [← hR]; rfl
  have hRs : R.slots = LS - jTot s.heap := by rw [← hR]; rfl
  have hh_1 := hh.addI (jOl.ie (dC := dC) (dI := dI) (G0 := G0) (k := 2) (rs := [bo]) (H0 := s.heap) (F := [(2, 0), (2, 1)]) (C := RX0) (T := TX0) (N := 2) rfl (by decide) hh.2.2.2.2.1 (jOl.rf))
  clear hh
  refine lv_aload_n hx hb dX11_position_0 rfl (lv_at hl 1 rfl) ?_
  refine lv_iload_n hx hb dX11_position_1 rfl (lv_at hl 2 rfl) ?_
  have hsz_2 := hh_1.2.2.2.2.2.1
  have htt_2 := hh_1.2.2.2.2.2.2.1
  refine W.room (fun hrc_2 hrs_2 => ?_)
  refine va_callv (A0 := jA base) (H0 := s.heap) (va_runV (As := [.int a2]) (rest := []) ⟨hx, hb, hml, hown, hts⟩ (uX1_seek l dC dI ca base B hB hAp hB3 hB173 G0 s.heap r1 a2 0) (cwV 1 hts (jgV (jWr_40 _ (List.mem_of_getElem? (i := 21) rfl)) (jWr_40 _ (List.mem_of_getElem? (i := 22) rfl)) (jWr_40 _ (List.mem_of_getElem? (i := 23) rfl)) (jWr_2 _ (List.mem_of_getElem? (i := 21) rfl)) (jWr_41 _ (List.mem_of_getElem? (i := 0) rfl))) rfl rfl rfl (by decide +kernel) ⟨by rw [← hR]; exact Nat.le_of_ble_eq_true rfl, by rw [← hR]; exact Nat.le_of_ble_eq_true rfl⟩) ⟨fun a U g mk q => by obtain ⟨q0, q1, q2, qK, q10, q11, q12⟩ := q; exact ⟨q0, q1, q2, jG.calling g mk a qK, q10, q11, q12⟩, hh_1.recv (C := RX1) (T := TX1) (N := 17) hB3 rfl (by decide) hg_r1 hK, fun U hU hW => ⟨rfl, hU, hh_1.2.1, hG.step hW hU hh_1.1, hg_r1, jP.nil, trivial⟩⟩ rfl rfl hl.1 rfl (lv_room (Nat.le_of_ble_eq_true rfl)) dX11_position_2 ⟨by rw [hRc]; show _ + 0 ≤ _; omega, by rw [hRs]; show _ + 0 ≤ _; omega⟩) hh_1.1 (fun q _ h => h) (fun q h => h) (fun u_2 t_2 H_2 locs_2 ht_2 hvm_2 hr_3 hb_2 hz_2 hk_2 hS_2 => ?_)
  rw [ht_2] at hb_2
  obtain ⟨hb_21, hb_22, hb_23, hb_24, hb_25⟩ := hb_2
  have hh_2 : jSt (dC, dI) B base G0 G0 EX11_position s.heap 0 0 [(r0, 13, 4, .ref bo), (bo, 2, 1, .int pc), (bo, 2, 0, .ref pa)] [] [([(2, 0), (2, 1)], jOl (dC, dI) G0 2 [bo] s.heap), (jFy, jYb dC dI G0)] H_2 locs_2 := ((hh_1.call hb_21 hb_22 hb_23 hb_24 hS_2 rfl (L1 := [(r0, 13, 4, .ref bo), (bo, 2, 1, .int pc), (bo, 2, 0, .ref pa)]) [0, 1, 2] rfl rfl (M1 := []) [] rfl rfl (I1 := [([(2, 0), (2, 1)], jOl (dC, dI) G0 2 [bo] s.heap), (jFy, jYb dC dI G0)]) [0, 1] rfl rfl).more hb_25)
  clear hh_1 ht_2 hvm_2 hz_2 hk_2 hS_2 hb_21 hb_22 hb_23 hb_24 hb_25
  refine lv_aload_n hx hb dX11_position_5 rfl (lv_at hl 0 rfl) ?_
  refine j7_read hx hb hown hK (C := RX11) (T := TX11) (N := 19) rfl hly_13_4 hlk_35 (hh_2.at 0 rfl) dX11_position_6 ?_
  refine j_ldcSw hx hb hown rstr534 dX11_position_9 ?_
  have hsz_4 := hh_2.2.2.2.2.2.1
  have htt_4 := hh_2.2.2.2.2.2.2.1
  refine W.room (fun hrc_4 hrs_4 => ?_)
  refine va_callv (A0 := jA base) (H0 := s.heap) (va_runV (As := [.ref str534]) (rest := []) ⟨hx, hb, hml, hown, hts⟩ (uX0_text l dC dI ca base B hB hAp hB2 hB196 G0 H_2 bo str534 8 pc pa n_pa LC LS) (cwV 1 hts (jgV (jWr_26 _ (List.mem_of_getElem? (i := 11) rfl)) (jWr_25 _ (List.mem_of_getElem? (i := 22) rfl)) (jWr_25 _ (List.mem_of_getElem? (i := 23) rfl)) (jWr_1 _ (List.mem_of_getElem? (i := 14) rfl)) (jWr_26 _ (List.mem_of_getElem? (i := 0) rfl))) rfl rfl rfl (by decide +kernel) ⟨by rw [← hR]; exact Nat.le_of_ble_eq_true rfl, by rw [← hR]; exact Nat.le_of_ble_eq_true rfl⟩) ⟨fun a U g mk q => by obtain ⟨q0, q1, q2, qK, q10, q11, q12, q13, q14⟩ := q; exact ⟨q0, q1, q2, jG.calling g mk a qK, (q10.moved (Vm.Alike.refl U.vm)), q11, q12, q13, q14⟩, hh_2.recv (C := RX0) (T := TX0) (N := 2) hB2 rfl (by decide) hg_bo hK, fun U hU hW => ⟨rfl, hU, hh_2.2.1, hG.step hW hU hh_2.1, (hstr534.moved hW.alike).kept hh_2.1.2.1, hg_bo, hg_pa, (hh_2.2.2.1.sub (L1 := [(bo, 2, 1, .int pc), (bo, 2, 0, .ref pa)]) [1, 2] rfl), (by omega), (by omega), ⟨(by first | omega | rfl | assumption | fail), (by first | omega | rfl | assumption | fail), (by first | omega | rfl | assumption | fail), (by first | omega | rfl | assumption | fail), (by first | assumption | fail | omega), (by first | omega | rfl | assumption | fail)⟩⟩⟩ rfl rfl hl.1 rfl (lv_room (Nat.le_of_ble_eq_true rfl)) dX11_position_12 ⟨by rw [hRc]; omega, by rw [hRs]; omega⟩) hh_2.1 (fun q _ h => h) (fun q h => h) (fun u_4 t_4 H_4 locs_4 ht_4 hvm_4 hr_5 hb_4 hz_4 hk_4 hS_4 => ?_)
  obtain ⟨qc_4, qa_4, m_qa_4, G_4⟩ := u_4
  rw [ht_4] at hb_4
  simp only at hb_4
  obtain ⟨⟨hb_41, hb_42, hb_43, hb_44, hb_45, hb_46⟩, hgq_4_0, hN_4, hbO_4⟩ := hb_4
  have hy_6 := hh_2.iv 1 rfl
  have hh_4 : jSt (dC, dI) B base G0 G_4 EX11_position s.heap (0 + ((m_qa_4 - n_pa) / 16)) (0 + (2 * (m_qa_4 - n_pa))) [(bo, 2, 1, .int qc_4), (bo, 2, 0, .ref qa_4), (r0, 13, 4, .ref bo)] [] [] H_4 locs_4 := (hh_2.callG hb_41 hb_42 hb_43 hb_44 hb_45 hS_4 rfl (L1 := [(r0, 13, 4, .ref bo)]) [0] rfl rfl (M1 := []) [] rfl rfl (I1 := []) [] rfl rfl).more hb_46
  have hNn_4 : (jNk [0, 1, 2, 3, 4, 5, 6, 7, 8, 9, 10, 11, 12, 13, 14, 15, 16]) G0 G_4 := (jNk.rf).tr hN_4
  have hg_7 := hb_42 _ _ hg_r0
  have hg_8 := hb_42 _ _ hg_r1
  have hg_9 := hb_42 _ _ hg_bo
  have hd_10 := jOl.trO (hh_2.iv 0 rfl) hh_2.2.2.2.2.1 hbO_4 (by simp)
  have hh_11 := hh_4.addI (jOl.ie (dC := dC) (dI := dI) (G0 := G0) (k := 2) (rs := [bo]) (H0 := s.heap) (F := [(2, 0), (2, 1)]) (C := RX0) (T := TX0) (N := 2) rfl (by decide) hh_4.2.2.2.2.1 (hd_10))
  clear hh_4
  have hyp_4 : qc_4.toInt ≤ (m_qa_4 : Nat) ∧ m_qa_4 ≤ 1048576 := by (try simp only at hr_5); omega
  have hy_12 := jYb.own hy_6 hbO_4 hb_42 hN_4 (by decide) (fun _ => ⟨_, _, _, hh_11.at 0 rfl, hh_11.at 1 rfl, hgq_4_0, hyp_4⟩)
  have hh_13 := hh_11.addI (jYb.ie hy_12)
  clear hh_11
  try simp only at hr_5
  obtain ⟨hr_5_0, hr_5_1, hr_5_2, hr_5_3, hr_5_4⟩ := hr_5
  have hh_14 := hh_13.wk (zc1 := (m_qa_4 - n_pa) / 16) (zs1 := 2 * (m_qa_4 - n_pa)) (by omega) (by omega)
  clear hh_13
  try clear hsz_4 htt_4 hrc_4 hrs_4
  try clear hb_44 hb_45
  refine lv_aload_n hx hb dX11_position_15 rfl (lv_at hl 0 rfl) ?_
  refine j7_read hx hb hown hK (C := RX11) (T := TX11) (N := 19) rfl hly_13_4 hlk_35 (hh_14.at 2 rfl) dX11_position_16 ?_
  refine lv_aload_n hx hb dX11_position_19 rfl (lv_at hl 1 rfl) ?_
  obtain ⟨v_15, hv_15, hh_16⟩ := hh_14.pin (C := RX1) (T := TX1) (N := 17) hB3 rfl (by decide) hg_8 (i := 14) (by decide) rfl
  clear hh_14
  obtain ⟨line_17, rfl⟩ := hv_15
  refine j7_read hx hb hown hK (C := RX1) (T := TX1) (N := 17) rfl hly_3_14 hlk_536 (hh_16.at 0 rfl) dX11_position_20 ?_
  have hsz_18 := hh_16.2.2.2.2.2.1
  have htt_18 := hh_16.2.2.2.2.2.2.1
  refine W.room (fun hrc_18 hrs_18 => ?_)
  refine va_callv (A0 := jA base) (H0 := s.heap) (va_runV (As := [.int line_17]) (rest := []) ⟨hx, hb, hml, hown, hts⟩ (uX0_number l dC dI ca base B hB hAp hB2 hB196 G_4 H_4 bo line_17 qc_4 qa_4 m_qa_4 LC LS) (cwV 1 hts (jgV (jWr_26 _ (List.mem_of_getElem? (i := 16) rfl)) (jWr_24 _ (List.mem_of_getElem? (i := 16) rfl)) (jWr_24 _ (List.mem_of_getElem? (i := 17) rfl)) (jWr_1 _ (List.mem_of_getElem? (i := 14) rfl)) (jWr_24 _ (List.mem_of_getElem? (i := 18) rfl))) rfl rfl rfl (by decide +kernel) ⟨by rw [← hR]; exact Nat.le_of_ble_eq_true rfl, by rw [← hR]; exact Nat.le_of_ble_eq_true rfl⟩) ⟨fun a U g mk q => by obtain ⟨q0, q1, q2, qK, q10, q11, q12, q13⟩ := q; exact ⟨q0, q1, q2, jG.calling g mk a qK, q10, q11, q12, q13⟩, hh_16.recv (C := RX0) (T := TX0) (N := 2) hB2 rfl (by decide) hg_9 hK, fun U hU hW => ⟨rfl, hU, hh_16.2.1, hG.step hW hU hh_16.1, hg_9, hgq_4_0, (hh_16.2.2.1.sub (L1 := [(bo, 2, 1, .int qc_4), (bo, 2, 0, .ref qa_4)]) [1, 2] rfl), (by omega), (by omega), ⟨(by first | omega | rfl | assumption | fail), (by first | omega | rfl | assumption | fail), (by first | omega | rfl | assumption | fail), (by first | omega | rfl | assumption | fail), (by first | assumption | fail | omega)⟩⟩⟩ rfl rfl hl.1 rfl (lv_room (Nat.le_of_ble_eq_true rfl)) dX11_position_23 ⟨by rw [hRc]; omega, by rw [hRs]; omega⟩) hh_16.1 (fun q _ h => h) (fun q h => h) (fun u_18 t_18 H_18 locs_18 ht_18 hvm_18 hr_19 hb_18 hz_18 hk_18 hS_18 => ?_)
  obtain ⟨qc_18, qa_18, m_qa_18, G_18⟩ := u_18
  rw [ht_18] at hb_18
  simp only at hb_18
  obtain ⟨⟨hb_181, hb_182, hb_183, hb_184, hb_185, hb_186⟩, hgq_18_0, hN_18, hbO_18⟩ := hb_18
  have hy_20 := hh_16.iv 0 rfl
  have hh_18 : jSt (dC, dI) B base G0 G_18 EX11_position s.heap (((m_qa_4 - n_pa) / 16) + ((m_qa_18 - m_qa_4) / 16)) ((2 * (m_qa_4 - n_pa)) + (2 * (m_qa_18 - m_qa_4))) [(bo, 2, 1, .int qc_18), (bo, 2, 0, .ref qa_18), (r1, 3, 14, .int line_17), (r0, 13, 4, .ref bo)] [] [] H_18 locs_18 := (hh_16.callG hb_181 hb_182 hb_183 hb_184 hb_185 hS_18 rfl (L1 := [(r1, 3, 14, .int line_17), (r0, 13, 4, .ref bo)]) [0, 3] rfl rfl (M1 := []) [] rfl rfl (I1 := []) [] rfl rfl).more hb_186
  have hNn_18 : (jNk [0, 1, 2, 3, 4, 5, 6, 7, 8, 9, 10, 11, 12, 13, 14, 15, 16]) G0 G_18 := (hNn_4).tr hN_18
  have hg_21 := hb_182 _ _ hg_7
  have hg_22 := hb_182 _ _ hg_8
  have hg_23 := hb_182 _ _ hg_9
  have hd_24 := jOl.trO (hh_16.iv 1 rfl) hh_16.2.2.2.2.1 hbO_18 (by simp)
  have hh_25 := hh_18.addI (jOl.ie (dC := dC) (dI := dI) (G0 := G0) (k := 2) (rs := [bo]) (H0 := s.heap) (F := [(2, 0), (2, 1)]) (C := RX0) (T := TX0) (N := 2) rfl (by decide) hh_18.2.2.2.2.1 (hd_24))
  clear hh_18
  have hyp_18 : qc_18.toInt ≤ (m_qa_18 : Nat) ∧ m_qa_18 ≤ 1048576 := by (try simp only at hr_19); omega
  have hy_26 := jYb.own hy_20 hbO_18 hb_182 hN_18 (by decide) (fun _ => ⟨_, _, _, hh_25.at 0 rfl, hh_25.at 1 rfl, hgq_18_0, hyp_18⟩)
  have hh_27 := hh_25.addI (jYb.ie hy_26)
  clear hh_25
  try simp only at hr_19
  obtain ⟨hr_19_0, hr_19_1, hr_19_2, hr_19_3, hr_19_4⟩ := hr_19
  have hh_28 := hh_27.wk (zc1 := (m_qa_18 - n_pa) / 16) (zs1 := 2 * (m_qa_18 - n_pa)) (by omega) (by omega)
  clear hh_27
  try clear hsz_18 htt_18 hrc_18 hrs_18
  try clear hb_184 hb_185
  refine lv_aload_n hx hb dX11_position_26 rfl (lv_at hl 0 rfl) ?_
  refine j7_read hx hb hown hK (C := RX11) (T := TX11) (N := 19) rfl hly_13_4 hlk_35 (hh_28.at 3 rfl) dX11_position_27 ?_
  refine j_ldcSw hx hb hown rstr538 dX11_position_30 ?_
  have hsz_29 := hh_28.2.2.2.2.2.1
  have htt_29 := hh_28.2.2.2.2.2.2.1
  refine W.room (fun hrc_29 hrs_29 => ?_)
  refine va_callv (A0 := jA base) (H0 := s.heap) (va_runV (As := [.ref str538]) (rest := []) ⟨hx, hb, hml, hown, hts⟩ (uX0_text l dC dI ca base B hB hAp hB2 hB196 G_18 H_18 bo str538 13 qc_18 qa_18 m_qa_18 LC LS) (cwV 1 hts (jgV (jWr_26 _ (List.mem_of_getElem? (i := 11) rfl)) (jWr_25 _ (List.mem_of_getElem? (i := 22) rfl)) (jWr_25 _ (List.mem_of_getElem? (i := 23) rfl)) (jWr_1 _ (List.mem_of_getElem? (i := 14) rfl)) (jWr_26 _ (List.mem_of_getElem? (i := 0) rfl))) rfl rfl rfl (by decide +kernel) ⟨by rw [← hR]; exact Nat.le_of_ble_eq_true rfl, by rw [← hR]; exact Nat.le_of_ble_eq_true rfl⟩) ⟨fun a U g mk q => by obtain ⟨q0, q1, q2, qK, q10, q11, q12, q13, q14⟩ := q; exact ⟨q0, q1, q2, jG.calling g mk a qK, (q10.moved (Vm.Alike.refl U.vm)), q11, q12, q13, q14⟩, hh_28.recv (C := RX0) (T := TX0) (N := 2) hB2 rfl (by decide) hg_23 hK, fun U hU hW => ⟨rfl, hU, hh_28.2.1, hG.step hW hU hh_28.1, (hstr538.moved hW.alike).kept hh_28.1.2.1, hg_23, hgq_18_0, (hh_28.2.2.1.sub (L1 := [(bo, 2, 1, .int qc_18), (bo, 2, 0, .ref qa_18)]) [0, 1] rfl), (by omega), (by omega), ⟨(by first | omega | rfl | assumption | fail), (by first | omega | rfl | assumption | fail), (by first | omega | rfl | assumption | fail), (by first | omega | rfl | assumption | fail), (by first | assumption | fail | omega), (by first | omega | rfl | assumption | fail)⟩⟩⟩ rfl rfl hl.1 rfl (lv_room (Nat.le_of_ble_eq_true rfl)) dX11_position_33 ⟨by rw [hRc]; omega, by rw [hRs]; omega⟩) hh_28.1 (fun q _ h => h) (fun q h => h) (fun u_29 t_29 H_29 locs_29 ht_29 hvm_29 hr_30 hb_29 hz_29 hk_29 hS_29 => ?_)
  obtain ⟨qc_29, qa_29, m_qa_29, G_29⟩ := u_29
  rw [ht_29] at hb_29
  simp only at hb_29
  obtain ⟨⟨hb_291, hb_292, hb_293, hb_294, hb_295, hb_296⟩, hgq_29_0, hN_29, hbO_29⟩ := hb_29
  have hy_31 := hh_28.iv 0 rfl
  have hh_29 : jSt (dC, dI) B base G0 G_29 EX11_position s.heap (((m_qa_18 - n_pa) / 16) + ((m_qa_29 - m_qa_18) / 16)) ((2 * (m_qa_18 - n_pa)) + (2 * (m_qa_29 - m_qa_18))) [(bo, 2, 1, .int qc_29), (bo, 2, 0, .ref qa_29), (r1, 3, 14, .int line_17), (r0, 13, 4, .ref bo)] [] [] H_29 locs_29 := (hh_28.callG hb_291 hb_292 hb_293 hb_294 hb_295 hS_29 rfl (L1 := [(r1, 3, 14, .int line_17), (r0, 13, 4, .ref bo)]) [2, 3] rfl rfl (M1 := []) [] rfl rfl (I1 := []) [] rfl rfl).more hb_296
  have hNn_29 : (jNk [0, 1, 2, 3, 4, 5, 6, 7, 8, 9, 10, 11, 12, 13, 14, 15, 16]) G0 G_29 := (hNn_18).tr hN_29
  have hg_32 := hb_292 _ _ hg_21
  have hg_33 := hb_292 _ _ hg_22
  have hg_34 := hb_292 _ _ hg_23
  have hd_35 := jOl.trO (hh_28.iv 1 rfl) hh_28.2.2.2.2.1 hbO_29 (by simp)
  have hh_36 := hh_29.addI (jOl.ie (dC := dC) (dI := dI) (G0 := G0) (k := 2) (rs := [bo]) (H0 := s.heap) (F := [(2, 0), (2, 1)]) (C := RX0) (T := TX0) (N := 2) rfl (by decide) hh_29.2.2.2.2.1 (hd_35))
  clear hh_29
  have hyp_29 : qc_29.toInt ≤ (m_qa_29 : Nat) ∧ m_qa_29 ≤ 1048576 := by (try simp only at hr_30); omega
  have hy_37 := jYb.own hy_31 hbO_29 hb_292 hN_29 (by decide) (fun _ => ⟨_, _, _, hh_36.at 0 rfl, hh_36.at 1 rfl, hgq_29_0, hyp_29⟩)
  have hh_38 := hh_36.addI (jYb.ie hy_37)
  clear hh_36
  try simp only at hr_30
  obtain ⟨hr_30_0, hr_30_1, hr_30_2, hr_30_3, hr_30_4⟩ := hr_30
  have hh_39 := hh_38.wk (zc1 := (m_qa_29 - n_pa) / 16) (zs1 := 2 * (m_qa_29 - n_pa)) (by omega) (by omega)
  clear hh_38
  try clear hsz_29 htt_29 hrc_29 hrs_29
  try clear hb_294 hb_295
  refine lv_aload_n hx hb dX11_position_36 rfl (lv_at hl 0 rfl) ?_
  refine j7_read hx hb hown hK (C := RX11) (T := TX11) (N := 19) rfl hly_13_4 hlk_35 (hh_39.at 3 rfl) dX11_position_37 ?_
  refine lv_iload_n hx hb dX11_position_40 rfl (lv_at hl 2 rfl) ?_
  refine lv_aload_n hx hb dX11_position_41 rfl (lv_at hl 1 rfl) ?_
  obtain ⟨v_40, hv_40, hh_41⟩ := hh_39.pin (C := RX1) (T := TX1) (N := 17) hB3 rfl (by decide) hg_33 (i := 15) (by decide) rfl
  clear hh_39
  obtain ⟨lineStart_42, rfl⟩ := hv_40
  refine j7_read hx hb hown hK (C := RX1) (T := TX1) (N := 17) rfl hly_3_15 hlk_540 (hh_41.at 0 rfl) dX11_position_42 ?_
  refine lv_isub hx hb dX11_position_45 ?_
  refine lv_topi (fun z_43 ez_43 => ?_)
  have hsz_44 := hh_41.2.2.2.2.2.1
  have htt_44 := hh_41.2.2.2.2.2.2.1
  refine W.room (fun hrc_44 hrs_44 => ?_)
  refine va_callv (A0 := jA base) (H0 := s.heap) (va_runV (As := [.int z_43]) (rest := []) ⟨hx, hb, hml, hown, hts⟩ (uX0_number l dC dI ca base B hB hAp hB2 hB196 G_29 H_29 bo z_43 qc_29 qa_29 m_qa_29 LC LS) (cwV 1 hts (jgV (jWr_26 _ (List.mem_of_getElem? (i := 16) rfl)) (jWr_24 _ (List.mem_of_getElem? (i := 16) rfl)) (jWr_24 _ (List.mem_of_getElem? (i := 17) rfl)) (jWr_1 _ (List.mem_of_getElem? (i := 14) rfl)) (jWr_24 _ (List.mem_of_getElem? (i := 18) rfl))) rfl rfl rfl (by decide +kernel) ⟨by rw [← hR]; exact Nat.le_of_ble_eq_true rfl, by rw [← hR]; exact Nat.le_of_ble_eq_true rfl⟩) ⟨fun a U g mk q => by obtain ⟨q0, q1, q2, qK, q10, q11, q12, q13⟩ := q; exact ⟨q0, q1, q2, jG.calling g mk a qK, q10, q11, q12, q13⟩, hh_41.recv (C := RX0) (T := TX0) (N := 2) hB2 rfl (by decide) hg_34 hK, fun U hU hW => ⟨rfl, hU, hh_41.2.1, hG.step hW hU hh_41.1, hg_34, hgq_29_0, (hh_41.2.2.1.sub (L1 := [(bo, 2, 1, .int qc_29), (bo, 2, 0, .ref qa_29)]) [1, 2] rfl), (by omega), (by omega), ⟨(by first | omega | rfl | assumption | fail), (by first | omega | rfl | assumption | fail), (by first | omega | rfl | assumption | fail), (by first | omega | rfl | assumption | fail), (by first | assumption | fail | omega)⟩⟩⟩ rfl rfl hl.1 rfl (lv_room (Nat.le_of_ble_eq_true rfl)) dX11_position_46 ⟨by rw [hRc]; omega, by rw [hRs]; omega⟩) hh_41.1 (fun q _ h => h) (fun q h => h) (fun u_44 t_44 H_44 locs_44 ht_44 hvm_44 hr_45 hb_44 hz_44 hk_44 hS_44 => ?_)
  obtain ⟨qc_44, qa_44, m_qa_44, G_44⟩ := u_44
  rw [ht_44] at hb_44
  simp only at hb_44
  obtain ⟨⟨hb_441, hb_442, hb_443, hb_444, hb_445, hb_446⟩, hgq_44_0, hN_44, hbO_44⟩ := hb_44
  have hy_46 := hh_41.iv 0 rfl
  have hh_44 : jSt (dC, dI) B base G0 G_44 EX11_position s.heap (((m_qa_29 - n_pa) / 16) + ((m_qa_44 - m_qa_29) / 16)) ((2 * (m_qa_29 - n_pa)) + (2 * (m_qa_44 - m_qa_29))) [(bo, 2, 1, .int qc_44), (bo, 2, 0, .ref qa_44), (r1, 3, 15, .int lineStart_42), (r1, 3, 14, .int line_17), (r0, 13, 4, .ref bo)] [] [] H_44 locs_44 := (hh_41.callG hb_441 hb_442 hb_443 hb_444 hb_445 hS_44 rfl (L1 := [(r1, 3, 15, .int lineStart_42), (r1, 3, 14, .int line_17), (r0, 13, 4, .ref bo)]) [0, 3, 4] rfl rfl (M1 := []) [] rfl rfl (I1 := []) [] rfl rfl).more hb_446
  have hNn_44 : (jNk [0, 1, 2, 3, 4, 5, 6, 7, 8, 9, 10, 11, 12, 13, 14, 15, 16]) G0 G_44 := (hNn_29).tr hN_44
  have hg_47 := hb_442 _ _ hg_32
  have hg_48 := hb_442 _ _ hg_33
  have hg_49 := hb_442 _ _ hg_34
  have hd_50 := jOl.trO (hh_41.iv 1 rfl) hh_41.2.2.2.2.1 hbO_44 (by simp)
  have hh_51 := hh_44.addI (jOl.ie (dC := dC) (dI := dI) (G0 := G0) (k := 2) (rs := [bo]) (H0 := s.heap) (F := [(2, 0), (2, 1)]) (C := RX0) (T := TX0) (N := 2) rfl (by decide) hh_44.2.2.2.2.1 (hd_50))
  clear hh_44
  have hyp_44 : qc_44.toInt ≤ (m_qa_44 : Nat) ∧ m_qa_44 ≤ 1048576 := by (try simp only at hr_45); omega
  have hy_52 := jYb.own hy_46 hbO_44 hb_442 hN_44 (by decide) (fun _ => ⟨_, _, _, hh_51.at 0 rfl, hh_51.at 1 rfl, hgq_44_0, hyp_44⟩)
  have hh_53 := hh_51.addI (jYb.ie hy_52)
  clear hh_51
  try simp only at hr_45
  obtain ⟨hr_45_0, hr_45_1, hr_45_2, hr_45_3, hr_45_4⟩ := hr_45
  have hh_54 := hh_53.wk (zc1 := (m_qa_44 - n_pa) / 16) (zs1 := 2 * (m_qa_44 - n_pa)) (by omega) (by omega)
  clear hh_53
  try clear hsz_44 htt_44 hrc_44 hrs_44
  try clear hb_444 hb_445
  refine lv_aload_n hx hb dX11_position_49 rfl (lv_at hl 0 rfl) ?_
  refine j7_read hx hb hown hK (C := RX11) (T := TX11) (N := 19) rfl hly_13_4 hlk_35 (hh_54.at 4 rfl) dX11_position_50 ?_
  refine lv_bipush (v := 125) hx hb dX11_position_53 (by decide) ?_
  have hsz_55 := hh_54.2.2.2.2.2.1
  have htt_55 := hh_54.2.2.2.2.2.2.1
  refine W.room (fun hrc_55 hrs_55 => ?_)
  refine va_callv (A0 := jA base) (H0 := s.heap) (va_runV (As := [.int 125]) (rest := []) ⟨hx, hb, hml, hown, hts⟩ (uX0_put l dC dI ca base B hB hAp hB2 hB196 G_44 H_44 bo 125 qc_44 qa_44 m_qa_44 LC LS) (cwV 1 hts (jgV (jWr_15 _ (List.mem_of_getElem? (i := 23) rfl)) (jWr_16 _ (List.mem_of_getElem? (i := 0) rfl)) (jWr_16 _ (List.mem_of_getElem? (i := 1) rfl)) (jWr_1 _ (List.mem_of_getElem? (i := 14) rfl)) (jWr_16 _ (List.mem_of_getElem? (i := 2) rfl))) rfl rfl rfl (by decide +kernel) ⟨by rw [← hR]; exact Nat.le_of_ble_eq_true rfl, by rw [← hR]; exact Nat.le_of_ble_eq_true rfl⟩) ⟨fun a U g mk q => by obtain ⟨q0, q1, q2, qK, q10, q11, q12, q13⟩ := q; exact ⟨q0, q1, q2, jG.calling g mk a qK, q10, q11, q12, q13⟩, hh_54.recv (C := RX0) (T := TX0) (N := 2) hB2 rfl (by decide) hg_49 hK, fun U hU hW => ⟨rfl, hU, hh_54.2.1, hG.step hW hU hh_54.1, hg_49, hgq_44_0, (hh_54.2.2.1.sub (L1 := [(bo, 2, 1, .int qc_44), (bo, 2, 0, .ref qa_44)]) [0, 1] rfl), (by omega), (by omega), ⟨(by first | omega | rfl | assumption | fail), (by first | omega | rfl | assumption | fail), (by first | omega | rfl | assumption | fail), (by first | omega | rfl | assumption | fail), (by first | assumption | fail | omega)⟩⟩⟩ rfl rfl hl.1 rfl (lv_room (Nat.le_of_ble_eq_true rfl)) dX11_position_55 ⟨by rw [hRc]; omega, by rw [hRs]; omega⟩) hh_54.1 (fun q _ h => h) (fun q h => h) (fun u_55 t_55 H_55 locs_55 ht_55 hvm_55 hr_56 hb_55 hz_55 hk_55 hS_55 => ?_)
  obtain ⟨qc_55, qa_55, m_qa_55, G_55⟩ := u_55
  rw [ht_55] at hb_55
  simp only at hb_55
  obtain ⟨⟨hb_551, hb_552, hb_553, hb_554, hb_555, hb_556⟩, hgq_55_0, hN_55, hbO_55⟩ := hb_55
  have hy_57 := hh_54.iv 0 rfl
  have hh_55 : jSt (dC, dI) B base G0 G_55 EX11_position s.heap (((m_qa_44 - n_pa) / 16) + ((m_qa_55 - m_qa_44) / 16)) ((2 * (m_qa_44 - n_pa)) + (2 * (m_qa_55 - m_qa_44))) [(bo, 2, 1, .int qc_55), (bo, 2, 0, .ref qa_55), (r1, 3, 15, .int lineStart_42), (r1, 3, 14, .int line_17), (r0, 13, 4, .ref bo)] [] [] H_55 locs_55 := (hh_54.callG hb_551 hb_552 hb_553 hb_554 hb_555 hS_55 rfl (L1 := [(r1, 3, 15, .int lineStart_42), (r1, 3, 14, .int line_17), (r0, 13, 4, .ref bo)]) [2, 3, 4] rfl rfl (M1 := []) [] rfl rfl (I1 := []) [] rfl rfl).more hb_556
  have hNn_55 : (jNk [0, 1, 2, 3, 4, 5, 6, 7, 8, 9, 10, 11, 12, 13, 14, 15, 16]) G0 G_55 := (hNn_44).tr hN_55
  have hg_58 := hb_552 _ _ hg_47
  have hg_59 := hb_552 _ _ hg_48
  have hg_60 := hb_552 _ _ hg_49
  have hd_61 := jOl.trO (hh_54.iv 1 rfl) hh_54.2.2.2.2.1 hbO_55 (by simp)
  have hh_62 := hh_55.addI (jOl.ie (dC := dC) (dI := dI) (G0 := G0) (k := 2) (rs := [bo]) (H0 := s.heap) (F := [(2, 0), (2, 1)]) (C := RX0) (T := TX0) (N := 2) rfl (by decide) hh_55.2.2.2.2.1 (hd_61))
  clear hh_55
  have hyp_55 : qc_55.toInt ≤ (m_qa_55 : Nat) ∧ m_qa_55 ≤ 1048576 := by (try simp only at hr_56); omega
  have hy_63 := jYb.own hy_57 hbO_55 hb_552 hN_55 (by decide) (fun _ => ⟨_, _, _, hh_62.at 0 rfl, hh_62.at 1 rfl, hgq_55_0, hyp_55⟩)
  have hh_64 := hh_62.addI (jYb.ie hy_63)
  clear hh_62
  try simp only at hr_56
  obtain ⟨hr_56_0, hr_56_1, hr_56_2, hr_56_3, hr_56_4⟩ := hr_56
  have hh_65 := hh_64.wk (zc1 := (m_qa_55 - n_pa) / 16) (zs1 := 2 * (m_qa_55 - n_pa)) (by omega) (by omega)
  clear hh_64
  try clear hsz_55 htt_55 hrc_55 hrs_55
  try clear hb_554 hb_555
  have hsz_66 := hh_65.2.2.2.2.2.1
  have htt_66 := hh_65.2.2.2.2.2.2.1
  refine W.room (fun hrc_66 hrs_66 => ?_)
  refine W.widen (k := LC - s.heap.size) (n := LS - jTot s.heap) (by omega) (by omega) ?_
  rw [hQ]
  exact W.vret hx hb hr (fun t ht hW => ⟨⟨(qc_55, qa_55, m_qa_55, G_55), rfl, by (try dsimp only); exact ⟨(by first | omega | rfl | assumption | fail), (by first | omega | rfl | assumption | fail), (by first | omega | rfl | assumption | fail), (by first | omega | rfl | assumption | fail), (by first | assumption | fail | omega)⟩, ⟨hh_65.ra (by first | omega | (simp only; omega)) (by first | omega | (simp only; omega)) (M1 := [(bo, 2, 1, .int qc_55), (bo, 2, 0, .ref qa_55)]) [0, 1] rfl ht, hgq_55_0, hNn_55, by rw [ht]; exact hh_65.iv 1 rfl, by rw [ht]; exact hh_65.2.2.2.2.2.2.2.2.sub (L1 := [(jFy, jYb dC dI G_55)]) [0] rfl⟩⟩, by rw [ht]; try exact hh_65.1.1, fun q h9 hq => by rw [ht]; try exact hh_65.1.2.1 q h9 hq⟩) hh_65.1.2.2 dX11_position_58
set_option maxHeartbeats 4000000 in
set_option maxRecDepth 20000 in
theorem uX11_diagnostic (l : Launch) (dC : Nat → ClassId) (dI : Nat → Nat → Nat) (ca : Nat → ClassId) (base : Nat) (B : jF) (hB : jBok B) (hAp : jAp (dC, dI)) (hB2 : ∀ n G a H, B 2 n G a H ↔ jOb (dC, dI) 2 2 (F2 n G) a H) (hB3 : ∀ n G a H, B 3 n G a H ↔ jOb (dC, dI) 3 17 (F3 n G) a H) (hB11 : ∀ n G a H, B 11 n G a H ↔ jOb (dC, dI) 11 9 (F11 n G) a H) (hB13 : ∀ n G a H, B 13 n G a H ↔ jOb (dC, dI) 13 19 (F13 n G) a H) (hB171 : ∀ n G a H, B 171 n G a H ↔ jAr (dC, dI) (ca 1) (fun j z => 0 ≤ z.toInt ∧ z.toInt ≤ 1500) n a H) (hB172 : ∀ n G a H, B 172 n G a H ↔ jAr (dC, dI) (ca 1) (fun j z => 0 ≤ z.toInt ∧ z.toInt ≤ 1500) n a H) (hB173 : ∀ n G a H, B 173 n G a H ↔ jAr (dC, dI) (ca 1) (fun j z => True) n a H) (hB196 : ∀ n G a H, B 196 n G a H ↔ jAr (dC, dI) (ca 0) (fun j z => jBf j z) n a H) (hB210 : ∀ n G a H, B 210 n G a H ↔ jAq (dC, dI) (ca 6) (jQn 11 0) n G a H) (G0 : jT) (H0 : Heap) (r0 : Nat) (r1 : Nat) (a2 : Int32) (bo : Nat) (pc : Int32) (pa : Nat) (n_pa : Nat) (bh : Nat) (fq : Nat → Option Nat) (LC LS : Nat) : Met l yX11_diagnostic (jw yX11_diagnostic cX11_diagnostic 3 none) ({ frames := 6, cells := LC - H0.size, slots := LS - jTot H0, locals := 185 }) (va_Pc [.ref r0, .ref r1, .int a2] (fun U => U.heap = H0 ∧ jX B base G0 [] H0 ∧ jG dC dI ca base U ∧ jK2 dC dI ca U ∧ G0 r1 = some (3, 0) ∧ G0 r0 = some (13, 0) ∧ G0 bo = some (2, 0) ∧ G0 pa = some (196, n_pa) ∧ G0 bh = some (210, 40) ∧ jP (dC, dI) G0 H0 [(r0, 13, 4, .ref bo), (bo, 2, 1, .int pc), (bo, 2, 0, .ref pa), (r1, 3, 9, .ref bh)] ∧ jIs (dC, dI) G0 H0 [(jFy, jYb dC dI G0), ([(210, 0)], jQc dC dI (ca 6) bh 40 fq)] ∧ H0.size + (1048576 - n_pa) / 16 + 1 ≤ LC ∧ jTot H0 + 2 * (1048576 - n_pa) ≤ LS ∧ 0 ≤ pc.toInt ∧ pc.toInt ≤ n_pa ∧ 16 ≤ n_pa ∧ n_pa ≤ 1048576 ∧ jPw n_pa ∧ 0 ≤ a2.toInt ∧ a2.toInt ≤ 39 ∧ fq (a2.toInt).toNat ≠ none)) (va_Qv (S := Int32 × Nat × Nat × jT) (fun u => 0 ≤ u.1.toInt ∧ u.1.toInt ≤ u.2.2.1 ∧ n_pa ≤ u.2.2.1 ∧ u.2.2.1 ≤ 1048576 ∧ jPw u.2.2.1) (fun u t => jRa (dC, dI) B base G0 u.2.2.2 EX11_diagnostic H0 ((u.2.2.1 - n_pa) / 16) (2 * (u.2.2.1 - n_pa)) [(bo, 2, 1, .int u.1), (bo, 2, 0, .ref u.2.1)] t.heap ∧ u.2.2.2 u.2.1 = some (196, u.2.2.1) ∧ (jNk [0, 1, 2, 3, 4, 5, 6, 7, 8, 9, 10, 11, 12, 13, 14, 15, 16]) G0 u.2.2.2 ∧ jOl (dC, dI) G0 2 [bo] H0 t.heap ∧ jIs (dC, dI) u.2.2.2 t.heap [(jFy, jYb dC dI u.2.2.2)]) (jA base)) (LC - H0.size) (LS - jTot H0) (jA base) := by
  refine Met.ofW (cc := cX11_diagnostic) (maxL := 3) (ret := none) (by decide) rfl ?_
  intro p e s m args below meth c s₁ Bd hml hv
  obtain ⟨rfl, hH0, hX, hG, hK2, hg_r1, hg_r0, hg_bo, hg_pa, hg_bh, hP0, hI0, hLC0, hLS0, hp0, hp1, hp2, hp3, hp4, hp5, hp6, hp7⟩ := hv
  have hK := hG.1
  have hx := Bd.exec
  have hb := Bd.bytes
  have hr := Bd.returns
  have hts := atoms_spec (ws := (jw yX11_diagnostic cX11_diagnostic 3 none)) Bd.pre
  have htw : ∀ w ∈ jWl, w.before _ s = true := fun w h => hts w (List.mem_cons_of_mem _ h)
  have hown : s.vm.findClass RX11 = some m.cls := findClass_of_methodNamed Bd.named
  have hlocks := Bd.notSynchronized
  obtain ⟨Q, hQ⟩ : ∃ Q, Q = MQ below (va_Qv (S := Int32 × Nat × Nat × jT) (fun u => 0 ≤ u.1.toInt ∧ u.1.toInt ≤ u.2.2.1 ∧ n_pa ≤ u.2.2.1 ∧ u.2.2.1 ≤ 1048576 ∧ jPw u.2.2.1) (fun u t => jRa (dC, dI) B base G0 u.2.2.2 EX11_diagnostic H0 ((u.2.2.1 - n_pa) / 16) (2 * (u.2.2.1 - n_pa)) [(bo, 2, 1, .int u.1), (bo, 2, 0, .ref u.2.1)] t.heap ∧ u.2.2.2 u.2.1 = some (196, u.2.2.1) ∧ (jNk [0, 1, 2, 3, 4, 5, 6, 7, 8, 9, 10, 11, 12, 13, 14, 15, 16]) G0 u.2.2.2 ∧ jOl (dC, dI) G0 2 [bo] H0 t.heap ∧ jIs (dC, dI) u.2.2.2 t.heap [(jFy, jYb dC dI u.2.2.2)]) (jA base)) ([.ref r0, .ref r1, .int a2] : List Value).toArray s (LC - H0.size) (LS - jTot H0) (jA base) := ⟨_, rfl⟩
  rw [← hQ]
  have hl := lv_entry ([.ref r0, .ref r1, .int a2]) (n := 3) (Nat.le_of_ble_eq_true rfl)
  rw [lg_entry_eq]
  generalize (lg_sl ([.ref r0, .ref r1, .int a2]) ++ List.replicate (3 - (lg_sl ([.ref r0, .ref r1, .int a2])).length) Slot.unset).toArray = ls at hl ⊢
  have hl : lv_has ls 3 [(0, .ref r0), (1, .ref r1), (2, .int a2)] := hl
  generalize hR : (headSpec (jw yX11_diagnostic cX11_diagnostic 3 none) ({ frames := 6, cells := LC - H0.size, slots := LS - jTot H0, locals := 185 })).room = R
  subst hH0
  have hh : jSt (dC, dI) B base G0 G0 EX11_diagnostic s.heap 0 0 [(r0, 13, 4, .ref bo), (bo, 2, 1, .int pc), (bo, 2, 0, .ref pa), (r1, 3, 9, .ref bh)] [] [(jFy, jYb dC dI G0), ([(210, 0)], jQc dC dI (ca 6) bh 40 fq)] s.heap [] := jSt.start hX hP0 jMc.nil hI0
  clear hX hP0
  have hk0 : (0 : Int32).toInt = 0 := by decide
  have hk1 : (1 : Int32).toInt = 1 := by decide
  have hly_3_5 := htw (u_lay RX1 TX1 5) (jWc_wsX10 _ (u_in_lay (by decide)))
  have hly_3_6 := htw (u_lay RX1 TX1 6) (jWc_wsX10 _ (u_in_lay (by decide)))
  have hly_3_9 := htw (u_lay RX1 TX1 9) (jWc_wsX10 _ (u_in_lay (by decide)))
  have hly_11_2 := htw (u_lay RX9 TX9 2) (jWc_wsX90 _ (u_in_lay (by decide)))
  have hly_13_4 := htw (u_lay RX11 TX11 4) (jWc_wsX110 _ (u_in_lay (by decide)))
  have hlk_35 := (htw (.fieldLink RX11 35 "ProofServer" "body" "LProofServer$Bytes;") (jWr_2 _ (List.mem_of_getElem? (i := 1) rfl)))
  obtain ⟨str518, rstr518, hstr5180⟩ := hG.str (o := RX11) (k := 518) (tx := "{\"range\":{\"start\":") (List.mem_of_getElem? (i := 1224) (by decide +kernel))
  have hstr518 : jStr base str518 18 s s.heap := hstr5180
  have hlk_182 := (htw (.fieldLink RX11 182 "ProofServer$Document" "starts" "[I") (jWr_40 _ (List.mem_of_getElem? (i := 13) rfl)))
  obtain ⟨str522, rstr522, hstr5220⟩ := hG.str (o := RX11) (k := 522) (tx := ",\"end\":") (List.mem_of_getElem? (i := 1235) (by decide +kernel))
  have hstr522 : jStr base str522 7 s s.heap := hstr5220
  have hlk_185 := (htw (.fieldLink RX11 185 "ProofServer$Document" "ends" "[I") (jWr_40 _ (List.mem_of_getElem? (i := 14) rfl)))
  obtain ⟨str524, rstr524, hstr5240⟩ := hG.str (o := RX11) (k := 524) (tx := "},\"severity\":1,\"message\":\"") (List.mem_of_getElem? (i := 1236) (by decide +kernel))
  have hstr524 : jStr base str524 26 s s.heap := hstr5240
  have hlk_178 := (htw (.fieldLink RX11 178 "ProofServer$Document" "behind" "[LProofServer$State;") (jWr_39 _ (List.mem_of_getElem? (i := 23) rfl)))
  have hlk_188 := (htw (.fieldLink RX11 188 "ProofServer$State" "fault" "I") (jWr_40 _ (List.mem_of_getElem? (i := 0) rfl)))
  obtain ⟨str529, rstr529, hstr5290⟩ := hG.str (o := RX11) (k := 529) (tx := "\"}") (List.mem_of_getElem? (i := 1249) (by decide +kernel))
  have hstr529 : jStr base str529 2 s s.heap := hstr5290
  have hrg_a2 := jb_rng a2
  have hbs : base ≤ s.heap.size := Nat.le_of_lt (Nat.lt_of_le_of_lt (hh.ab hg_r0).1 (hh.ab hg_r0).2)
  have hbs : base ≤ s.heap.size := Nat.le_of_lt (Nat.lt_of_le_of_lt (hh.ab hg_r0).1 (hh.ab hg_r0).2)
  have hRc : R.cells = LC - s.heap.size := by rw [← hR]; rfl
  have hRs : R.slots = LS - jTot s.heap := by rw [← hR]; rfl
  have hh_1 := hh.addI (jOl.ie (dC := dC) (dI := dI) (G0 := G0) (k := 2) (rs := [bo]) (H0 := s.heap) (F := [(2, 0), (2, 1)]) (C := RX0) (T := TX0) (N := 2) rfl (by decide) hh.2.2.2.2.1 (jOl.rf))
  clear hh
  refine lv_aload_n hx hb dX11_diagnostic_0 rfl (lv_at hl 0 rfl) ?_
  refine j7_read hx hb hown hK (C := RX11) (T := TX11) (N := 19) rfl hly_13_4 hlk_35 (hh_1.at 0 rfl) dX11_diagnostic_1 ?_
  refine j_ldcSw hx hb hown rstr518 dX11_diagnostic_4 ?_
  have hsz_2 := hh_1.2.2.2.2.2.1
  have htt_2 := hh_1.2.2.2.2.2.2.1
  refine W.room (fun hrc_2 hrs_2 => ?_)
  refine va_callv (A0 := jA base) (H0 := s.heap) (va_runV (As := [.ref str518]) (rest := []) ⟨hx, hb, hml, hown, hts⟩ (uX0_text l dC dI ca base B hB hAp hB2 hB196 G0 s.heap bo str518 18 pc pa n_pa LC LS) (cwV 1 hts (jgV (jWr_26 _ (List.mem_of_getElem? (i := 11) rfl)) (jWr_25 _ (List.mem_of_getElem? (i := 22) rfl)) (jWr_25 _ (List.mem_of_getElem? (i := 23) rfl)) (jWr_1 _ (List.mem_of_getElem? (i := 14) rfl)) (jWr_26 _ (List.mem_of_getElem? (i := 0) rfl))) rfl rfl rfl (by decide +kernel) ⟨by rw [← hR]; exact Nat.le_of_ble_eq_true rfl, by rw [← hR]; exact Nat.le_of_ble_eq_true rfl⟩) ⟨fun a U g mk q => by obtain ⟨q0, q1, q2, qK, q10, q11, q12, q13, q14⟩ := q; exact ⟨q0, q1, q2, jG.calling g mk a qK, (q10.moved (Vm.Alike.refl U.vm)), q11, q12, q13, q14⟩, hh_1.recv (C := RX0) (T := TX0) (N := 2) hB2 rfl (by decide) hg_bo hK, fun U hU hW => ⟨rfl, hU, hh_1.2.1, hG.step hW hU hh_1.1, (hstr518.moved hW.alike).kept hh_1.1.2.1, hg_bo, hg_pa, (hh_1.2.2.1.sub (L1 := [(bo, 2, 1, .int pc), (bo, 2, 0, .ref pa)]) [1, 2] rfl), (by omega), (by omega), ⟨(by first | omega | rfl | assumption | fail), (by first | omega | rfl | assumption | fail), (by first | omega | rfl | assumption | fail), (by first | omega | rfl | assumption | fail), (by first | assumption | fail | omega), (by first | omega | rfl | assumption | fail)⟩⟩⟩ rfl rfl hl.1 rfl (lv_room (Nat.le_of_ble_eq_true rfl)) dX11_diagnostic_7 ⟨by rw [hRc]; omega, by rw [hRs]; omega⟩) hh_1.1 (fun q _ h => h) (fun q h => h) (fun u_2 t_2 H_2 locs_2 ht_2 hvm_2 hr_3 hb_2 hz_2 hk_2 hS_2 => ?_)
  obtain ⟨qc_2, qa_2, m_qa_2, G_2⟩ := u_2
  rw [ht_2] at hb_2
  simp only at hb_2
  obtain ⟨⟨hb_21, hb_22, hb_23, hb_24, hb_25, hb_26⟩, hgq_2_0, hN_2, hbO_2⟩ := hb_2
  have hy_4 := hh_1.iv 1 rfl
  have hh_2 : jSt (dC, dI) B base G0 G_2 EX11_diagnostic s.heap (0 + ((m_qa_2 - n_pa) / 16)) (0 + (2 * (m_qa_2 - n_pa))) [(bo, 2, 1, .int qc_2), (bo, 2, 0, .ref qa_2), (r0, 13, 4, .ref bo), (r1, 3, 9, .ref bh)] [] [([(210, 0)], jQc dC dI (ca 6) bh 40 fq)] H_2 locs_2 := (hh_1.callG hb_21 hb_22 hb_23 hb_24 hb_25 hS_2 rfl (L1 := [(r0, 13, 4, .ref bo), (r1, 3, 9, .ref bh)]) [0, 3] rfl rfl (M1 := []) [] rfl rfl (I1 := [([(210, 0)], jQc dC dI (ca 6) bh 40 fq)]) [2] rfl rfl).more hb_26
  have hNn_2 : (jNk [0, 1, 2, 3, 4, 5, 6, 7, 8, 9, 10, 11, 12, 13, 14, 15, 16]) G0 G_2 := (jNk.rf).tr hN_2
  have hg_5 := hb_22 _ _ hg_r0
  have hg_6 := hb_22 _ _ hg_r1
  have hg_7 := hb_22 _ _ hg_bo
  have hg_8 := hb_22 _ _ hg_bh
  have hd_10 := jOl.trO (hh_1.iv 0 rfl) hh_1.2.2.2.2.1 hbO_2 (by simp)
  have hh_11 := hh_2.addI (jOl.ie (dC := dC) (dI := dI) (G0 := G0) (k := 2) (rs := [bo]) (H0 := s.heap) (F := [(2, 0), (2, 1)]) (C := RX0) (T := TX0) (N := 2) rfl (by decide) hh_2.2.2.2.2.1 (hd_10))
  clear hh_2
  have hyp_2 : qc_2.toInt ≤ (m_qa_2 : Nat) ∧ m_qa_2 ≤ 1048576 := by (try simp only at hr_3); omega
  have hy_12 := jYb.own hy_4 hbO_2 hb_22 hN_2 (by decide) (fun _ => ⟨_, _, _, hh_11.at 0 rfl, hh_11.at 1 rfl, hgq_2_0, hyp_2⟩)
  have hh_13 := hh_11.addI (jYb.ie hy_12)
  clear hh_11
  try simp only at hr_3
  obtain ⟨hr_3_0, hr_3_1, hr_3_2, hr_3_3, hr_3_4⟩ := hr_3
  have hh_14 := hh_13.wk (zc1 := (m_qa_2 - n_pa) / 16) (zs1 := 2 * (m_qa_2 - n_pa)) (by omega) (by omega)
  clear hh_13
  try clear hsz_2 htt_2 hrc_2 hrs_2
  try clear hb_24 hb_25
  refine lv_aload_n hx hb dX11_diagnostic_10 rfl (lv_at hl 0 rfl) ?_
  refine lv_aload_n hx hb dX11_diagnostic_11 rfl (lv_at hl 1 rfl) ?_
  refine lv_aload_n hx hb dX11_diagnostic_12 rfl (lv_at hl 1 rfl) ?_
  obtain ⟨v_15, hv_15, hh_16⟩ := hh_14.pin (C := RX1) (T := TX1) (N := 17) hB3 rfl (by decide) hg_6 (i := 5) (by decide) rfl
  clear hh_14
  obtain ⟨starts_17, rfl, hg_starts_17⟩ := hv_15
  refine j7_read hx hb hown hK (C := RX1) (T := TX1) (N := 17) rfl hly_3_5 hlk_182 (hh_16.at 0 rfl) dX11_diagnostic_13 ?_
  refine lv_iload_n hx hb dX11_diagnostic_16 rfl (lv_at hl 2 rfl) ?_
  refine j7_iald hx hb hK hh_16 hB171 1 rfl (by decide) hg_starts_17 (x := a2.toInt) (rfl) (by omega) dX11_diagnostic_17 (fun z_18 (hz_18 : 0 ≤ z_18.toInt ∧ z_18.toInt ≤ 1500) => ?_)
  have hsz_19 := hh_16.2.2.2.2.2.1
  have htt_19 := hh_16.2.2.2.2.2.2.1
  refine W.room (fun hrc_19 hrs_19 => ?_)
  refine va_callv (A0 := jA base) (H0 := s.heap) (va_runV (As := [.ref r1, .int z_18]) (rest := []) ⟨hx, hb, hml, hown, hts⟩ (uX11_position l dC dI ca base B hB hAp hB2 hB3 hB13 hB173 hB196 G_2 H_2 r0 r1 z_18 bo qc_2 qa_2 m_qa_2 LC LS) (cwV 2 hts (jgV (jWr_40 _ (List.mem_of_getElem? (i := 15) rfl)) (jWr_40 _ (List.mem_of_getElem? (i := 16) rfl)) (jWr_40 _ (List.mem_of_getElem? (i := 17) rfl)) (jWr_1 _ (List.mem_of_getElem? (i := 2) rfl)) (jWr_40 _ (List.mem_of_getElem? (i := 18) rfl))) rfl rfl rfl (by decide +kernel) ⟨by rw [← hR]; exact Nat.le_of_ble_eq_true rfl, by rw [← hR]; exact Nat.le_of_ble_eq_true rfl⟩) ⟨fun a U g mk q => by obtain ⟨q0, q1, q2, qK, q10, q11, q12, q13, q14, q15, q16⟩ := q; exact ⟨q0, q1, q2, jG.calling g mk a qK, q10, q11, q12, q13, q14, q15, q16⟩, hh_16.recv (C := RX11) (T := TX11) (N := 19) hB13 rfl (by decide) hg_5 hK, fun U hU hW => ⟨rfl, hU, hh_16.2.1, hG.step hW hU hh_16.1, hg_6, hg_5, hg_7, hgq_2_0, (hh_16.2.2.1.sub (L1 := [(r0, 13, 4, .ref bo), (bo, 2, 1, .int qc_2), (bo, 2, 0, .ref qa_2)]) [3, 1, 2] rfl), (hh_16.2.2.2.2.2.2.2.2.sub (L1 := [(jFy, jYb dC dI G_2)]) [0] rfl), (by omega), (by omega), ⟨(by first | omega | rfl | assumption | fail), (by first | omega | rfl | assumption | fail), (by first | omega | rfl | assumption | fail), (by first | omega | rfl | assumption | fail), (by first | assumption | fail | omega)⟩⟩⟩ rfl rfl hl.1 rfl (lv_room (Nat.le_of_ble_eq_true rfl)) dX11_diagnostic_18 ⟨by rw [hRc]; omega, by rw [hRs]; omega⟩) hh_16.1 (fun q _ h => h) (fun q h => h) (fun u_19 t_19 H_19 locs_19 ht_19 hvm_19 hr_20 hb_19 hz_19 hk_19 hS_19 => ?_)
  obtain ⟨qc_19, qa_19, m_qa_19, G_19⟩ := u_19
  rw [ht_19] at hb_19
  simp only at hb_19
  obtain ⟨⟨hb_191, hb_192, hb_193, hb_194, hb_195, hb_196⟩, hgq_19_0, hN_19, hbO_19, hbE_19⟩ := hb_19
  have hh_19 : jSt (dC, dI) B base G0 G_19 EX11_diagnostic s.heap (((m_qa_2 - n_pa) / 16) + ((m_qa_19 - m_qa_2) / 16)) ((2 * (m_qa_2 - n_pa)) + (2 * (m_qa_19 - m_qa_2))) [(bo, 2, 1, .int qc_19), (bo, 2, 0, .ref qa_19), (r1, 3, 5, .ref starts_17), (r0, 13, 4, .ref bo), (r1, 3, 9, .ref bh)] [] [([(210, 0)], jQc dC dI (ca 6) bh 40 fq)] H_19 locs_19 := (hh_16.callG hb_191 hb_192 hb_193 hb_194 hb_195 hS_19 rfl (L1 := [(r1, 3, 5, .ref starts_17), (r0, 13, 4, .ref bo), (r1, 3, 9, .ref bh)]) [0, 3, 4] rfl rfl (M1 := []) [] rfl rfl (I1 := [([(210, 0)], jQc dC dI (ca 6) bh 40 fq)]) [2] rfl rfl).more hb_196
  have hNn_19 : (jNk [0, 1, 2, 3, 4, 5, 6, 7, 8, 9, 10, 11, 12, 13, 14, 15, 16]) G0 G_19 := (hNn_2).tr hN_19
  have hg_21 := hb_192 _ _ hg_5
  have hg_22 := hb_192 _ _ hg_6
  have hg_23 := hb_192 _ _ hg_starts_17
  have hg_24 := hb_192 _ _ hg_7
  have hg_25 := hb_192 _ _ hg_8
  have hh_27 := hh_19.addIs hbE_19
  have hd_28 := jOl.trL (hh_16.iv 1 rfl) hh_16.2.2.2.2.1 hbO_19 (by simp)
  have hh_29 := hh_27.addI (jOl.ie (dC := dC) (dI := dI) (G0 := G0) (k := 2) (rs := [bo]) (H0 := s.heap) (F := [(2, 0), (2, 1)]) (C := RX0) (T := TX0) (N := 2) rfl (by decide) hh_27.2.2.2.2.1 (hd_28))
  clear hh_27
  try simp only at hr_20
  obtain ⟨hr_20_0, hr_20_1, hr_20_2, hr_20_3, hr_20_4⟩ := hr_20
  have hh_30 := hh_29.wk (zc1 := (m_qa_19 - n_pa) / 16) (zs1 := 2 * (m_qa_19 - n_pa)) (by omega) (by omega)
  clear hh_29
  try clear hsz_19 htt_19 hrc_19 hrs_19
  try clear hb_194 hb_195
  refine lv_aload_n hx hb dX11_diagnostic_21 rfl (lv_at hl 0 rfl) ?_
  refine j7_read hx hb hown hK (C := RX11) (T := TX11) (N := 19) rfl hly_13_4 hlk_35 (hh_30.at 3 rfl) dX11_diagnostic_22 ?_
  refine j_ldcSw hx hb hown rstr522 dX11_diagnostic_25 ?_
  have hsz_31 := hh_30.2.2.2.2.2.1
  have htt_31 := hh_30.2.2.2.2.2.2.1
  refine W.room (fun hrc_31 hrs_31 => ?_)
  refine va_callv (A0 := jA base) (H0 := s.heap) (va_runV (As := [.ref str522]) (rest := []) ⟨hx, hb, hml, hown, hts⟩ (uX0_text l dC dI ca base B hB hAp hB2 hB196 G_19 H_19 bo str522 7 qc_19 qa_19 m_qa_19 LC LS) (cwV 1 hts (jgV (jWr_26 _ (List.mem_of_getElem? (i := 11) rfl)) (jWr_25 _ (List.mem_of_getElem? (i := 22) rfl)) (jWr_25 _ (List.mem_of_getElem? (i := 23) rfl)) (jWr_1 _ (List.mem_of_getElem? (i := 14) rfl)) (jWr_26 _ (List.mem_of_getElem? (i := 0) rfl))) rfl rfl rfl (by decide +kernel) ⟨by rw [← hR]; exact Nat.le_of_ble_eq_true rfl, by rw [← hR]; exact Nat.le_of_ble_eq_true rfl⟩) ⟨fun a U g mk q => by obtain ⟨q0, q1, q2, qK, q10, q11, q12, q13, q14⟩ := q; exact ⟨q0, q1, q2, jG.calling g mk a qK, (q10.moved (Vm.Alike.refl U.vm)), q11, q12, q13, q14⟩, hh_30.recv (C := RX0) (T := TX0) (N := 2) hB2 rfl (by decide) hg_24 hK, fun U hU hW => ⟨rfl, hU, hh_30.2.1, hG.step hW hU hh_30.1, (hstr522.moved hW.alike).kept hh_30.1.2.1, hg_24, hgq_19_0, (hh_30.2.2.1.sub (L1 := [(bo, 2, 1, .int qc_19), (bo, 2, 0, .ref qa_19)]) [0, 1] rfl), (by omega), (by omega), ⟨(by first | omega | rfl | assumption | fail), (by first | omega | rfl | assumption | fail), (by first | omega | rfl | assumption | fail), (by first | omega | rfl | assumption | fail), (by first | assumption | fail | omega), (by first | omega | rfl | assumption | fail)⟩⟩⟩ rfl rfl hl.1 rfl (lv_room (Nat.le_of_ble_eq_true rfl)) dX11_diagnostic_28 ⟨by rw [hRc]; omega, by rw [hRs]; omega⟩) hh_30.1 (fun q _ h => h) (fun q h => h) (fun u_31 t_31 H_31 locs_31 ht_31 hvm_31 hr_32 hb_31 hz_31 hk_31 hS_31 => ?_)
  obtain ⟨qc_31, qa_31, m_qa_31, G_31⟩ := u_31
  rw [ht_31] at hb_31
  simp only at hb_31
  obtain ⟨⟨hb_311, hb_312, hb_313, hb_314, hb_315, hb_316⟩, hgq_31_0, hN_31, hbO_31⟩ := hb_31
  have hy_33 := hh_30.iv 1 rfl
  have hh_31 : jSt (dC, dI) B base G0 G_31 EX11_diagnostic s.heap (((m_qa_19 - n_pa) / 16) + ((m_qa_31 - m_qa_19) / 16)) ((2 * (m_qa_19 - n_pa)) + (2 * (m_qa_31 - m_qa_19))) [(bo, 2, 1, .int qc_31), (bo, 2, 0, .ref qa_31), (r1, 3, 5, .ref starts_17), (r0, 13, 4, .ref bo), (r1, 3, 9, .ref bh)] [] [([(210, 0)], jQc dC dI (ca 6) bh 40 fq)] H_31 locs_31 := (hh_30.callG hb_311 hb_312 hb_313 hb_314 hb_315 hS_31 rfl (L1 := [(r1, 3, 5, .ref starts_17), (r0, 13, 4, .ref bo), (r1, 3, 9, .ref bh)]) [2, 3, 4] rfl rfl (M1 := []) [] rfl rfl (I1 := [([(210, 0)], jQc dC dI (ca 6) bh 40 fq)]) [2] rfl rfl).more hb_316
  have hNn_31 : (jNk [0, 1, 2, 3, 4, 5, 6, 7, 8, 9, 10, 11, 12, 13, 14, 15, 16]) G0 G_31 := (hNn_19).tr hN_31
  have hg_34 := hb_312 _ _ hg_21
  have hg_35 := hb_312 _ _ hg_22
  have hg_36 := hb_312 _ _ hg_23
  have hg_37 := hb_312 _ _ hg_24
  have hg_38 := hb_312 _ _ hg_25
  have hd_40 := jOl.trO (hh_30.iv 0 rfl) hh_30.2.2.2.2.1 hbO_31 (by simp)
  have hh_41 := hh_31.addI (jOl.ie (dC := dC) (dI := dI) (G0 := G0) (k := 2) (rs := [bo]) (H0 := s.heap) (F := [(2, 0), (2, 1)]) (C := RX0) (T := TX0) (N := 2) rfl (by decide) hh_31.2.2.2.2.1 (hd_40))
  clear hh_31
  have hyp_31 : qc_31.toInt ≤ (m_qa_31 : Nat) ∧ m_qa_31 ≤ 1048576 := by (try simp only at hr_32); omega
  have hy_42 := jYb.own hy_33 hbO_31 hb_312 hN_31 (by decide) (fun _ => ⟨_, _, _, hh_41.at 0 rfl, hh_41.at 1 rfl, hgq_31_0, hyp_31⟩)
  have hh_43 := hh_41.addI (jYb.ie hy_42)
  clear hh_41
  try simp only at hr_32
  obtain ⟨hr_32_0, hr_32_1, hr_32_2, hr_32_3, hr_32_4⟩ := hr_32
  have hh_44 := hh_43.wk (zc1 := (m_qa_31 - n_pa) / 16) (zs1 := 2 * (m_qa_31 - n_pa)) (by omega) (by omega)
  clear hh_43
  try clear hsz_31 htt_31 hrc_31 hrs_31
  try clear hb_314 hb_315
  refine lv_aload_n hx hb dX11_diagnostic_31 rfl (lv_at hl 0 rfl) ?_
  refine lv_aload_n hx hb dX11_diagnostic_32 rfl (lv_at hl 1 rfl) ?_
  refine lv_aload_n hx hb dX11_diagnostic_33 rfl (lv_at hl 1 rfl) ?_
  obtain ⟨v_45, hv_45, hh_46⟩ := hh_44.pin (C := RX1) (T := TX1) (N := 17) hB3 rfl (by decide) hg_35 (i := 6) (by decide) rfl
  clear hh_44
  obtain ⟨ends_47, rfl, hg_ends_47⟩ := hv_45
  refine j7_read hx hb hown hK (C := RX1) (T := TX1) (N := 17) rfl hly_3_6 hlk_185 (hh_46.at 0 rfl) dX11_diagnostic_34 ?_
  refine lv_iload_n hx hb dX11_diagnostic_37 rfl (lv_at hl 2 rfl) ?_
  refine j7_iald hx hb hK hh_46 hB172 1 rfl (by decide) hg_ends_47 (x := a2.toInt) (rfl) (by omega) dX11_diagnostic_38 (fun z_48 (hz_48 : 0 ≤ z_48.toInt ∧ z_48.toInt ≤ 1500) => ?_)
  have hsz_49 := hh_46.2.2.2.2.2.1
  have htt_49 := hh_46.2.2.2.2.2.2.1
  refine W.room (fun hrc_49 hrs_49 => ?_)
  refine va_callv (A0 := jA base) (H0 := s.heap) (va_runV (As := [.ref r1, .int z_48]) (rest := []) ⟨hx, hb, hml, hown, hts⟩ (uX11_position l dC dI ca base B hB hAp hB2 hB3 hB13 hB173 hB196 G_31 H_31 r0 r1 z_48 bo qc_31 qa_31 m_qa_31 LC LS) (cwV 2 hts (jgV (jWr_40 _ (List.mem_of_getElem? (i := 15) rfl)) (jWr_40 _ (List.mem_of_getElem? (i := 16) rfl)) (jWr_40 _ (List.mem_of_getElem? (i := 17) rfl)) (jWr_1 _ (List.mem_of_getElem? (i := 2) rfl)) (jWr_40 _ (List.mem_of_getElem? (i := 18) rfl))) rfl rfl rfl (by decide +kernel) ⟨by rw [← hR]; exact Nat.le_of_ble_eq_true rfl, by rw [← hR]; exact Nat.le_of_ble_eq_true rfl⟩) ⟨fun a U g mk q => by obtain ⟨q0, q1, q2, qK, q10, q11, q12, q13, q14, q15, q16⟩ := q; exact ⟨q0, q1, q2, jG.calling g mk a qK, q10, q11, q12, q13, q14, q15, q16⟩, hh_46.recv (C := RX11) (T := TX11) (N := 19) hB13 rfl (by decide) hg_34 hK, fun U hU hW => ⟨rfl, hU, hh_46.2.1, hG.step hW hU hh_46.1, hg_35, hg_34, hg_37, hgq_31_0, (hh_46.2.2.1.sub (L1 := [(r0, 13, 4, .ref bo), (bo, 2, 1, .int qc_31), (bo, 2, 0, .ref qa_31)]) [4, 1, 2] rfl), (hh_46.2.2.2.2.2.2.2.2.sub (L1 := [(jFy, jYb dC dI G_31)]) [0] rfl), (by omega), (by omega), ⟨(by first | omega | rfl | assumption | fail), (by first | omega | rfl | assumption | fail), (by first | omega | rfl | assumption | fail), (by first | omega | rfl | assumption | fail), (by first | assumption | fail | omega)⟩⟩⟩ rfl rfl hl.1 rfl (lv_room (Nat.le_of_ble_eq_true rfl)) dX11_diagnostic_39 ⟨by rw [hRc]; omega, by rw [hRs]; omega⟩) hh_46.1 (fun q _ h => h) (fun q h => h) (fun u_49 t_49 H_49 locs_49 ht_49 hvm_49 hr_50 hb_49 hz_49 hk_49 hS_49 => ?_)
  obtain ⟨qc_49, qa_49, m_qa_49, G_49⟩ := u_49
  rw [ht_49] at hb_49
  simp only at hb_49
  obtain ⟨⟨hb_491, hb_492, hb_493, hb_494, hb_495, hb_496⟩, hgq_49_0, hN_49, hbO_49, hbE_49⟩ := hb_49
  have hh_49 : jSt (dC, dI) B base G0 G_49 EX11_diagnostic s.heap (((m_qa_31 - n_pa) / 16) + ((m_qa_49 - m_qa_31) / 16)) ((2 * (m_qa_31 - n_pa)) + (2 * (m_qa_49 - m_qa_31))) [(bo, 2, 1, .int qc_49), (bo, 2, 0, .ref qa_49), (r1, 3, 6, .ref ends_47), (r1, 3, 5, .ref starts_17), (r0, 13, 4, .ref bo), (r1, 3, 9, .ref bh)] [] [([(210, 0)], jQc dC dI (ca 6) bh 40 fq)] H_49 locs_49 := (hh_46.callG hb_491 hb_492 hb_493 hb_494 hb_495 hS_49 rfl (L1 := [(r1, 3, 6, .ref ends_47), (r1, 3, 5, .ref starts_17), (r0, 13, 4, .ref bo), (r1, 3, 9, .ref bh)]) [0, 3, 4, 5] rfl rfl (M1 := []) [] rfl rfl (I1 := [([(210, 0)], jQc dC dI (ca 6) bh 40 fq)]) [2] rfl rfl).more hb_496
  have hNn_49 : (jNk [0, 1, 2, 3, 4, 5, 6, 7, 8, 9, 10, 11, 12, 13, 14, 15, 16]) G0 G_49 := (hNn_31).tr hN_49
  have hg_51 := hb_492 _ _ hg_34
  have hg_52 := hb_492 _ _ hg_35
  have hg_53 := hb_492 _ _ hg_ends_47
  have hg_54 := hb_492 _ _ hg_36
  have hg_55 := hb_492 _ _ hg_37
  have hg_56 := hb_492 _ _ hg_38
  have hh_58 := hh_49.addIs hbE_49
  have hd_59 := jOl.trL (hh_46.iv 1 rfl) hh_46.2.2.2.2.1 hbO_49 (by simp)
  have hh_60 := hh_58.addI (jOl.ie (dC := dC) (dI := dI) (G0 := G0) (k := 2) (rs := [bo]) (H0 := s.heap) (F := [(2, 0), (2, 1)]) (C := RX0) (T := TX0) (N := 2) rfl (by decide) hh_58.2.2.2.2.1 (hd_59))
  clear hh_58
  try simp only at hr_50
  obtain ⟨hr_50_0, hr_50_1, hr_50_2, hr_50_3, hr_50_4⟩ := hr_50
  have hh_61 := hh_60.wk (zc1 := (m_qa_49 - n_pa) / 16) (zs1 := 2 * (m_qa_49 - n_pa)) (by omega) (by omega)
  clear hh_60
  try clear hsz_49 htt_49 hrc_49 hrs_49
  try clear hb_494 hb_495
  refine lv_aload_n hx hb dX11_diagnostic_42 rfl (lv_at hl 0 rfl) ?_
  refine j7_read hx hb hown hK (C := RX11) (T := TX11) (N := 19) rfl hly_13_4 hlk_35 (hh_61.at 4 rfl) dX11_diagnostic_43 ?_
  refine j_ldcSw hx hb hown rstr524 dX11_diagnostic_46 ?_
  have hsz_62 := hh_61.2.2.2.2.2.1
  have htt_62 := hh_61.2.2.2.2.2.2.1
  refine W.room (fun hrc_62 hrs_62 => ?_)
  refine va_callv (A0 := jA base) (H0 := s.heap) (va_runV (As := [.ref str524]) (rest := []) ⟨hx, hb, hml, hown, hts⟩ (uX0_text l dC dI ca base B hB hAp hB2 hB196 G_49 H_49 bo str524 26 qc_49 qa_49 m_qa_49 LC LS) (cwV 1 hts (jgV (jWr_26 _ (List.mem_of_getElem? (i := 11) rfl)) (jWr_25 _ (List.mem_of_getElem? (i := 22) rfl)) (jWr_25 _ (List.mem_of_getElem? (i := 23) rfl)) (jWr_1 _ (List.mem_of_getElem? (i := 14) rfl)) (jWr_26 _ (List.mem_of_getElem? (i := 0) rfl))) rfl rfl rfl (by decide +kernel) ⟨by rw [← hR]; exact Nat.le_of_ble_eq_true rfl, by rw [← hR]; exact Nat.le_of_ble_eq_true rfl⟩) ⟨fun a U g mk q => by obtain ⟨q0, q1, q2, qK, q10, q11, q12, q13, q14⟩ := q; exact ⟨q0, q1, q2, jG.calling g mk a qK, (q10.moved (Vm.Alike.refl U.vm)), q11, q12, q13, q14⟩, hh_61.recv (C := RX0) (T := TX0) (N := 2) hB2 rfl (by decide) hg_55 hK, fun U hU hW => ⟨rfl, hU, hh_61.2.1, hG.step hW hU hh_61.1, (hstr524.moved hW.alike).kept hh_61.1.2.1, hg_55, hgq_49_0, (hh_61.2.2.1.sub (L1 := [(bo, 2, 1, .int qc_49), (bo, 2, 0, .ref qa_49)]) [0, 1] rfl), (by omega), (by omega), ⟨(by first | omega | rfl | assumption | fail), (by first | omega | rfl | assumption | fail), (by first | omega | rfl | assumption | fail), (by first | omega | rfl | assumption | fail), (by first | assumption | fail | omega), (by first | omega | rfl | assumption | fail)⟩⟩⟩ rfl rfl hl.1 rfl (lv_room (Nat.le_of_ble_eq_true rfl)) dX11_diagnostic_49 ⟨by rw [hRc]; omega, by rw [hRs]; omega⟩) hh_61.1 (fun q _ h => h) (fun q h => h) (fun u_62 t_62 H_62 locs_62 ht_62 hvm_62 hr_63 hb_62 hz_62 hk_62 hS_62 => ?_)
  obtain ⟨qc_62, qa_62, m_qa_62, G_62⟩ := u_62
  rw [ht_62] at hb_62
  simp only at hb_62
  obtain ⟨⟨hb_621, hb_622, hb_623, hb_624, hb_625, hb_626⟩, hgq_62_0, hN_62, hbO_62⟩ := hb_62
  have hy_64 := hh_61.iv 1 rfl
  have hh_62 : jSt (dC, dI) B base G0 G_62 EX11_diagnostic s.heap (((m_qa_49 - n_pa) / 16) + ((m_qa_62 - m_qa_49) / 16)) ((2 * (m_qa_49 - n_pa)) + (2 * (m_qa_62 - m_qa_49))) [(bo, 2, 1, .int qc_62), (bo, 2, 0, .ref qa_62), (r1, 3, 6, .ref ends_47), (r1, 3, 5, .ref starts_17), (r0, 13, 4, .ref bo), (r1, 3, 9, .ref bh)] [] [([(210, 0)], jQc dC dI (ca 6) bh 40 fq)] H_62 locs_62 := (hh_61.callG hb_621 hb_622 hb_623 hb_624 hb_625 hS_62 rfl (L1 := [(r1, 3, 6, .ref ends_47), (r1, 3, 5, .ref starts_17), (r0, 13, 4, .ref bo), (r1, 3, 9, .ref bh)]) [2, 3, 4, 5] rfl rfl (M1 := []) [] rfl rfl (I1 := [([(210, 0)], jQc dC dI (ca 6) bh 40 fq)]) [2] rfl rfl).more hb_626
  have hNn_62 : (jNk [0, 1, 2, 3, 4, 5, 6, 7, 8, 9, 10, 11, 12, 13, 14, 15, 16]) G0 G_62 := (hNn_49).tr hN_62
  have hg_65 := hb_622 _ _ hg_51
  have hg_66 := hb_622 _ _ hg_52
  have hg_67 := hb_622 _ _ hg_53
  have hg_68 := hb_622 _ _ hg_54
  have hg_69 := hb_622 _ _ hg_55
  have hg_70 := hb_622 _ _ hg_56
  have hd_72 := jOl.trO (hh_61.iv 0 rfl) hh_61.2.2.2.2.1 hbO_62 (by simp)
  have hh_73 := hh_62.addI (jOl.ie (dC := dC) (dI := dI) (G0 := G0) (k := 2) (rs := [bo]) (H0 := s.heap) (F := [(2, 0), (2, 1)]) (C := RX0) (T := TX0) (N := 2) rfl (by decide) hh_62.2.2.2.2.1 (hd_72))
  clear hh_62
  have hyp_62 : qc_62.toInt ≤ (m_qa_62 : Nat) ∧ m_qa_62 ≤ 1048576 := by (try simp only at hr_63); omega
  have hy_74 := jYb.own hy_64 hbO_62 hb_622 hN_62 (by decide) (fun _ => ⟨_, _, _, hh_73.at 0 rfl, hh_73.at 1 rfl, hgq_62_0, hyp_62⟩)
  have hh_75 := hh_73.addI (jYb.ie hy_74)
  clear hh_73
  try simp only at hr_63
  obtain ⟨hr_63_0, hr_63_1, hr_63_2, hr_63_3, hr_63_4⟩ := hr_63
  have hh_76 := hh_75.wk (zc1 := (m_qa_62 - n_pa) / 16) (zs1 := 2 * (m_qa_62 - n_pa)) (by omega) (by omega)
  clear hh_75
  try clear hsz_62 htt_62 hrc_62 hrs_62
  try clear hb_624 hb_625
  refine lv_aload_n hx hb dX11_diagnostic_52 rfl (lv_at hl 0 rfl) ?_
  refine j7_read hx hb hown hK (C := RX11) (T := TX11) (N := 19) rfl hly_13_4 hlk_35 (hh_76.at 4 rfl) dX11_diagnostic_53 ?_
  refine lv_aload_n hx hb dX11_diagnostic_56 rfl (lv_at hl 1 rfl) ?_
  refine j7_read hx hb hown hK (C := RX1) (T := TX1) (N := 17) rfl hly_3_9 hlk_178 (hh_76.at 5 rfl) dX11_diagnostic_57 ?_
  refine lv_iload_n hx hb dX11_diagnostic_60 rfl (lv_at hl 2 rfl) ?_
  refine j7_qaldI hx hb hK2 hh_76 hB210 2 rfl (by decide) hg_70 (x := a2.toInt) (rfl) (by omega) (hh_76.iv 2 rfl) dX11_diagnostic_61 (fun o_77 ho_77 heo_77 => ?_)
  rcases ho_77 with rfl | ⟨el_78, rfl, hg_el_78⟩
  · simp only [va_rf]
    exact absurd heo_77.symm hp7
  · simp only [va_rf]
    obtain ⟨v_79, hv_79, hh_80⟩ := hh_76.pin (C := RX9) (T := TX9) (N := 9) hB11 rfl (by decide) hg_el_78 (i := 2) (by decide) rfl
    clear hh_76
    obtain ⟨fault_81, rfl⟩ := hv_79
    refine j7_read hx hb hown hK (C := RX9) (T := TX9) (N := 9) rfl hly_11_2 hlk_188 (hh_80.at 0 rfl) dX11_diagnostic_62 ?_
    have hsz_82 := hh_80.2.2.2.2.2.1
    have htt_82 := hh_80.2.2.2.2.2.2.1
    refine W.room (fun hrc_82 hrs_82 => ?_)
    refine j_callx (A0 := jA base) (H0 := s.heap) (va_runS (As := [.int fault_81]) (rest := [.ref bo]) ⟨hx, hb, hml, hown, hts⟩ (uX11_faultText l dC dI ca base B hB hAp G_62 H_62 fault_81) (va_cwS 1 hts (jgS (jWr_41 _ (List.mem_of_getElem? (i := 1) rfl)) (jWr_41 _ (List.mem_of_getElem? (i := 2) rfl)) (jWr_1 _ (List.mem_of_getElem? (i := 2) rfl)) (jWr_41 _ (List.mem_of_getElem? (i := 3) rfl))) rfl rfl rfl (by decide +kernel) ⟨by rw [← hR]; exact Nat.le_of_ble_eq_true rfl, by rw [← hR]; exact Nat.le_of_ble_eq_true rfl⟩) ⟨fun a U g mk q => by obtain ⟨q0, q1, q2, qK, q10, q11⟩ := q; exact ⟨q0, q1, q2, jG.calling g mk a qK, q10, q11⟩, fun U hU hW => ⟨rfl, hU, hh_80.2.1, hG.step hW hU hh_80.1, jP.nil, trivial⟩⟩ rfl rfl hl.1 rfl (lv_room (Nat.le_of_ble_eq_true rfl)) dX11_diagnostic_65 ⟨by rw [hRc]; show _ + 0 ≤ _; omega, by rw [hRs]; show _ + 0 ≤ _; omega⟩) hh_80.1 (fun q _ h => h) (fun q h => h) (fun r_83 u_82 t_82 H_82 locs_82 ht_82 hvm_82 hr_83 hb_82 hz_82 hk_82 hS_82 => ?_)
    rw [ht_82] at hb_82
    obtain ⟨hb_82, hbV_82⟩ := hb_82
    obtain ⟨hb_821, hb_822, hb_823, hb_824, hb_825⟩ := hb_82
    have hh_82 : jSt (dC, dI) B base G0 G_62 EX11_diagnostic s.heap ((m_qa_62 - n_pa) / 16) (2 * (m_qa_62 - n_pa)) [(el_78, 11, 2, .int fault_81), (bo, 2, 1, .int qc_62), (bo, 2, 0, .ref qa_62), (r1, 3, 6, .ref ends_47), (r1, 3, 5, .ref starts_17), (r0, 13, 4, .ref bo), (r1, 3, 9, .ref bh)] [] [(jFy, jYb dC dI G_62), ([(2, 0), (2, 1)], jOl (dC, dI) G0 2 [bo] s.heap), ([(210, 0)], jQc dC dI (ca 6) bh 40 fq)] H_82 locs_82 := ((hh_80.call hb_821 hb_822 hb_823 hb_824 hS_82 rfl (L1 := [(el_78, 11, 2, .int fault_81), (bo, 2, 1, .int qc_62), (bo, 2, 0, .ref qa_62), (r1, 3, 6, .ref ends_47), (r1, 3, 5, .ref starts_17), (r0, 13, 4, .ref bo), (r1, 3, 9, .ref bh)]) [0, 1, 2, 3, 4, 5, 6] rfl rfl (M1 := []) [] rfl rfl (I1 := [(jFy, jYb dC dI G_62), ([(2, 0), (2, 1)], jOl (dC, dI) G0 2 [bo] s.heap), ([(210, 0)], jQc dC dI (ca 6) bh 40 fq)]) [0, 1, 2] rfl rfl).more hb_825)
    obtain ⟨rfl, hn_82⟩ := hr_83
    have hstr_82 : jStr base u_82.1 u_82.2 s s.heap := hbV_82.back hvm_82 hbs hh_82.1.2.1
    clear hh_80 ht_82 hvm_82 hz_82 hk_82 hS_82 hb_821 hb_822 hb_823 hb_824 hb_825
    have hsz_84 := hh_82.2.2.2.2.2.1
    have htt_84 := hh_82.2.2.2.2.2.2.1
    refine W.room (fun hrc_84 hrs_84 => ?_)
    refine va_callv (A0 := jA base) (H0 := s.heap) (va_runV (As := [.ref u_82.1]) (rest := []) ⟨hx, hb, hml, hown, hts⟩ (uX0_text l dC dI ca base B hB hAp hB2 hB196 G_62 H_82 bo u_82.1 u_82.2 qc_62 qa_62 m_qa_62 LC LS) (cwV 1 hts (jgV (jWr_26 _ (List.mem_of_getElem? (i := 11) rfl)) (jWr_25 _ (List.mem_of_getElem? (i := 22) rfl)) (jWr_25 _ (List.mem_of_getElem? (i := 23) rfl)) (jWr_1 _ (List.mem_of_getElem? (i := 14) rfl)) (jWr_26 _ (List.mem_of_getElem? (i := 0) rfl))) rfl rfl rfl (by decide +kernel) ⟨by rw [← hR]; exact Nat.le_of_ble_eq_true rfl, by rw [← hR]; exact Nat.le_of_ble_eq_true rfl⟩) ⟨fun a U g mk q => by obtain ⟨q0, q1, q2, qK, q10, q11, q12, q13, q14⟩ := q; exact ⟨q0, q1, q2, jG.calling g mk a qK, (q10.moved (Vm.Alike.refl U.vm)), q11, q12, q13, q14⟩, hh_82.recv (C := RX0) (T := TX0) (N := 2) hB2 rfl (by decide) hg_69 hK, fun U hU hW => ⟨rfl, hU, hh_82.2.1, hG.step hW hU hh_82.1, (hstr_82.moved hW.alike).kept hh_82.1.2.1, hg_69, hgq_62_0, (hh_82.2.2.1.sub (L1 := [(bo, 2, 1, .int qc_62), (bo, 2, 0, .ref qa_62)]) [1, 2] rfl), (by omega), (by omega), ⟨(by first | omega | rfl | assumption | fail), (by first | omega | rfl | assumption | fail), (by first | omega | rfl | assumption | fail), (by first | omega | rfl | assumption | fail), (by first | assumption | fail | omega), (by first | omega | rfl | assumption | fail)⟩⟩⟩ rfl rfl hl.1 rfl (lv_room (Nat.le_of_ble_eq_true rfl)) dX11_diagnostic_68 ⟨by rw [hRc]; omega, by rw [hRs]; omega⟩) hh_82.1 (fun q _ h => h) (fun q h => h) (fun u_84 t_84 H_84 locs_84 ht_84 hvm_84 hr_85 hb_84 hz_84 hk_84 hS_84 => ?_)
    obtain ⟨qc_84, qa_84, m_qa_84, G_84⟩ := u_84
    rw [ht_84] at hb_84
    simp only at hb_84
    obtain ⟨⟨hb_841, hb_842, hb_843, hb_844, hb_845, hb_846⟩, hgq_84_0, hN_84, hbO_84⟩ := hb_84
    have hy_86 := hh_82.iv 0 rfl
    have hh_84 : jSt (dC, dI) B base G0 G_84 EX11_diagnostic s.heap (((m_qa_62 - n_pa) / 16) + ((m_qa_84 - m_qa_62) / 16)) ((2 * (m_qa_62 - n_pa)) + (2 * (m_qa_84 - m_qa_62))) [(bo, 2, 1, .int qc_84), (bo, 2, 0, .ref qa_84), (el_78, 11, 2, .int fault_81), (r1, 3, 6, .ref ends_47), (r1, 3, 5, .ref starts_17), (r0, 13, 4, .ref bo), (r1, 3, 9, .ref bh)] [] [([(210, 0)], jQc dC dI (ca 6) bh 40 fq)] H_84 locs_84 := (hh_82.callG hb_841 hb_842 hb_843 hb_844 hb_845 hS_84 rfl (L1 := [(el_78, 11, 2, .int fault_81), (r1, 3, 6, .ref ends_47), (r1, 3, 5, .ref starts_17), (r0, 13, 4, .ref bo), (r1, 3, 9, .ref bh)]) [0, 3, 4, 5, 6] rfl rfl (M1 := []) [] rfl rfl (I1 := [([(210, 0)], jQc dC dI (ca 6) bh 40 fq)]) [2] rfl rfl).more hb_846
    have hNn_84 : (jNk [0, 1, 2, 3, 4, 5, 6, 7, 8, 9, 10, 11, 12, 13, 14, 15, 16]) G0 G_84 := (hNn_62).tr hN_84
    have hg_87 := hb_842 _ _ hg_65
    have hg_88 := hb_842 _ _ hg_66
    have hg_89 := hb_842 _ _ hg_67
    have hg_90 := hb_842 _ _ hg_68
    have hg_91 := hb_842 _ _ hg_69
    have hg_92 := hb_842 _ _ hg_70
    have hd_94 := jOl.trO (hh_82.iv 1 rfl) hh_82.2.2.2.2.1 hbO_84 (by simp)
    have hh_95 := hh_84.addI (jOl.ie (dC := dC) (dI := dI) (G0 := G0) (k := 2) (rs := [bo]) (H0 := s.heap) (F := [(2, 0), (2, 1)]) (C := RX0) (T := TX0) (N := 2) rfl (by decide) hh_84.2.2.2.2.1 (hd_94))
    clear hh_84
    have hyp_84 : qc_84.toInt ≤ (m_qa_84 : Nat) ∧ m_qa_84 ≤ 1048576 := by (try simp only at hr_85); omega
    have hy_96 := jYb.own hy_86 hbO_84 hb_842 hN_84 (by decide) (fun _ => ⟨_, _, _, hh_95.at 0 rfl, hh_95.at 1 rfl, hgq_84_0, hyp_84⟩)
    have hh_97 := hh_95.addI (jYb.ie hy_96)
    clear hh_95
    try simp only at hr_85
    obtain ⟨hr_85_0, hr_85_1, hr_85_2, hr_85_3, hr_85_4⟩ := hr_85
    have hh_98 := hh_97.wk (zc1 := (m_qa_84 - n_pa) / 16) (zs1 := 2 * (m_qa_84 - n_pa)) (by omega) (by omega)
    clear hh_97
    try clear hsz_84 htt_84 hrc_84 hrs_84
    try clear hb_844 hb_845
    refine lv_aload_n hx hb dX11_diagnostic_71 rfl (lv_at hl 0 rfl) ?_
    refine j7_read hx hb hown hK (C := RX11) (T := TX11) (N := 19) rfl hly_13_4 hlk_35 (hh_98.at 5 rfl) dX11_diagnostic_72 ?_
    refine j_ldcSw hx hb hown rstr529 dX11_diagnostic_75 ?_
    have hsz_99 := hh_98.2.2.2.2.2.1
    have htt_99 := hh_98.2.2.2.2.2.2.1
    refine W.room (fun hrc_99 hrs_99 => ?_)
    refine va_callv (A0 := jA base) (H0 := s.heap) (va_runV (As := [.ref str529]) (rest := []) ⟨hx, hb, hml, hown, hts⟩ (uX0_text l dC dI ca base B hB hAp hB2 hB196 G_84 H_84 bo str529 2 qc_84 qa_84 m_qa_84 LC LS) (cwV 1 hts (jgV (jWr_26 _ (List.mem_of_getElem? (i := 11) rfl)) (jWr_25 _ (List.mem_of_getElem? (i := 22) rfl)) (jWr_25 _ (List.mem_of_getElem? (i := 23) rfl)) (jWr_1 _ (List.mem_of_getElem? (i := 14) rfl)) (jWr_26 _ (List.mem_of_getElem? (i := 0) rfl))) rfl rfl rfl (by decide +kernel) ⟨by rw [← hR]; exact Nat.le_of_ble_eq_true rfl, by rw [← hR]; exact Nat.le_of_ble_eq_true rfl⟩) ⟨fun a U g mk q => by obtain ⟨q0, q1, q2, qK, q10, q11, q12, q13, q14⟩ := q; exact ⟨q0, q1, q2, jG.calling g mk a qK, (q10.moved (Vm.Alike.refl U.vm)), q11, q12, q13, q14⟩, hh_98.recv (C := RX0) (T := TX0) (N := 2) hB2 rfl (by decide) hg_91 hK, fun U hU hW => ⟨rfl, hU, hh_98.2.1, hG.step hW hU hh_98.1, (hstr529.moved hW.alike).kept hh_98.1.2.1, hg_91, hgq_84_0, (hh_98.2.2.1.sub (L1 := [(bo, 2, 1, .int qc_84), (bo, 2, 0, .ref qa_84)]) [0, 1] rfl), (by omega), (by omega), ⟨(by first | omega | rfl | assumption | fail), (by first | omega | rfl | assumption | fail), (by first | omega | rfl | assumption | fail), (by first | omega | rfl | assumption | fail), (by first | assumption | fail | omega), (by first | omega | rfl | assumption | fail)⟩⟩⟩ rfl rfl hl.1 rfl (lv_room (Nat.le_of_ble_eq_true rfl)) dX11_diagnostic_78 ⟨by rw [hRc]; omega, by rw [hRs]; omega⟩) hh_98.1 (fun q _ h => h) (fun q h => h) (fun u_99 t_99 H_99 locs_99 ht_99 hvm_99 hr_100 hb_99 hz_99 hk_99 hS_99 => ?_)
    obtain ⟨qc_99, qa_99, m_qa_99, G_99⟩ := u_99
    rw [ht_99] at hb_99
    simp only at hb_99
    obtain ⟨⟨hb_991, hb_992, hb_993, hb_994, hb_995, hb_996⟩, hgq_99_0, hN_99, hbO_99⟩ := hb_99
    have hy_101 := hh_98.iv 0 rfl
    have hh_99 : jSt (dC, dI) B base G0 G_99 EX11_diagnostic s.heap (((m_qa_84 - n_pa) / 16) + ((m_qa_99 - m_qa_84) / 16)) ((2 * (m_qa_84 - n_pa)) + (2 * (m_qa_99 - m_qa_84))) [(bo, 2, 1, .int qc_99), (bo, 2, 0, .ref qa_99), (el_78, 11, 2, .int fault_81), (r1, 3, 6, .ref ends_47), (r1, 3, 5, .ref starts_17), (r0, 13, 4, .ref bo), (r1, 3, 9, .ref bh)] [] [([(210, 0)], jQc dC dI (ca 6) bh 40 fq)] H_99 locs_99 := (hh_98.callG hb_991 hb_992 hb_993 hb_994 hb_995 hS_99 rfl (L1 := [(el_78, 11, 2, .int fault_81), (r1, 3, 6, .ref ends_47), (r1, 3, 5, .ref starts_17), (r0, 13, 4, .ref bo), (r1, 3, 9, .ref bh)]) [2, 3, 4, 5, 6] rfl rfl (M1 := []) [] rfl rfl (I1 := [([(210, 0)], jQc dC dI (ca 6) bh 40 fq)]) [2] rfl rfl).more hb_996
    have hNn_99 : (jNk [0, 1, 2, 3, 4, 5, 6, 7, 8, 9, 10, 11, 12, 13, 14, 15, 16]) G0 G_99 := (hNn_84).tr hN_99
    have hg_102 := hb_992 _ _ hg_87
    have hg_103 := hb_992 _ _ hg_88
    have hg_104 := hb_992 _ _ hg_89
    have hg_105 := hb_992 _ _ hg_90
    have hg_106 := hb_992 _ _ hg_91
    have hg_107 := hb_992 _ _ hg_92
    have hd_109 := jOl.trO (hh_98.iv 1 rfl) hh_98.2.2.2.2.1 hbO_99 (by simp)
    have hh_110 := hh_99.addI (jOl.ie (dC := dC) (dI := dI) (G0 := G0) (k := 2) (rs := [bo]) (H0 := s.heap) (F := [(2, 0), (2, 1)]) (C := RX0) (T := TX0) (N := 2) rfl (by decide) hh_99.2.2.2.2.1 (hd_109))
    clear hh_99
    have hyp_99 : qc_99.toInt ≤ (m_qa_99 : Nat) ∧ m_qa_99 ≤ 1048576 := by (try simp only at hr_100); omega
    have hy_111 := jYb.own hy_101 hbO_99 hb_992 hN_99 (by decide) (fun _ => ⟨_, _, _, hh_110.at 0 rfl, hh_110.at 1 rfl, hgq_99_0, hyp_99⟩)
    have hh_112 := hh_110.addI (jYb.ie hy_111)
    clear hh_110
    try simp only at hr_100
    obtain ⟨hr_100_0, hr_100_1, hr_100_2, hr_100_3, hr_100_4⟩ := hr_100
    have hh_113 := hh_112.wk (zc1 := (m_qa_99 - n_pa) / 16) (zs1 := 2 * (m_qa_99 - n_pa)) (by omega) (by omega)
    clear hh_112
    try clear hsz_99 htt_99 hrc_99 hrs_99
    try clear hb_994 hb_995
    have hsz_114 := hh_113.2.2.2.2.2.1
    have htt_114 := hh_113.2.2.2.2.2.2.1
    refine W.room (fun hrc_114 hrs_114 => ?_)
    refine W.widen (k := LC - s.heap.size) (n := LS - jTot s.heap) (by omega) (by omega) ?_
    rw [hQ]
    exact W.vret hx hb hr (fun t ht hW => ⟨⟨(qc_99, qa_99, m_qa_99, G_99), rfl, by (try dsimp only); exact ⟨(by first | omega | rfl | assumption | fail), (by first | omega | rfl | assumption | fail), (by first | omega | rfl | assumption | fail), (by first | omega | rfl | assumption | fail), (by first | assumption | fail | omega)⟩, ⟨hh_113.ra (by first | omega | (simp only; omega)) (by first | omega | (simp only; omega)) (M1 := [(bo, 2, 1, .int qc_99), (bo, 2, 0, .ref qa_99)]) [0, 1] rfl ht, hgq_99_0, hNn_99, by rw [ht]; exact hh_113.iv 1 rfl, by rw [ht]; exact hh_113.2.2.2.2.2.2.2.2.sub (L1 := [(jFy, jYb dC dI G_99)]) [0] rfl⟩⟩, by rw [ht]; try exact hh_113.1.1, fun q h9 hq => by rw [ht]; try exact hh_113.1.2.1 q h9 hq⟩) hh_113.1.2.2 dX11_diagnostic_81
end
section
-- how many digits a number has, as they are written one by one
theorem jb_lremz {x d : Int64} (e : d = x - x / 10 * 10) : x.toInt ≠ 0 ∨ d.toInt = 0 := by
  by_cases h : x.toInt = 0
  · right
    have hx : x = 0 := Int64.toInt_inj.mp (by rw [h]; rfl)
    rw [e, hx]; decide
  · exact Or.inl h
end
