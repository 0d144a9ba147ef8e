section
def EX0_textI : List (Nat × Nat) := [(17, 0), (17, 1), (199, 0)]
def EX0_characterI : List (Nat × Nat) := [(17, 0), (17, 1), (199, 0)]
set_option maxHeartbeats 4000000 in
set_option maxRecDepth 20000 in
theorem uX0_textI (l : Launch) (dC : Nat → ClassId) (dI : Nat → Nat → Nat) (ca : Nat → ClassId) (base : Nat) (B : jF) (hB : jBok B) (hAp : jAp (dC, dI)) (hB2 : ∀ n G a H, B 2 n G a H ↔ jOb (dC, dI) 2 2 (F2 n G) a H) (hB17 : ∀ n G a H, B 17 n G a H ↔ jOb (dC, dI) 17 2 (F17 n G) a H) (hB196 : ∀ n G a H, B 196 n G a H ↔ jAr (dC, dI) (ca 0) (fun j z => jBf j z) n a H) (hB199 : ∀ n G a H, B 199 n G a H ↔ jAr (dC, dI) (ca 0) (fun j z => jBf j z) n a H) (G0 : jT) (H0 : Heap) (r0 : Nat) (r1 : Nat) (n1 : Nat) (f1 : Nat → Int32) (pc : Int32) (pa : Nat) (n_pa : Nat) (ib : Nat → List Int) (LC LS : Nat) : Met l yX0_text (jw yX0_text cX0_text 3 none) ({ frames := 4, cells := LC - H0.size, slots := LS - jTot H0, locals := 141 }) (va_Pc [.ref r0, .ref r1] (fun U => U.heap = H0 ∧ jX B base G0 [] H0 ∧ jG dC dI ca base U ∧ jStrF base r1 n1 f1 U H0 ∧ G0 r0 = some (17, 0) ∧ G0 pa = some (199, n_pa) ∧ jP (dC, dI) G0 H0 [(r0, 17, 1, .int pc), (r0, 17, 0, .ref pa)] ∧ jIs (dC, dI) G0 H0 [(jFib, jIB dC dI ca G0 0 ib)] ∧ H0.size + (128 - n_pa) / 16 + 1 ≤ LC ∧ jTot H0 + 2 * (128 - n_pa) ≤ LS ∧ 0 ≤ pc.toInt ∧ pc.toInt ≤ n_pa ∧ 16 ≤ n_pa ∧ n_pa ≤ 128 ∧ jPw n_pa ∧ pc.toInt + n1 ≤ 128 ∧ n1 < 2147483648)) (va_Qv (S := Int32 × Nat × Nat × jT) (fun u => 0 ≤ u.1.toInt ∧ u.1.toInt ≤ u.2.2.1 ∧ n_pa ≤ u.2.2.1 ∧ u.2.2.1 ≤ 128 ∧ jPw u.2.2.1 ∧ u.1.toInt = pc.toInt + n1) (fun u t => jRa (dC, dI) B base G0 u.2.2.2 EX0_textI H0 ((u.2.2.1 - n_pa) / 16) (2 * (u.2.2.1 - n_pa)) [(r0, 17, 1, .int u.1), (r0, 17, 0, .ref u.2.1)] t.heap ∧ u.2.2.2 u.2.1 = some (199, u.2.2.1) ∧ (jNk [0, 1, 2, 3, 4, 5, 6, 7, 8, 9, 10, 11, 12, 13, 14, 15, 16, 17, 175]) G0 u.2.2.2 ∧ jOw (dC, dI) G0 17 r0 H0 t.heap ∧ jIs (dC, dI) u.2.2.2 t.heap [(jFib, jIB dC dI ca u.2.2.2 0 (jUf ib r0 (ib r0 ++ jiT f1 n1)))]) (jA base)) (LC - H0.size) (LS - jTot H0) (jA base) := by
  refine Met.ofW (cc := cX0_text) (maxL := 3) (ret := none) (by decide) rfl ?_
  intro p e s m args below meth c s₁ Bd hml hv
  obtain ⟨rfl, hH0, hX, hG, hstrF_r1, hg_r0, hg_pa, hP0, hI0, hLC0, hLS0, hp0, hp1, hp2, hp3, hp4, hp5, hp6⟩ := hv
  have hK := hG.1
  have hx := Bd.exec
  have hb := Bd.bytes
  have hr := Bd.returns
  have hts := atoms_spec (ws := (jw yX0_text cX0_text 3 none)) Bd.pre
  have htw : ∀ w ∈ jWl, w.before _ s = true := fun w h => hts w (List.mem_cons_of_mem _ h)
  have hown : s.vm.findClass RX0 = some m.cls := findClass_of_methodNamed Bd.named
  have hlocks := Bd.notSynchronized
  obtain ⟨Q, hQ⟩ : ∃ Q, Q = MQ below (va_Qv (S := Int32 × Nat × Nat × jT) (fun u => 0 ≤ u.1.toInt ∧ u.1.toInt ≤ u.2.2.1 ∧ n_pa ≤ u.2.2.1 ∧ u.2.2.1 ≤ 128 ∧ jPw u.2.2.1 ∧ u.1.toInt = pc.toInt + n1) (fun u t => jRa (dC, dI) B base G0 u.2.2.2 EX0_textI H0 ((u.2.2.1 - n_pa) / 16) (2 * (u.2.2.1 - n_pa)) [(r0, 17, 1, .int u.1), (r0, 17, 0, .ref u.2.1)] t.heap ∧ u.2.2.2 u.2.1 = some (199, u.2.2.1) ∧ (jNk [0, 1, 2, 3, 4, 5, 6, 7, 8, 9, 10, 11, 12, 13, 14, 15, 16, 17, 175]) G0 u.2.2.2 ∧ jOw (dC, dI) G0 17 r0 H0 t.heap ∧ jIs (dC, dI) u.2.2.2 t.heap [(jFib, jIB dC dI ca u.2.2.2 0 (jUf ib r0 (ib r0 ++ jiT f1 n1)))]) (jA base)) ([.ref r0, .ref r1] : List Value).toArray s (LC - H0.size) (LS - jTot H0) (jA base) := ⟨_, rfl⟩
  rw [← hQ]
  have hl := lv_entry ([.ref r0, .ref r1]) (n := 3) (Nat.le_of_ble_eq_true rfl)
  rw [lg_entry_eq]
  generalize (lg_sl ([.ref r0, .ref r1]) ++ List.replicate (3 - (lg_sl ([.ref r0, .ref r1])).length) Slot.unset).toArray = ls at hl ⊢
  have hstr_r1 := hstrF_r1.str
  have hl : lv_has ls 3 [(0, .ref r0), (1, .ref r1)] := hl
  generalize hR : (headSpec (jw yX0_text cX0_text 3 none) ({ frames := 4, cells := LC - H0.size, slots := LS - jTot H0, locals := 141 })).room = R
  subst hH0
  have hh : jSt (dC, dI) B base G0 G0 EX0_textI s.heap 0 0 [(r0, 17, 1, .int pc), (r0, 17, 0, .ref pa)] [] [(jFib, jIB dC dI ca G0 0 ib)] s.heap [] := jSt.start hX hP0 jMc.nil hI0
  clear hX hP0
  have hk0 : (0 : Int32).toInt = 0 := by decide
  have hk1 : (1 : Int32).toInt = 1 := by decide
  have hbs : base ≤ s.heap.size := Nat.le_of_lt (Nat.lt_of_le_of_lt (hh.ab hg_r0).1 (hh.ab hg_r0).2)
  have hRc : R.cells = LC - s.heap.size := by rw [← hR]; rfl
  have hRs : R.slots = LS - jTot s.heap := by rw [← hR]; rfl
  have hh_1 := hh.addI (jOw.ie (dC := dC) (dI := dI) (G0 := G0) (k := 17) (r := r0) (H0 := s.heap) (F := [(17, 0), (17, 1)]) (C := RX0) (T := TX0) (N := 2) rfl (by decide) hh.2.2.2.2.1 (jOw.rf))
  clear hh
  refine lv_iconst (v := 0) hx hb dX0_text_0 (by decide) ?_
  refine lv_istore_n (lv' := [(2, .int 0), (0, .ref r0), (1, .ref r1)]) hx hb dX0_text_1 rfl hl (by decide) rfl (fun ls hl => ?_)
  have L2 : ∀ (N : Nat) (Gx_2 : jT) (zcx_2 : Nat) (zsx_2 : Nat) (v2_2 : Int32) (wc_2 : Int32) (wr_2 : Nat) (m_wr_2 : Nat) (ibx_2 : Nat → List Int) (H_2 : Heap) (locs_2 : List Loc), jSt (dC, dI) B base G0 Gx_2 EX0_textI s.heap zcx_2 zsx_2 [(r0, 17, 1, .int wc_2), (r0, 17, 0, .ref wr_2)] [] [([(17, 0), (17, 1)], jOw (dC, dI) G0 17 r0 s.heap), (jFib, jIB dC dI ca Gx_2 0 ibx_2)] H_2 locs_2 → (jNk [0, 1, 2, 3, 4, 5, 6, 7, 8, 9, 10, 11, 12, 13, 14, 15, 16, 17, 175]) G0 Gx_2 → jLe G0 Gx_2 → Gx_2 wr_2 = some (199, m_wr_2) → (0 ≤ wc_2.toInt ∧ wc_2.toInt ≤ m_wr_2 ∧ n_pa ≤ m_wr_2 ∧ m_wr_2 ≤ 128 ∧ jPw m_wr_2 ∧ zcx_2 ≤ (m_wr_2 - n_pa) / 16 ∧ zsx_2 ≤ 2 * (m_wr_2 - n_pa) ∧ 0 ≤ v2_2.toInt ∧ v2_2.toInt ≤ n1 ∧ wc_2.toInt = pc.toInt + v2_2.toInt ∧ jiP ib ibx_2 r0 (jiT f1 (v2_2.toInt).toNat)) → (n1 - v2_2.toInt : Int) < N → ∀ ls : Array Slot, lv_has ls 3 [(0, .ref r0), (1, .ref r1), (2, .int v2_2)] → W p l e R s m ([.ref r0, .ref r1] : List Value).toArray below meth c H_2 locs_2 zcx_2 zsx_2 Q (F0 m 2 ls []) := by
    intro N
    induction N with
    | zero => intro Gx_2 zcx_2 zsx_2 v2_2 wc_2 wr_2 m_wr_2 ibx_2 H_2 locs_2 hh_2 hN_2 hle_2 hg_wr_2 hi_2 hm; exact absurd hm (by omega)
    | succ N L2 =>
      intro Gx_2 zcx_2 zsx_2 v2_2 wc_2 wr_2 m_wr_2 ibx_2 H_2 locs_2 hh_2 hN_2 hle_2 hg_wr_2 hi_2 hm_2 ls hl
      have hg_3 := hle_2 _ _ hg_r0
      obtain ⟨hi_2_0, hi_2_1, hi_2_2, hi_2_3, hi_2_4, hi_2_5, hi_2_6, hi_2_7, hi_2_8, hi_2_9, hi_2_10⟩ := hi_2
      refine lv_iload_n hx hb dX0_text_2 rfl (lv_at hl 2 rfl) ?_
      refine lv_aload_n hx hb dX0_text_3 rfl (lv_at hl 1 rfl) ?_
      have hsz_6 := hh_2.2.2.2.2.2.1
      have htt_6 := hh_2.2.2.2.2.2.2.1
      refine W.room (fun hrc_6 hrs_6 => ?_)
      have hsz_5 := hh_2.2.2.2.2.2.1
      have htt_5 := hh_2.2.2.2.2.2.2.1
      refine W.room (fun hrc_5 hrs_5 => ?_)
      refine vp_callSi (W.runV (As := []) (rest := [.int v2_2]) ⟨hx, hb, hml, hown, hts⟩ (wJ0_length_8abf5 l dC dI ca base H_2 r1 n1) (cwV 0 hts (jgV (jWr_26 _ (List.mem_of_getElem? (i := 1) rfl)) (jWr_5 _ (List.mem_of_getElem? (i := 13) rfl)) (jWr_5 _ (List.mem_of_getElem? (i := 14) rfl)) (jWr_5 _ (List.mem_of_getElem? (i := 15) rfl)) (jWr_5 _ (List.mem_of_getElem? (i := 16) rfl))) rfl rfl rfl (by decide +kernel) ⟨by rw [← hR]; exact Nat.le_of_ble_eq_true rfl, by rw [← hR]; exact Nat.le_of_ble_eq_true rfl⟩) ⟨fun a U g mk q => by obtain ⟨q0, q1, q2, qK, q9⟩ := q; exact ⟨q0, q1, (q2.moved (Vm.Alike.refl U.vm)), jG.calling g mk a qK, q9⟩, jStr_recv hstr_r1 hh_2.1, fun U hU hW => ⟨rfl, hU, (hstr_r1.moved hW.alike).kept hh_2.1.2.1, hG.step hW hU hh_2.1, by omega⟩⟩ rfl rfl hl.1 rfl (lv_room (Nat.le_of_ble_eq_true rfl)) dX0_text_4 ⟨by rw [hRc]; omega, by rw [hRs]; omega⟩) (fun r_4 hr_4 => ?_)
      refine lv_icmp_ge (tgt := 25) hx hb dX0_text_7 (by decide) (fun c_7 => ?_) (fun c_7 => ?_)
      · skip
        have c_7' : v2_2.toInt ≥ r_4.toInt := jb_ge (rfl) (rfl) c_7
        have hA_8 : ibx_2 = (jUf ib r0 (ib r0 ++ jiT f1 n1)) := hi_2_10.e (by rw [show v2_2.toInt.toNat = n1 by omega])
        have hAe_8 : jIB dC dI ca Gx_2 0 (jUf ib r0 (ib r0 ++ jiT f1 n1)) H_2 := by rw [← hA_8]; exact hh_2.iv 1 rfl
        have hh_9 := hh_2.sub (L1 := [(r0, 17, 1, .int wc_2), (r0, 17, 0, .ref wr_2)]) [0, 1] rfl (M1 := []) [] rfl (I1 := [([(17, 0), (17, 1)], jOw (dC, dI) G0 17 r0 s.heap)]) [0] rfl
        clear hh_2
        have hh_10 := hh_9.addI (jIB.ie hAe_8)
        clear hh_9
        have hsz_11 := hh_10.2.2.2.2.2.1
        have htt_11 := hh_10.2.2.2.2.2.2.1
        refine W.room (fun hrc_11 hrs_11 => ?_)
        refine W.widen (k := LC - s.heap.size) (n := LS - jTot s.heap) (by omega) (by omega) ?_
        rw [hQ]
        exact W.vret hx hb hr (fun t ht hW => ⟨⟨(wc_2, wr_2, m_wr_2, Gx_2), rfl, by (try dsimp only); exact ⟨(by first | omega | rfl | assumption | fail), (by first | omega | rfl | assumption | fail), (by first | omega | rfl | assumption | fail), (by first | omega | rfl | assumption | fail), (by first | assumption | fail | omega), (by first | omega | rfl | assumption | fail)⟩, ⟨hh_10.ra (by first | (simp only; omega) | omega) (by first | (simp only; omega) | omega) (M1 := [(r0, 17, 1, .int wc_2), (r0, 17, 0, .ref wr_2)]) [0, 1] rfl ht, hg_wr_2, hN_2, by rw [ht]; exact hh_10.iv 1 rfl, by rw [ht]; exact hh_10.2.2.2.2.2.2.2.2.sub (L1 := [(jFib, jIB dC dI ca Gx_2 0 (jUf ib r0 (ib r0 ++ jiT f1 n1)))]) [0] rfl⟩⟩, by rw [ht]; try exact hh_10.1.1, fun q h9 hq => by rw [ht]; try exact hh_10.1.2.1 q h9 hq⟩) hh_10.1.2.2 dX0_text_25
      · skip
        have c_7' : v2_2.toInt < r_4.toInt := jb_ge_n (rfl) (rfl) c_7
        refine lv_aload_n hx hb dX0_text_10 rfl (lv_at hl 0 rfl) ?_
        refine lv_aload_n hx hb dX0_text_11 rfl (lv_at hl 1 rfl) ?_
        refine lv_iload_n hx hb dX0_text_12 rfl (lv_at hl 2 rfl) ?_
        have hsz_14 := hh_2.2.2.2.2.2.1
        have htt_14 := hh_2.2.2.2.2.2.2.1
        refine W.room (fun hrc_14 hrs_14 => ?_)
        have hsz_13 := hh_2.2.2.2.2.2.1
        have htt_13 := hh_2.2.2.2.2.2.2.1
        refine W.room (fun hrc_13 hrs_13 => ?_)
        refine vp_callSi (W.runV (As := [.int v2_2]) (rest := [.ref r0]) ⟨hx, hb, hml, hown, hts⟩ (eJ0_charAt_5068e l dC dI ca base H_2 r1 n1 f1 v2_2) (cwV 1 hts (jgV (jWr_26 _ (List.mem_of_getElem? (i := 2) rfl)) (jWr_6 _ (List.mem_of_getElem? (i := 1) rfl)) (jWr_6 _ (List.mem_of_getElem? (i := 2) rfl)) (jWr_5 _ (List.mem_of_getElem? (i := 15) rfl)) (jWr_6 _ (List.mem_of_getElem? (i := 3) rfl))) rfl rfl rfl (by decide +kernel) ⟨by rw [← hR]; exact Nat.le_of_ble_eq_true rfl, by rw [← hR]; exact Nat.le_of_ble_eq_true rfl⟩) ⟨fun a U g mk q => by obtain ⟨q0, q1, q2, qK, q9⟩ := q; exact ⟨q0, q1, (q2.moved (Vm.Alike.refl U.vm)), jG.calling g mk a qK, q9⟩, jStr_recv hstr_r1 hh_2.1, fun U hU hW => ⟨rfl, hU, (hstrF_r1.moved hW.alike).kept hh_2.1.2.1, hG.step hW hU hh_2.1, ⟨by omega, by omega, by omega⟩⟩⟩ rfl rfl hl.1 rfl (lv_room (Nat.le_of_ble_eq_true rfl)) dX0_text_13 ⟨by rw [hRc]; omega, by rw [hRs]; omega⟩) (fun r_12 hr_12 => ?_)
        have hsz_15 := hh_2.2.2.2.2.2.1
        have htt_15 := hh_2.2.2.2.2.2.2.1
        refine W.room (fun hrc_15 hrs_15 => ?_)
        refine va_callv (A0 := jA base) (H0 := s.heap) (va_runV (As := [.int r_12]) (rest := []) ⟨hx, hb, hml, hown, hts⟩ (uX0_putI l dC dI ca base B hB hAp hB2 hB17 hB196 hB199 Gx_2 H_2 r0 r_12 wc_2 wr_2 m_wr_2 ibx_2 LC LS) (cwV 1 hts (jgV (jWr_24 _ (List.mem_of_getElem? (i := 22) rfl)) (jWr_16 _ (List.mem_of_getElem? (i := 0) rfl)) (jWr_16 _ (List.mem_of_getElem? (i := 1) rfl)) (jWr_1 _ (List.mem_of_getElem? (i := 14) rfl)) (jWr_16 _ (List.mem_of_getElem? (i := 2) rfl))) rfl rfl rfl (by decide +kernel) ⟨by rw [← hR]; exact Nat.le_of_ble_eq_true rfl, by rw [← hR]; exact Nat.le_of_ble_eq_true rfl⟩) ⟨fun a U g mk q => by obtain ⟨q0, q1, q2, qK, q10, q11, q12, q13, q14⟩ := q; exact ⟨q0, q1, q2, jG.calling g mk a qK, q10, q11, q12, q13, q14⟩, hh_2.recv (C := RX0) (T := TX0) (N := 2) hB17 rfl (by decide) hg_3 hK, fun U hU hW => ⟨rfl, hU, hh_2.2.1, hG.step hW hU hh_2.1, hg_3, hg_wr_2, (hh_2.2.2.1.sub (L1 := [(r0, 17, 1, .int wc_2), (r0, 17, 0, .ref wr_2)]) [0, 1] rfl), (hh_2.2.2.2.2.2.2.2.2.sub (L1 := [(jFib, jIB dC dI ca Gx_2 0 ibx_2)]) [1] rfl), (by omega), (by omega), by first | omega | (refine ⟨?_, ?_, ?_, ?_, ?_, ?_⟩ <;> (first | omega | rfl | assumption | decide | exact Or.inl rfl | exact Or.inr rfl | (simp only; omega)))⟩⟩ rfl rfl hl.1 rfl (lv_room (Nat.le_of_ble_eq_true rfl)) dX0_text_16 ⟨by rw [hRc]; omega, by rw [hRs]; omega⟩) hh_2.1 (fun q _ h => h) (fun q h => h) (fun u_15 t_15 H_15 locs_15 ht_15 hvm_15 hr_16 hb_15 hz_15 hk_15 hS_15 => ?_)
        obtain ⟨qc_15, qa_15, m_qa_15, G_15⟩ := u_15
        rw [ht_15] at hb_15
        simp only at hb_15
        obtain ⟨⟨hb_151, hb_152, hb_153, hb_154, hb_155, hb_156⟩, hgq_15_0, hN_15, hbO_15, hbE_15⟩ := hb_15
        have hW_15 := hN_15
        have hh_15 : jSt (dC, dI) B base G0 G_15 EX0_textI s.heap (zcx_2 + ((m_qa_15 - m_wr_2) / 16)) (zsx_2 + (2 * (m_qa_15 - m_wr_2))) [(r0, 17, 1, .int qc_15), (r0, 17, 0, .ref qa_15)] [] [] H_15 locs_15 := (hh_2.callG hb_151 hb_152 hb_153 hb_154 hb_155 hS_15 rfl (L1 := []) [] rfl rfl (M1 := []) [] rfl rfl (I1 := []) [] rfl rfl).more hb_156
        have hNn_15 : (jNk [0, 1, 2, 3, 4, 5, 6, 7, 8, 9, 10, 11, 12, 13, 14, 15, 16, 17, 175]) G0 G_15 := (hN_2).tr hN_15
        have hg_17 := hb_152 _ _ hg_3
        have hh_18 := hh_15.addIs hbE_15
        have hd_19 := jOw.tr (hh_2.iv 0 rfl) hh_2.2.2.2.2.1 hbO_15
        have hh_20 := hh_18.addI (jOw.ie (dC := dC) (dI := dI) (G0 := G0) (k := 17) (r := r0) (H0 := s.heap) (F := [(17, 0), (17, 1)]) (C := RX0) (T := TX0) (N := 2) rfl (by decide) hh_18.2.2.2.2.1 (hd_19))
        clear hh_18
        try simp only at hr_16
        obtain ⟨hr_16_0, hr_16_1, hr_16_2, hr_16_3, hr_16_4, hr_16_5⟩ := hr_16
        obtain ⟨z_21, ez_21⟩ : ∃ y : Int32, y = v2_2 + 1 := ⟨_, rfl⟩
        refine lv_iinc (v := z_21) (lv' := [(2, .int z_21), (0, .ref r0), (1, .ref r1)]) hx hb dX0_text_19 hl (k := 2) rfl (by rw [ez_21]; rfl) (by decide) rfl (fun ls hl => ?_)
        have hz_21 : z_21.toInt = v2_2.toInt + 1 := by rw [ez_21]; exact jb_iadd2 (rfl) (by decide) (by omega)
        refine lv_goto (tgt := 2) hx hb dX0_text_22 (by decide) ?_
        refine W.tight (c2 := (zcx_2 + ((m_qa_15 - m_wr_2) / 16))) (n2 := (zsx_2 + (2 * (m_qa_15 - m_wr_2)))) hh_20.2.2.2.2.2.1 hh_20.2.2.2.2.2.2.1 ?_
        exact L2 G_15 (zcx_2 + ((m_qa_15 - m_wr_2) / 16)) (zsx_2 + (2 * (m_qa_15 - m_wr_2))) z_21 qc_15 qa_15 m_qa_15 (jUf ibx_2 r0 (ibx_2 r0 ++ [r_12.toInt % 256])) _ _ hh_20 (hNn_15) ((hle_2).tr hb_152) hgq_15_0 (⟨(by first | (with_reducible assumption) | omega), (by first | (with_reducible assumption) | omega), (by first | (with_reducible assumption) | omega), (by first | (with_reducible assumption) | omega), (by first | (with_reducible assumption) | omega), (by first | (with_reducible assumption) | omega), (by first | (with_reducible assumption) | omega), (by first | (with_reducible assumption) | omega), (by first | (with_reducible assumption) | omega), (by first | (with_reducible assumption) | omega), by rw [show (z_21).toInt.toNat = v2_2.toInt.toNat + 1 by omega]; exact (hi_2_10.tr rfl).l (jiT.e (congrArg Int32.toInt hr_12))⟩) (by omega) _ (lv_sub hl [1, 2, 0] rfl)
  refine W.tight (c2 := 0) (n2 := 0) hh_1.2.2.2.2.2.1 hh_1.2.2.2.2.2.2.1 ?_
  exact L2 (n1 - (0 : Int32).toInt : Int).toNat.succ G0 0 0 0 pc pa n_pa ib _ _ hh_1 (jNk.rf) (jLe.rf) hg_pa (⟨(by first | (with_reducible assumption) | omega), (by first | (with_reducible assumption) | omega), (by first | (with_reducible assumption) | omega), (by first | (with_reducible assumption) | omega), (by first | (with_reducible assumption) | omega), (by first | (with_reducible assumption) | omega), (by first | (with_reducible assumption) | omega), (by first | (with_reducible assumption) | omega), (by first | (with_reducible assumption) | omega), (by first | (with_reducible assumption) | omega), by rw [hk0]; exact jiP.st⟩) (by omega) _ (lv_sub hl [1, 2, 0] rfl)
set_option maxHeartbeats 4000000 in
set_option maxRecDepth 20000 in
theorem uX0_characterI (l : Launch) (dC : Nat → ClassId) (dI : Nat → Nat → Nat) (ca : Nat → ClassId) (base : Nat) (B : jF) (hB : jBok B) (hAp : jAp (dC, dI)) (hB2 : ∀ n G a H, B 2 n G a H ↔ jOb (dC, dI) 2 2 (F2 n G) a H) (hB17 : ∀ n G a H, B 17 n G a H ↔ jOb (dC, dI) 17 2 (F17 n G) a H) (hB196 : ∀ n G a H, B 196 n G a H ↔ jAr (dC, dI) (ca 0) (fun j z => jBf j z) n a H) (hB199 : ∀ n G a H, B 199 n G a H ↔ jAr (dC, dI) (ca 0) (fun j z => jBf j z) n a H) (G0 : jT) (H0 : Heap) (r0 : Nat) (a1 : Int32) (pc : Int32) (pa : Nat) (n_pa : Nat) (ib : Nat → List Int) (LC LS : Nat) : Met l yX0_character (jw yX0_character cX0_character 2 none) ({ frames := 3, cells := LC - H0.size, slots := LS - jTot H0, locals := 83 }) (va_Pc [.ref r0, .int a1] (fun U => U.heap = H0 ∧ jX B base G0 [] H0 ∧ jG dC dI ca base U ∧ G0 r0 = some (17, 0) ∧ G0 pa = some (199, n_pa) ∧ jP (dC, dI) G0 H0 [(r0, 17, 1, .int pc), (r0, 17, 0, .ref pa)] ∧ jIs (dC, dI) G0 H0 [(jFib, jIB dC dI ca G0 0 ib)] ∧ H0.size + (128 - n_pa) / 16 + 1 ≤ LC ∧ jTot H0 + 2 * (128 - n_pa) ≤ LS ∧ 0 ≤ pc.toInt ∧ pc.toInt ≤ n_pa ∧ 16 ≤ n_pa ∧ n_pa ≤ 128 ∧ jPw n_pa ∧ 0 ≤ a1.toInt ∧ a1.toInt ≤ 1114111 ∧ pc.toInt + 4 ≤ 128)) (va_Qv (S := Int32 × Nat × Nat × jT) (fun u => 0 ≤ u.1.toInt ∧ u.1.toInt ≤ u.2.2.1 ∧ n_pa ≤ u.2.2.1 ∧ u.2.2.1 ≤ 128 ∧ jPw u.2.2.1 ∧ pc.toInt ≤ u.1.toInt ∧ u.1.toInt ≤ pc.toInt + 4) (fun u t => jRa (dC, dI) B base G0 u.2.2.2 EX0_characterI H0 ((u.2.2.1 - n_pa) / 16) (2 * (u.2.2.1 - n_pa)) [(r0, 17, 1, .int u.1), (r0, 17, 0, .ref u.2.1)] t.heap ∧ u.2.2.2 u.2.1 = some (199, u.2.2.1) ∧ (jNk [0, 1, 2, 3, 4, 5, 6, 7, 8, 9, 10, 11, 12, 13, 14, 15, 16, 17, 175]) G0 u.2.2.2 ∧ jOw (dC, dI) G0 17 r0 H0 t.heap ∧ jIs (dC, dI) u.2.2.2 t.heap [(jFib, jIB dC dI ca u.2.2.2 0 (jUf ib r0 (ib r0 ++ jiC a1.toInt)))]) (jA base)) (LC - H0.size) (LS - jTot H0) (jA base) := by
  refine Met.ofW (cc := cX0_character) (maxL := 2) (ret := none) (by decide) rfl ?_
  intro p e s m args below meth c s₁ Bd hml hv
  obtain ⟨rfl, hH0, hX, hG, hg_r0, hg_pa, hP0, hI0, hLC0, hLS0, hp0, hp1, hp2, hp3, hp4, hp5, hp6, hp7⟩ := hv
  have hK := hG.1
  have hx := Bd.exec
  have hb := Bd.bytes
  have hr := Bd.returns
  have hts := atoms_spec (ws := (jw yX0_character cX0_character 2 none)) Bd.pre
  have htw : ∀ w ∈ jWl, w.before _ s = true := fun w h => hts w (List.mem_cons_of_mem _ h)
  have hown : s.vm.findClass RX0 = some m.cls := findClass_of_methodNamed Bd.named
  have hlocks := Bd.notSynchronized
  obtain ⟨Q, hQ⟩ : ∃ Q, Q = MQ below (va_Qv (S := Int32 × Nat × Nat × jT) (fun u => 0 ≤ u.1.toInt ∧ u.1.toInt ≤ u.2.2.1 ∧ n_pa ≤ u.2.2.1 ∧ u.2.2.1 ≤ 128 ∧ jPw u.2.2.1 ∧ pc.toInt ≤ u.1.toInt ∧ u.1.toInt ≤ pc.toInt + 4) (fun u t => jRa (dC, dI) B base G0 u.2.2.2 EX0_characterI H0 ((u.2.2.1 - n_pa) / 16) (2 * (u.2.2.1 - n_pa)) [(r0, 17, 1, .int u.1), (r0, 17, 0, .ref u.2.1)] t.heap ∧ u.2.2.2 u.2.1 = some (199, u.2.2.1) ∧ (jNk [0, 1, 2, 3, 4, 5, 6, 7, 8, 9, 10, 11, 12, 13, 14, 15, 16, 17, 175]) G0 u.2.2.2 ∧ jOw (dC, dI) G0 17 r0 H0 t.heap ∧ jIs (dC, dI) u.2.2.2 t.heap [(jFib, jIB dC dI ca u.2.2.2 0 (jUf ib r0 (ib r0 ++ jiC a1.toInt)))]) (jA base)) ([.ref r0, .int a1] : List Value).toArray s (LC - H0.size) (LS - jTot H0) (jA base) := ⟨_, rfl⟩
  rw [← hQ]
  have hl := lv_entry ([.ref r0, .int a1]) (n := 2) (Nat.le_of_ble_eq_true rfl)
  rw [lg_entry_eq]
  generalize (lg_sl ([.ref r0, .int a1]) ++ List.replicate (2 - (lg_sl ([.ref r0, .int a1])).length) Slot.unset).toArray = ls at hl ⊢
  have hl : lv_has ls 2 [(0, .ref r0), (1, .int a1)] := hl
  generalize hR : (headSpec (jw yX0_character cX0_character 2 none) ({ frames := 3, cells := LC - H0.size, slots := LS - jTot H0, locals := 83 })).room = R
  subst hH0
  have hh : jSt (dC, dI) B base G0 G0 EX0_characterI s.heap 0 0 [(r0, 17, 1, .int pc), (r0, 17, 0, .ref pa)] [] [(jFib, jIB dC dI ca G0 0 ib)] s.heap [] := jSt.start hX hP0 jMc.nil hI0
  clear hX hP0
  have hk0 : (0 : Int32).toInt = 0 := by decide
  have hk1 : (1 : Int32).toInt = 1 := by decide
  have hk6 : (6 : Int32).toInt = 6 := by decide
  have hk12 : (12 : Int32).toInt = 12 := by decide
  have hk18 : (18 : Int32).toInt = 18 := by decide
  have hk63 : (63 : Int32).toInt = 63 := by decide
  have hk128 : (128 : Int32).toInt = 128 := by decide
  have hk192 : (192 : Int32).toInt = 192 := by decide
  have hk224 : (224 : Int32).toInt = 224 := by decide
  have hk240 : (240 : Int32).toInt = 240 := by decide
  have hk2048 : (2048 : Int32).toInt = 2048 := by decide
  have hk65536 : (65536 : Int32).toInt = 65536 := by decide
  have hcs_60 := htw (.constant RX0 60 65536) (jWr_20 _ (List.mem_of_getElem? (i := 15) rfl))
  have hrg_a1 := jb_rng a1
  have hbs : base ≤ s.heap.size := Nat.le_of_lt (Nat.lt_of_le_of_lt (hh.ab hg_r0).1 (hh.ab hg_r0).2)
  have hRc : R.cells = LC - s.heap.size := by rw [← hR]; rfl
  have hRs : R.slots = LS - jTot s.heap := by rw [← hR]; rfl
  have hh_1 := hh.addI (jOw.ie (dC := dC) (dI := dI) (G0 := G0) (k := 17) (r := r0) (H0 := s.heap) (F := [(17, 0), (17, 1)]) (C := RX0) (T := TX0) (N := 2) rfl (by decide) hh.2.2.2.2.1 (jOw.rf))
  clear hh
  refine lv_iload_n hx hb dX0_character_0 rfl (lv_at hl 1 rfl) ?_
  refine lv_sipush (v := 128) hx hb dX0_character_1 (by decide) ?_
  refine lv_icmp_ge (tgt := 13) hx hb dX0_character_4 (by decide) (fun c_2 => ?_) (fun c_2 => ?_)
  · skip
    have c_2' : a1.toInt ≥ 128 := jb_ge (rfl) ((by decide)) c_2
    refine lv_iload_n hx hb dX0_character_13 rfl (lv_at hl 1 rfl) ?_
    refine lv_sipush (v := 2048) hx hb dX0_character_14 (by decide) ?_
    refine lv_icmp_ge (tgt := 35) hx hb dX0_character_17 (by decide) (fun c_3 => ?_) (fun c_3 => ?_)
    · skip
      have c_3' : a1.toInt ≥ 2048 := jb_ge (rfl) ((by decide)) c_3
      refine lv_iload_n hx hb dX0_character_35 rfl (lv_at hl 1 rfl) ?_
      refine lv_ldc hx hb hown hcs_60 dX0_character_36 ?_
      refine lv_icmp_ge (tgt := 56) hx hb dX0_character_38 (by decide) (fun c_4 => ?_) (fun c_4 => ?_)
      · skip
        have c_4' : a1.toInt ≥ 65536 := jb_ge (rfl) ((by decide)) c_4
        refine lv_aload_n hx hb dX0_character_56 rfl (lv_at hl 0 rfl) ?_
        refine lv_sipush (v := 240) hx hb dX0_character_57 (by decide) ?_
        refine lv_iload_n hx hb dX0_character_60 rfl (lv_at hl 1 rfl) ?_
        refine lv_bipush (v := 18) hx hb dX0_character_61 (by decide) ?_
        refine lv_ishr hx hb dX0_character_63 ?_
        refine lv_topi (fun z_5 ez_5 => ?_)
        have hz_5 : z_5.toInt = a1.toInt / 2 ^ 18 := by rw [ez_5]; exact jb_ishr 18 (rfl) (by decide)
        refine lv_ior hx hb dX0_character_64 ?_
        refine lv_topi (fun z_6 ez_6 => ?_)
        have hsz_7 := hh_1.2.2.2.2.2.1
        have htt_7 := hh_1.2.2.2.2.2.2.1
        refine W.room (fun hrc_7 hrs_7 => ?_)
        refine va_callv (A0 := jA base) (H0 := s.heap) (va_runV (As := [.int z_6]) (rest := []) ⟨hx, hb, hml, hown, hts⟩ (uX0_putI l dC dI ca base B hB hAp hB2 hB17 hB196 hB199 G0 s.heap r0 z_6 pc pa n_pa ib LC LS) (cwV 1 hts (jgV (jWr_24 _ (List.mem_of_getElem? (i := 22) rfl)) (jWr_16 _ (List.mem_of_getElem? (i := 0) rfl)) (jWr_16 _ (List.mem_of_getElem? (i := 1) rfl)) (jWr_1 _ (List.mem_of_getElem? (i := 14) rfl)) (jWr_16 _ (List.mem_of_getElem? (i := 2) rfl))) rfl rfl rfl (by decide +kernel) ⟨by rw [← hR]; exact Nat.le_of_ble_eq_true rfl, by rw [← hR]; exact Nat.le_of_ble_eq_true rfl⟩) ⟨fun a U g mk q => by obtain ⟨q0, q1, q2, qK, q10, q11, q12, q13, q14⟩ := q; exact ⟨q0, q1, q2, jG.calling g mk a qK, q10, q11, q12, q13, q14⟩, hh_1.recv (C := RX0) (T := TX0) (N := 2) hB17 rfl (by decide) hg_r0 hK, fun U hU hW => ⟨rfl, hU, hh_1.2.1, hG.step hW hU hh_1.1, hg_r0, hg_pa, (hh_1.2.2.1.sub (L1 := [(r0, 17, 1, .int pc), (r0, 17, 0, .ref pa)]) [0, 1] rfl), (hh_1.2.2.2.2.2.2.2.2.sub (L1 := [(jFib, jIB dC dI ca G0 0 ib)]) [1] rfl), (by omega), (by omega), by first | omega | (refine ⟨?_, ?_, ?_, ?_, ?_, ?_⟩ <;> (first | omega | rfl | assumption | decide | exact Or.inl rfl | exact Or.inr rfl | (simp only; omega)))⟩⟩ rfl rfl hl.1 rfl (lv_room (Nat.le_of_ble_eq_true rfl)) dX0_character_65 ⟨by rw [hRc]; omega, by rw [hRs]; omega⟩) hh_1.1 (fun q _ h => h) (fun q h => h) (fun u_7 t_7 H_7 locs_7 ht_7 hvm_7 hr_8 hb_7 hz_7 hk_7 hS_7 => ?_)
        obtain ⟨qc_7, qa_7, m_qa_7, G_7⟩ := u_7
        rw [ht_7] at hb_7
        simp only at hb_7
        obtain ⟨⟨hb_71, hb_72, hb_73, hb_74, hb_75, hb_76⟩, hgq_7_0, hN_7, hbO_7, hbE_7⟩ := hb_7
        have hW_7 := hN_7
        have hh_7 : jSt (dC, dI) B base G0 G_7 EX0_characterI s.heap (0 + ((m_qa_7 - n_pa) / 16)) (0 + (2 * (m_qa_7 - n_pa))) [(r0, 17, 1, .int qc_7), (r0, 17, 0, .ref qa_7)] [] [] H_7 locs_7 := (hh_1.callG hb_71 hb_72 hb_73 hb_74 hb_75 hS_7 rfl (L1 := []) [] rfl rfl (M1 := []) [] rfl rfl (I1 := []) [] rfl rfl).more hb_76
        have hNn_7 : (jNk [0, 1, 2, 3, 4, 5, 6, 7, 8, 9, 10, 11, 12, 13, 14, 15, 16, 17, 175]) G0 G_7 := (jNk.rf).tr hN_7
        have hg_9 := hb_72 _ _ hg_r0
        have hh_10 := hh_7.addIs hbE_7
        have hd_11 := jOw.tr (hh_1.iv 0 rfl) hh_1.2.2.2.2.1 hbO_7
        have hh_12 := hh_10.addI (jOw.ie (dC := dC) (dI := dI) (G0 := G0) (k := 17) (r := r0) (H0 := s.heap) (F := [(17, 0), (17, 1)]) (C := RX0) (T := TX0) (N := 2) rfl (by decide) hh_10.2.2.2.2.1 (hd_11))
        clear hh_10
        try simp only at hr_8
        obtain ⟨hr_8_0, hr_8_1, hr_8_2, hr_8_3, hr_8_4, hr_8_5⟩ := hr_8
        refine lv_aload_n hx hb dX0_character_68 rfl (lv_at hl 0 rfl) ?_
        refine lv_sipush (v := 128) hx hb dX0_character_69 (by decide) ?_
        refine lv_iload_n hx hb dX0_character_72 rfl (lv_at hl 1 rfl) ?_
        refine lv_bipush (v := 12) hx hb dX0_character_73 (by decide) ?_
        refine lv_ishr hx hb dX0_character_75 ?_
        refine lv_topi (fun z_13 ez_13 => ?_)
        have hz_13 : z_13.toInt = a1.toInt / 2 ^ 12 := by rw [ez_13]; exact jb_ishr 12 (rfl) (by decide)
        refine lv_bipush (v := 63) hx hb dX0_character_76 (by decide) ?_
        refine lv_iand hx hb dX0_character_78 ?_
        refine lv_topi (fun z_14 ez_14 => ?_)
        have hz_14 : 0 ≤ z_14.toInt ∧ z_14.toInt ≤ 63 := by rw [ez_14]; exact jb_and z_13 (m := 63) (k := 6) (by decide) (by decide)
        refine lv_ior hx hb dX0_character_79 ?_
        refine lv_topi (fun z_15 ez_15 => ?_)
        have hsz_16 := hh_12.2.2.2.2.2.1
        have htt_16 := hh_12.2.2.2.2.2.2.1
        refine W.room (fun hrc_16 hrs_16 => ?_)
        refine va_callv (A0 := jA base) (H0 := s.heap) (va_runV (As := [.int z_15]) (rest := []) ⟨hx, hb, hml, hown, hts⟩ (uX0_putI l dC dI ca base B hB hAp hB2 hB17 hB196 hB199 G_7 H_7 r0 z_15 qc_7 qa_7 m_qa_7 (jUf ib r0 (ib r0 ++ [z_6.toInt % 256])) LC LS) (cwV 1 hts (jgV (jWr_24 _ (List.mem_of_getElem? (i := 22) rfl)) (jWr_16 _ (List.mem_of_getElem? (i := 0) rfl)) (jWr_16 _ (List.mem_of_getElem? (i := 1) rfl)) (jWr_1 _ (List.mem_of_getElem? (i := 14) rfl)) (jWr_16 _ (List.mem_of_getElem? (i := 2) rfl))) rfl rfl rfl (by decide +kernel) ⟨by rw [← hR]; exact Nat.le_of_ble_eq_true rfl, by rw [← hR]; exact Nat.le_of_ble_eq_true rfl⟩) ⟨fun a U g mk q => by obtain ⟨q0, q1, q2, qK, q10, q11, q12, q13, q14⟩ := q; exact ⟨q0, q1, q2, jG.calling g mk a qK, q10, q11, q12, q13, q14⟩, hh_12.recv (C := RX0) (T := TX0) (N := 2) hB17 rfl (by decide) hg_9 hK, fun U hU hW => ⟨rfl, hU, hh_12.2.1, hG.step hW hU hh_12.1, hg_9, hgq_7_0, (hh_12.2.2.1.sub (L1 := [(r0, 17, 1, .int qc_7), (r0, 17, 0, .ref qa_7)]) [0, 1] rfl), (hh_12.2.2.2.2.2.2.2.2.sub (L1 := [(jFib, jIB dC dI ca G_7 0 (jUf ib r0 (ib r0 ++ [z_6.toInt % 256])))]) [1] rfl), (by omega), (by omega), by first | omega | (refine ⟨?_, ?_, ?_, ?_, ?_, ?_⟩ <;> (first | omega | rfl | assumption | decide | exact Or.inl rfl | exact Or.inr rfl | (simp only; omega)))⟩⟩ rfl rfl hl.1 rfl (lv_room (Nat.le_of_ble_eq_true rfl)) dX0_character_80 ⟨by rw [hRc]; omega, by rw [hRs]; omega⟩) hh_12.1 (fun q _ h => h) (fun q h => h) (fun u_16 t_16 H_16 locs_16 ht_16 hvm_16 hr_17 hb_16 hz_16 hk_16 hS_16 => ?_)
        obtain ⟨qc_16, qa_16, m_qa_16, G_16⟩ := u_16
        rw [ht_16] at hb_16
        simp only at hb_16
        obtain ⟨⟨hb_161, hb_162, hb_163, hb_164, hb_165, hb_166⟩, hgq_16_0, hN_16, hbO_16, hbE_16⟩ := hb_16
        have hW_16 := hN_16
        have hh_16 : jSt (dC, dI) B base G0 G_16 EX0_characterI s.heap ((0 + ((m_qa_7 - n_pa) / 16)) + ((m_qa_16 - m_qa_7) / 16)) ((0 + (2 * (m_qa_7 - n_pa))) + (2 * (m_qa_16 - m_qa_7))) [(r0, 17, 1, .int qc_16), (r0, 17, 0, .ref qa_16)] [] [] H_16 locs_16 := (hh_12.callG hb_161 hb_162 hb_163 hb_164 hb_165 hS_16 rfl (L1 := []) [] rfl rfl (M1 := []) [] rfl rfl (I1 := []) [] rfl rfl).more hb_166
        have hNn_16 : (jNk [0, 1, 2, 3, 4, 5, 6, 7, 8, 9, 10, 11, 12, 13, 14, 15, 16, 17, 175]) G0 G_16 := (hNn_7).tr hN_16
        have hg_18 := hb_162 _ _ hg_9
        have hh_19 := hh_16.addIs hbE_16
        have hd_20 := jOw.tr (hh_12.iv 0 rfl) hh_12.2.2.2.2.1 hbO_16
        have hh_21 := hh_19.addI (jOw.ie (dC := dC) (dI := dI) (G0 := G0) (k := 17) (r := r0) (H0 := s.heap) (F := [(17, 0), (17, 1)]) (C := RX0) (T := TX0) (N := 2) rfl (by decide) hh_19.2.2.2.2.1 (hd_20))
        clear hh_19
        try simp only at hr_17
        obtain ⟨hr_17_0, hr_17_1, hr_17_2, hr_17_3, hr_17_4, hr_17_5⟩ := hr_17
        refine lv_aload_n hx hb dX0_character_83 rfl (lv_at hl 0 rfl) ?_
        refine lv_sipush (v := 128) hx hb dX0_character_84 (by decide) ?_
        refine lv_iload_n hx hb dX0_character_87 rfl (lv_at hl 1 rfl) ?_
        refine lv_bipush (v := 6) hx hb dX0_character_88 (by decide) ?_
        refine lv_ishr hx hb dX0_character_90 ?_
        refine lv_topi (fun z_22 ez_22 => ?_)
        have hz_22 : z_22.toInt = a1.toInt / 2 ^ 6 := by rw [ez_22]; exact jb_ishr 6 (rfl) (by decide)
        refine lv_bipush (v := 63) hx hb dX0_character_91 (by decide) ?_
        refine lv_iand hx hb dX0_character_93 ?_
        refine lv_topi (fun z_23 ez_23 => ?_)
        have hz_23 : 0 ≤ z_23.toInt ∧ z_23.toInt ≤ 63 := by rw [ez_23]; exact jb_and z_22 (m := 63) (k := 6) (by decide) (by decide)
        refine lv_ior hx hb dX0_character_94 ?_
        refine lv_topi (fun z_24 ez_24 => ?_)
        have hsz_25 := hh_21.2.2.2.2.2.1
        have htt_25 := hh_21.2.2.2.2.2.2.1
        refine W.room (fun hrc_25 hrs_25 => ?_)
        refine va_callv (A0 := jA base) (H0 := s.heap) (va_runV (As := [.int z_24]) (rest := []) ⟨hx, hb, hml, hown, hts⟩ (uX0_putI l dC dI ca base B hB hAp hB2 hB17 hB196 hB199 G_16 H_16 r0 z_24 qc_16 qa_16 m_qa_16 (jUf (jUf ib r0 (ib r0 ++ [z_6.toInt % 256])) r0 ((jUf ib r0 (ib r0 ++ [z_6.toInt % 256])) r0 ++ [z_15.toInt % 256])) LC LS) (cwV 1 hts (jgV (jWr_24 _ (List.mem_of_getElem? (i := 22) rfl)) (jWr_16 _ (List.mem_of_getElem? (i := 0) rfl)) (jWr_16 _ (List.mem_of_getElem? (i := 1) rfl)) (jWr_1 _ (List.mem_of_getElem? (i := 14) rfl)) (jWr_16 _ (List.mem_of_getElem? (i := 2) rfl))) rfl rfl rfl (by decide +kernel) ⟨by rw [← hR]; exact Nat.le_of_ble_eq_true rfl, by rw [← hR]; exact Nat.le_of_ble_eq_true rfl⟩) ⟨fun a U g mk q => by obtain ⟨q0, q1, q2, qK, q10, q11, q12, q13, q14⟩ := q; exact ⟨q0, q1, q2, jG.calling g mk a qK, q10, q11, q12, q13, q14⟩, hh_21.recv (C := RX0) (T := TX0) (N := 2) hB17 rfl (by decide) hg_18 hK, fun U hU hW => ⟨rfl, hU, hh_21.2.1, hG.step hW hU hh_21.1, hg_18, hgq_16_0, (hh_21.2.2.1.sub (L1 := [(r0, 17, 1, .int qc_16), (r0, 17, 0, .ref qa_16)]) [0, 1] rfl), (hh_21.2.2.2.2.2.2.2.2.sub (L1 := [(jFib, jIB dC dI ca G_16 0 (jUf (jUf ib r0 (ib r0 ++ [z_6.toInt % 256])) r0 ((jUf ib r0 (ib r0 ++ [z_6.toInt % 256])) r0 ++ [z_15.toInt % 256])))]) [1] rfl), (by omega), (by omega), by first | omega | (refine ⟨?_, ?_, ?_, ?_, ?_, ?_⟩ <;> (first | omega | rfl | assumption | decide | exact Or.inl rfl | exact Or.inr rfl | (simp only; omega)))⟩⟩ rfl rfl hl.1 rfl (lv_room (Nat.le_of_ble_eq_true rfl)) dX0_character_95 ⟨by rw [hRc]; omega, by rw [hRs]; omega⟩) hh_21.1 (fun q _ h => h) (fun q h => h) (fun u_25 t_25 H_25 locs_25 ht_25 hvm_25 hr_26 hb_25 hz_25 hk_25 hS_25 => ?_)
        obtain ⟨qc_25, qa_25, m_qa_25, G_25⟩ := u_25
        rw [ht_25] at hb_25
        simp only at hb_25
        obtain ⟨⟨hb_251, hb_252, hb_253, hb_254, hb_255, hb_256⟩, hgq_25_0, hN_25, hbO_25, hbE_25⟩ := hb_25
        have hW_25 := hN_25
        have hh_25 : jSt (dC, dI) B base G0 G_25 EX0_characterI s.heap (((0 + ((m_qa_7 - n_pa) / 16)) + ((m_qa_16 - m_qa_7) / 16)) + ((m_qa_25 - m_qa_16) / 16)) (((0 + (2 * (m_qa_7 - n_pa))) + (2 * (m_qa_16 - m_qa_7))) + (2 * (m_qa_25 - m_qa_16))) [(r0, 17, 1, .int qc_25), (r0, 17, 0, .ref qa_25)] [] [] H_25 locs_25 := (hh_21.callG hb_251 hb_252 hb_253 hb_254 hb_255 hS_25 rfl (L1 := []) [] rfl rfl (M1 := []) [] rfl rfl (I1 := []) [] rfl rfl).more hb_256
        have hNn_25 : (jNk [0, 1, 2, 3, 4, 5, 6, 7, 8, 9, 10, 11, 12, 13, 14, 15, 16, 17, 175]) G0 G_25 := (hNn_16).tr hN_25
        have hg_27 := hb_252 _ _ hg_18
        have hh_28 := hh_25.addIs hbE_25
        have hd_29 := jOw.tr (hh_21.iv 0 rfl) hh_21.2.2.2.2.1 hbO_25
        have hh_30 := hh_28.addI (jOw.ie (dC := dC) (dI := dI) (G0 := G0) (k := 17) (r := r0) (H0 := s.heap) (F := [(17, 0), (17, 1)]) (C := RX0) (T := TX0) (N := 2) rfl (by decide) hh_28.2.2.2.2.1 (hd_29))
        clear hh_28
        try simp only at hr_26
        obtain ⟨hr_26_0, hr_26_1, hr_26_2, hr_26_3, hr_26_4, hr_26_5⟩ := hr_26
        refine lv_aload_n hx hb dX0_character_98 rfl (lv_at hl 0 rfl) ?_
        refine lv_sipush (v := 128) hx hb dX0_character_99 (by decide) ?_
        refine lv_iload_n hx hb dX0_character_102 rfl (lv_at hl 1 rfl) ?_
        refine lv_bipush (v := 63) hx hb dX0_character_103 (by decide) ?_
        refine lv_iand hx hb dX0_character_105 ?_
        refine lv_topi (fun z_31 ez_31 => ?_)
        have hz_31 : 0 ≤ z_31.toInt ∧ z_31.toInt ≤ 63 := by rw [ez_31]; exact jb_and a1 (m := 63) (k := 6) (by decide) (by decide)
        refine lv_ior hx hb dX0_character_106 ?_
        refine lv_topi (fun z_32 ez_32 => ?_)
        have hsz_33 := hh_30.2.2.2.2.2.1
        have htt_33 := hh_30.2.2.2.2.2.2.1
        refine W.room (fun hrc_33 hrs_33 => ?_)
        refine va_callv (A0 := jA base) (H0 := s.heap) (va_runV (As := [.int z_32]) (rest := []) ⟨hx, hb, hml, hown, hts⟩ (uX0_putI l dC dI ca base B hB hAp hB2 hB17 hB196 hB199 G_25 H_25 r0 z_32 qc_25 qa_25 m_qa_25 (jUf (jUf (jUf ib r0 (ib r0 ++ [z_6.toInt % 256])) r0 ((jUf ib r0 (ib r0 ++ [z_6.toInt % 256])) r0 ++ [z_15.toInt % 256])) r0 ((jUf (jUf ib r0 (ib r0 ++ [z_6.toInt % 256])) r0 ((jUf ib r0 (ib r0 ++ [z_6.toInt % 256])) r0 ++ [z_15.toInt % 256])) r0 ++ [z_24.toInt % 256])) LC LS) (cwV 1 hts (jgV (jWr_24 _ (List.mem_of_getElem? (i := 22) rfl)) (jWr_16 _ (List.mem_of_getElem? (i := 0) rfl)) (jWr_16 _ (List.mem_of_getElem? (i := 1) rfl)) (jWr_1 _ (List.mem_of_getElem? (i := 14) rfl)) (jWr_16 _ (List.mem_of_getElem? (i := 2) rfl))) rfl rfl rfl (by decide +kernel) ⟨by rw [← hR]; exact Nat.le_of_ble_eq_true rfl, by rw [← hR]; exact Nat.le_of_ble_eq_true rfl⟩) ⟨fun a U g mk q => by obtain ⟨q0, q1, q2, qK, q10, q11, q12, q13, q14⟩ := q; exact ⟨q0, q1, q2, jG.calling g mk a qK, q10, q11, q12, q13, q14⟩, hh_30.recv (C := RX0) (T := TX0) (N := 2) hB17 rfl (by decide) hg_27 hK, fun U hU hW => ⟨rfl, hU, hh_30.2.1, hG.step hW hU hh_30.1, hg_27, hgq_25_0, (hh_30.2.2.1.sub (L1 := [(r0, 17, 1, .int qc_25), (r0, 17, 0, .ref qa_25)]) [0, 1] rfl), (hh_30.2.2.2.2.2.2.2.2.sub (L1 := [(jFib, jIB dC dI ca G_25 0 (jUf (jUf (jUf ib r0 (ib r0 ++ [z_6.toInt % 256])) r0 ((jUf ib r0 (ib r0 ++ [z_6.toInt % 256])) r0 ++ [z_15.toInt % 256])) r0 ((jUf (jUf ib r0 (ib r0 ++ [z_6.toInt % 256])) r0 ((jUf ib r0 (ib r0 ++ [z_6.toInt % 256])) r0 ++ [z_15.toInt % 256])) r0 ++ [z_24.toInt % 256])))]) [1] rfl), (by omega), (by omega), by first | omega | (refine ⟨?_, ?_, ?_, ?_, ?_, ?_⟩ <;> (first | omega | rfl | assumption | decide | exact Or.inl rfl | exact Or.inr rfl | (simp only; omega)))⟩⟩ rfl rfl hl.1 rfl (lv_room (Nat.le_of_ble_eq_true rfl)) dX0_character_107 ⟨by rw [hRc]; omega, by rw [hRs]; omega⟩) hh_30.1 (fun q _ h => h) (fun q h => h) (fun u_33 t_33 H_33 locs_33 ht_33 hvm_33 hr_34 hb_33 hz_33 hk_33 hS_33 => ?_)
        obtain ⟨qc_33, qa_33, m_qa_33, G_33⟩ := u_33
        rw [ht_33] at hb_33
        simp only at hb_33
        obtain ⟨⟨hb_331, hb_332, hb_333, hb_334, hb_335, hb_336⟩, hgq_33_0, hN_33, hbO_33, hbE_33⟩ := hb_33
        have hW_33 := hN_33
        have hh_33 : jSt (dC, dI) B base G0 G_33 EX0_characterI s.heap ((((0 + ((m_qa_7 - n_pa) / 16)) + ((m_qa_16 - m_qa_7) / 16)) + ((m_qa_25 - m_qa_16) / 16)) + ((m_qa_33 - m_qa_25) / 16)) ((((0 + (2 * (m_qa_7 - n_pa))) + (2 * (m_qa_16 - m_qa_7))) + (2 * (m_qa_25 - m_qa_16))) + (2 * (m_qa_33 - m_qa_25))) [(r0, 17, 1, .int qc_33), (r0, 17, 0, .ref qa_33)] [] [] H_33 locs_33 := (hh_30.callG hb_331 hb_332 hb_333 hb_334 hb_335 hS_33 rfl (L1 := []) [] rfl rfl (M1 := []) [] rfl rfl (I1 := []) [] rfl rfl).more hb_336
        have hNn_33 : (jNk [0, 1, 2, 3, 4, 5, 6, 7, 8, 9, 10, 11, 12, 13, 14, 15, 16, 17, 175]) G0 G_33 := (hNn_25).tr hN_33
        have hg_35 := hb_332 _ _ hg_27
        have hh_36 := hh_33.addIs hbE_33
        have hd_37 := jOw.tr (hh_30.iv 0 rfl) hh_30.2.2.2.2.1 hbO_33
        have hh_38 := hh_36.addI (jOw.ie (dC := dC) (dI := dI) (G0 := G0) (k := 17) (r := r0) (H0 := s.heap) (F := [(17, 0), (17, 1)]) (C := RX0) (T := TX0) (N := 2) rfl (by decide) hh_36.2.2.2.2.1 (hd_37))
        clear hh_36
        try simp only at hr_34
        obtain ⟨hr_34_0, hr_34_1, hr_34_2, hr_34_3, hr_34_4, hr_34_5⟩ := hr_34
        have hA_39 : (jUf (jUf (jUf (jUf ib r0 (ib r0 ++ [z_6.toInt % 256])) r0 ((jUf ib r0 (ib r0 ++ [z_6.toInt % 256])) r0 ++ [z_15.toInt % 256])) r0 ((jUf (jUf ib r0 (ib r0 ++ [z_6.toInt % 256])) r0 ((jUf ib r0 (ib r0 ++ [z_6.toInt % 256])) r0 ++ [z_15.toInt % 256])) r0 ++ [z_24.toInt % 256])) r0 ((jUf (jUf (jUf ib r0 (ib r0 ++ [z_6.toInt % 256])) r0 ((jUf ib r0 (ib r0 ++ [z_6.toInt % 256])) r0 ++ [z_15.toInt % 256])) r0 ((jUf (jUf ib r0 (ib r0 ++ [z_6.toInt % 256])) r0 ((jUf ib r0 (ib r0 ++ [z_6.toInt % 256])) r0 ++ [z_15.toInt % 256])) r0 ++ [z_24.toInt % 256])) r0 ++ [z_32.toInt % 256])) = (jUf ib r0 (ib r0 ++ jiC a1.toInt)) := ((((jiP.st.tr rfl).tr rfl).tr rfl).tr rfl).e (jiC.k4 (by omega) (by omega) (by have h7 := jb_shr18 ez_5 (by omega); have h9 := jb_or16 ez_6 15 (by decide) (by omega) (by omega) (by omega) (by omega); omega) (by have h7 := jb_shr12 ez_13 (by omega); have h8 := jb_a63 ez_14; have h9 := jb_or64 ez_15 2 (by decide) (by omega) (by omega) (by omega) (by omega); omega) (by have h7 := jb_shr6 ez_22 (by omega); have h8 := jb_a63 ez_23; have h9 := jb_or64 ez_24 2 (by decide) (by omega) (by omega) (by omega) (by omega); omega) (by have h9 := jb_or64 ez_32 2 (by decide) (by omega) (by omega) (by have h8 := jb_a63 ez_31; omega) (by have h8 := jb_a63 ez_31; omega); have h8 := jb_a63 ez_31; omega))
        have hAe_39 : jIB dC dI ca G_33 0 (jUf ib r0 (ib r0 ++ jiC a1.toInt)) H_33 := by rw [← hA_39]; exact hh_38.iv 1 rfl
        have hh_40 := hh_38.sub (L1 := [(r0, 17, 1, .int qc_33), (r0, 17, 0, .ref qa_33)]) [0, 1] rfl (M1 := []) [] rfl (I1 := [([(17, 0), (17, 1)], jOw (dC, dI) G0 17 r0 s.heap)]) [0] rfl
        clear hh_38
        have hh_41 := hh_40.addI (jIB.ie hAe_39)
        clear hh_40
        have hsz_42 := hh_41.2.2.2.2.2.1
        have htt_42 := hh_41.2.2.2.2.2.2.1
        refine W.room (fun hrc_42 hrs_42 => ?_)
        refine W.widen (k := LC - s.heap.size) (n := LS - jTot s.heap) (by omega) (by omega) ?_
        rw [hQ]
        exact W.vret hx hb hr (fun t ht hW => ⟨⟨(qc_33, qa_33, m_qa_33, G_33), rfl, by (try dsimp only); exact ⟨(by first | omega | rfl | assumption | fail), (by first | omega | rfl | assumption | fail), (by first | omega | rfl | assumption | fail), (by first | omega | rfl | assumption | fail), (by first | assumption | fail | omega), (by first | omega | rfl | assumption | fail), (by first | omega | rfl | assumption | fail)⟩, ⟨hh_41.ra (by first | (simp only; omega) | omega) (by first | (simp only; omega) | omega) (M1 := [(r0, 17, 1, .int qc_33), (r0, 17, 0, .ref qa_33)]) [0, 1] rfl ht, hgq_33_0, hNn_33, by rw [ht]; exact hh_41.iv 1 rfl, by rw [ht]; exact hh_41.2.2.2.2.2.2.2.2.sub (L1 := [(jFib, jIB dC dI ca G_33 0 (jUf ib r0 (ib r0 ++ jiC a1.toInt)))]) [0] rfl⟩⟩, by rw [ht]; try exact hh_41.1.1, fun q h9 hq => by rw [ht]; try exact hh_41.1.2.1 q h9 hq⟩) hh_41.1.2.2 dX0_character_110
      · skip
        have c_4' : a1.toInt < 65536 := jb_ge_n (rfl) ((by decide)) c_4
        refine lv_aload_n hx hb dX0_character_41 rfl (lv_at hl 0 rfl) ?_
        refine lv_sipush (v := 224) hx hb dX0_character_42 (by decide) ?_
        refine lv_iload_n hx hb dX0_character_45 rfl (lv_at hl 1 rfl) ?_
        refine lv_bipush (v := 12) hx hb dX0_character_46 (by decide) ?_
        refine lv_ishr hx hb dX0_character_48 ?_
        refine lv_topi (fun z_43 ez_43 => ?_)
        have hz_43 : z_43.toInt = a1.toInt / 2 ^ 12 := by rw [ez_43]; exact jb_ishr 12 (rfl) (by decide)
        refine lv_ior hx hb dX0_character_49 ?_
        refine lv_topi (fun z_44 ez_44 => ?_)
        have hsz_45 := hh_1.2.2.2.2.2.1
        have htt_45 := hh_1.2.2.2.2.2.2.1
        refine W.room (fun hrc_45 hrs_45 => ?_)
        refine va_callv (A0 := jA base) (H0 := s.heap) (va_runV (As := [.int z_44]) (rest := []) ⟨hx, hb, hml, hown, hts⟩ (uX0_putI l dC dI ca base B hB hAp hB2 hB17 hB196 hB199 G0 s.heap r0 z_44 pc pa n_pa ib LC LS) (cwV 1 hts (jgV (jWr_24 _ (List.mem_of_getElem? (i := 22) rfl)) (jWr_16 _ (List.mem_of_getElem? (i := 0) rfl)) (jWr_16 _ (List.mem_of_getElem? (i := 1) rfl)) (jWr_1 _ (List.mem_of_getElem? (i := 14) rfl)) (jWr_16 _ (List.mem_of_getElem? (i := 2) rfl))) rfl rfl rfl (by decide +kernel) ⟨by rw [← hR]; exact Nat.le_of_ble_eq_true rfl, by rw [← hR]; exact Nat.le_of_ble_eq_true rfl⟩) ⟨fun a U g mk q => by obtain ⟨q0, q1, q2, qK, q10, q11, q12, q13, q14⟩ := q; exact ⟨q0, q1, q2, jG.calling g mk a qK, q10, q11, q12, q13, q14⟩, hh_1.recv (C := RX0) (T := TX0) (N := 2) hB17 rfl (by decide) hg_r0 hK, fun U hU hW => ⟨rfl, hU, hh_1.2.1, hG.step hW hU hh_1.1, hg_r0, hg_pa, (hh_1.2.2.1.sub (L1 := [(r0, 17, 1, .int pc), (r0, 17, 0, .ref pa)]) [0, 1] rfl), (hh_1.2.2.2.2.2.2.2.2.sub (L1 := [(jFib, jIB dC dI ca G0 0 ib)]) [1] rfl), (by omega), (by omega), by first | omega | (refine ⟨?_, ?_, ?_, ?_, ?_, ?_⟩ <;> (first | omega | rfl | assumption | decide | exact Or.inl rfl | exact Or.inr rfl | (simp only; omega)))⟩⟩ rfl rfl hl.1 rfl (lv_room (Nat.le_of_ble_eq_true rfl)) dX0_character_50 ⟨by rw [hRc]; omega, by rw [hRs]; omega⟩) hh_1.1 (fun q _ h => h) (fun q h => h) (fun u_45 t_45 H_45 locs_45 ht_45 hvm_45 hr_46 hb_45 hz_45 hk_45 hS_45 => ?_)
        obtain ⟨qc_45, qa_45, m_qa_45, G_45⟩ := u_45
        rw [ht_45] at hb_45
        simp only at hb_45
        obtain ⟨⟨hb_451, hb_452, hb_453, hb_454, hb_455, hb_456⟩, hgq_45_0, hN_45, hbO_45, hbE_45⟩ := hb_45
        have hW_45 := hN_45
        have hh_45 : jSt (dC, dI) B base G0 G_45 EX0_characterI s.heap (0 + ((m_qa_45 - n_pa) / 16)) (0 + (2 * (m_qa_45 - n_pa))) [(r0, 17, 1, .int qc_45), (r0, 17, 0, .ref qa_45)] [] [] H_45 locs_45 := (hh_1.callG hb_451 hb_452 hb_453 hb_454 hb_455 hS_45 rfl (L1 := []) [] rfl rfl (M1 := []) [] rfl rfl (I1 := []) [] rfl rfl).more hb_456
        have hNn_45 : (jNk [0, 1, 2, 3, 4, 5, 6, 7, 8, 9, 10, 11, 12, 13, 14, 15, 16, 17, 175]) G0 G_45 := (jNk.rf).tr hN_45
        have hg_47 := hb_452 _ _ hg_r0
        have hh_48 := hh_45.addIs hbE_45
        have hd_49 := jOw.tr (hh_1.iv 0 rfl) hh_1.2.2.2.2.1 hbO_45
        have hh_50 := hh_48.addI (jOw.ie (dC := dC) (dI := dI) (G0 := G0) (k := 17) (r := r0) (H0 := s.heap) (F := [(17, 0), (17, 1)]) (C := RX0) (T := TX0) (N := 2) rfl (by decide) hh_48.2.2.2.2.1 (hd_49))
        clear hh_48
        try simp only at hr_46
        obtain ⟨hr_46_0, hr_46_1, hr_46_2, hr_46_3, hr_46_4, hr_46_5⟩ := hr_46
        refine lv_goto (tgt := 83) hx hb dX0_character_53 (by decide) ?_
        refine lv_aload_n hx hb dX0_character_83 rfl (lv_at hl 0 rfl) ?_
        refine lv_sipush (v := 128) hx hb dX0_character_84 (by decide) ?_
        refine lv_iload_n hx hb dX0_character_87 rfl (lv_at hl 1 rfl) ?_
        refine lv_bipush (v := 6) hx hb dX0_character_88 (by decide) ?_
        refine lv_ishr hx hb dX0_character_90 ?_
        refine lv_topi (fun z_51 ez_51 => ?_)
        have hz_51 : z_51.toInt = a1.toInt / 2 ^ 6 := by rw [ez_51]; exact jb_ishr 6 (rfl) (by decide)
        refine lv_bipush (v := 63) hx hb dX0_character_91 (by decide) ?_
        refine lv_iand hx hb dX0_character_93 ?_
        refine lv_topi (fun z_52 ez_52 => ?_)
        have hz_52 : 0 ≤ z_52.toInt ∧ z_52.toInt ≤ 63 := by rw [ez_52]; exact jb_and z_51 (m := 63) (k := 6) (by decide) (by decide)
        refine lv_ior hx hb dX0_character_94 ?_
        refine lv_topi (fun z_53 ez_53 => ?_)
        have hsz_54 := hh_50.2.2.2.2.2.1
        have htt_54 := hh_50.2.2.2.2.2.2.1
        refine W.room (fun hrc_54 hrs_54 => ?_)
        refine va_callv (A0 := jA base) (H0 := s.heap) (va_runV (As := [.int z_53]) (rest := []) ⟨hx, hb, hml, hown, hts⟩ (uX0_putI l dC dI ca base B hB hAp hB2 hB17 hB196 hB199 G_45 H_45 r0 z_53 qc_45 qa_45 m_qa_45 (jUf ib r0 (ib r0 ++ [z_44.toInt % 256])) LC LS) (cwV 1 hts (jgV (jWr_24 _ (List.mem_of_getElem? (i := 22) rfl)) (jWr_16 _ (List.mem_of_getElem? (i := 0) rfl)) (jWr_16 _ (List.mem_of_getElem? (i := 1) rfl)) (jWr_1 _ (List.mem_of_getElem? (i := 14) rfl)) (jWr_16 _ (List.mem_of_getElem? (i := 2) rfl))) rfl rfl rfl (by decide +kernel) ⟨by rw [← hR]; exact Nat.le_of_ble_eq_true rfl, by rw [← hR]; exact Nat.le_of_ble_eq_true rfl⟩) ⟨fun a U g mk q => by obtain ⟨q0, q1, q2, qK, q10, q11, q12, q13, q14⟩ := q; exact ⟨q0, q1, q2, jG.calling g mk a qK, q10, q11, q12, q13, q14⟩, hh_50.recv (C := RX0) (T := TX0) (N := 2) hB17 rfl (by decide) hg_47 hK, fun U hU hW => ⟨rfl, hU, hh_50.2.1, hG.step hW hU hh_50.1, hg_47, hgq_45_0, (hh_50.2.2.1.sub (L1 := [(r0, 17, 1, .int qc_45), (r0, 17, 0, .ref qa_45)]) [0, 1] rfl), (hh_50.2.2.2.2.2.2.2.2.sub (L1 := [(jFib, jIB dC dI ca G_45 0 (jUf ib r0 (ib r0 ++ [z_44.toInt % 256])))]) [1] rfl), (by omega), (by omega), by first | omega | (refine ⟨?_, ?_, ?_, ?_, ?_, ?_⟩ <;> (first | omega | rfl | assumption | decide | exact Or.inl rfl | exact Or.inr rfl | (simp only; omega)))⟩⟩ rfl rfl hl.1 rfl (lv_room (Nat.le_of_ble_eq_true rfl)) dX0_character_95 ⟨by rw [hRc]; omega, by rw [hRs]; omega⟩) hh_50.1 (fun q _ h => h) (fun q h => h) (fun u_54 t_54 H_54 locs_54 ht_54 hvm_54 hr_55 hb_54 hz_54 hk_54 hS_54 => ?_)
        obtain ⟨qc_54, qa_54, m_qa_54, G_54⟩ := u_54
        rw [ht_54] at hb_54
        simp only at hb_54
        obtain ⟨⟨hb_541, hb_542, hb_543, hb_544, hb_545, hb_546⟩, hgq_54_0, hN_54, hbO_54, hbE_54⟩ := hb_54
        have hW_54 := hN_54
        have hh_54 : jSt (dC, dI) B base G0 G_54 EX0_characterI s.heap ((0 + ((m_qa_45 - n_pa) / 16)) + ((m_qa_54 - m_qa_45) / 16)) ((0 + (2 * (m_qa_45 - n_pa))) + (2 * (m_qa_54 - m_qa_45))) [(r0, 17, 1, .int qc_54), (r0, 17, 0, .ref qa_54)] [] [] H_54 locs_54 := (hh_50.callG hb_541 hb_542 hb_543 hb_544 hb_545 hS_54 rfl (L1 := []) [] rfl rfl (M1 := []) [] rfl rfl (I1 := []) [] rfl rfl).more hb_546
        have hNn_54 : (jNk [0, 1, 2, 3, 4, 5, 6, 7, 8, 9, 10, 11, 12, 13, 14, 15, 16, 17, 175]) G0 G_54 := (hNn_45).tr hN_54
        have hg_56 := hb_542 _ _ hg_47
        have hh_57 := hh_54.addIs hbE_54
        have hd_58 := jOw.tr (hh_50.iv 0 rfl) hh_50.2.2.2.2.1 hbO_54
        have hh_59 := hh_57.addI (jOw.ie (dC := dC) (dI := dI) (G0 := G0) (k := 17) (r := r0) (H0 := s.heap) (F := [(17, 0), (17, 1)]) (C := RX0) (T := TX0) (N := 2) rfl (by decide) hh_57.2.2.2.2.1 (hd_58))
        clear hh_57
        try simp only at hr_55
        obtain ⟨hr_55_0, hr_55_1, hr_55_2, hr_55_3, hr_55_4, hr_55_5⟩ := hr_55
        refine lv_aload_n hx hb dX0_character_98 rfl (lv_at hl 0 rfl) ?_
        refine lv_sipush (v := 128) hx hb dX0_character_99 (by decide) ?_
        refine lv_iload_n hx hb dX0_character_102 rfl (lv_at hl 1 rfl) ?_
        refine lv_bipush (v := 63) hx hb dX0_character_103 (by decide) ?_
        refine lv_iand hx hb dX0_character_105 ?_
        refine lv_topi (fun z_60 ez_60 => ?_)
        have hz_60 : 0 ≤ z_60.toInt ∧ z_60.toInt ≤ 63 := by rw [ez_60]; exact jb_and a1 (m := 63) (k := 6) (by decide) (by decide)
        refine lv_ior hx hb dX0_character_106 ?_
        refine lv_topi (fun z_61 ez_61 => ?_)
        have hsz_62 := hh_59.2.2.2.2.2.1
        have htt_62 := hh_59.2.2.2.2.2.2.1
        refine W.room (fun hrc_62 hrs_62 => ?_)
        refine va_callv (A0 := jA base) (H0 := s.heap) (va_runV (As := [.int z_61]) (rest := []) ⟨hx, hb, hml, hown, hts⟩ (uX0_putI l dC dI ca base B hB hAp hB2 hB17 hB196 hB199 G_54 H_54 r0 z_61 qc_54 qa_54 m_qa_54 (jUf (jUf ib r0 (ib r0 ++ [z_44.toInt % 256])) r0 ((jUf ib r0 (ib r0 ++ [z_44.toInt % 256])) r0 ++ [z_53.toInt % 256])) LC LS) (cwV 1 hts (jgV (jWr_24 _ (List.mem_of_getElem? (i := 22) rfl)) (jWr_16 _ (List.mem_of_getElem? (i := 0) rfl)) (jWr_16 _ (List.mem_of_getElem? (i := 1) rfl)) (jWr_1 _ (List.mem_of_getElem? (i := 14) rfl)) (jWr_16 _ (List.mem_of_getElem? (i := 2) rfl))) rfl rfl rfl (by decide +kernel) ⟨by rw [← hR]; exact Nat.le_of_ble_eq_true rfl, by rw [← hR]; exact Nat.le_of_ble_eq_true rfl⟩) ⟨fun a U g mk q => by obtain ⟨q0, q1, q2, qK, q10, q11, q12, q13, q14⟩ := q; exact ⟨q0, q1, q2, jG.calling g mk a qK, q10, q11, q12, q13, q14⟩, hh_59.recv (C := RX0) (T := TX0) (N := 2) hB17 rfl (by decide) hg_56 hK, fun U hU hW => ⟨rfl, hU, hh_59.2.1, hG.step hW hU hh_59.1, hg_56, hgq_54_0, (hh_59.2.2.1.sub (L1 := [(r0, 17, 1, .int qc_54), (r0, 17, 0, .ref qa_54)]) [0, 1] rfl), (hh_59.2.2.2.2.2.2.2.2.sub (L1 := [(jFib, jIB dC dI ca G_54 0 (jUf (jUf ib r0 (ib r0 ++ [z_44.toInt % 256])) r0 ((jUf ib r0 (ib r0 ++ [z_44.toInt % 256])) r0 ++ [z_53.toInt % 256])))]) [1] rfl), (by omega), (by omega), by first | omega | (refine ⟨?_, ?_, ?_, ?_, ?_, ?_⟩ <;> (first | omega | rfl | assumption | decide | exact Or.inl rfl | exact Or.inr rfl | (simp only; omega)))⟩⟩ rfl rfl hl.1 rfl (lv_room (Nat.le_of_ble_eq_true rfl)) dX0_character_107 ⟨by rw [hRc]; omega, by rw [hRs]; omega⟩) hh_59.1 (fun q _ h => h) (fun q h => h) (fun u_62 t_62 H_62 locs_62 ht_62 hvm_62 hr_63 hb_62 hz_62 hk_62 hS_62 => ?_)
        obtain ⟨qc_62, qa_62, m_qa_62, G_62⟩ := u_62
        rw [ht_62] at hb_62
        simp only at hb_62
        obtain ⟨⟨hb_621, hb_622, hb_623, hb_624, hb_625, hb_626⟩, hgq_62_0, hN_62, hbO_62, hbE_62⟩ := hb_62
        have hW_62 := hN_62
        have hh_62 : jSt (dC, dI) B base G0 G_62 EX0_characterI s.heap (((0 + ((m_qa_45 - n_pa) / 16)) + ((m_qa_54 - m_qa_45) / 16)) + ((m_qa_62 - m_qa_54) / 16)) (((0 + (2 * (m_qa_45 - n_pa))) + (2 * (m_qa_54 - m_qa_45))) + (2 * (m_qa_62 - m_qa_54))) [(r0, 17, 1, .int qc_62), (r0, 17, 0, .ref qa_62)] [] [] H_62 locs_62 := (hh_59.callG hb_621 hb_622 hb_623 hb_624 hb_625 hS_62 rfl (L1 := []) [] rfl rfl (M1 := []) [] rfl rfl (I1 := []) [] rfl rfl).more hb_626
        have hNn_62 : (jNk [0, 1, 2, 3, 4, 5, 6, 7, 8, 9, 10, 11, 12, 13, 14, 15, 16, 17, 175]) G0 G_62 := (hNn_54).tr hN_62
        have hg_64 := hb_622 _ _ hg_56
        have hh_65 := hh_62.addIs hbE_62
        have hd_66 := jOw.tr (hh_59.iv 0 rfl) hh_59.2.2.2.2.1 hbO_62
        have hh_67 := hh_65.addI (jOw.ie (dC := dC) (dI := dI) (G0 := G0) (k := 17) (r := r0) (H0 := s.heap) (F := [(17, 0), (17, 1)]) (C := RX0) (T := TX0) (N := 2) rfl (by decide) hh_65.2.2.2.2.1 (hd_66))
        clear hh_65
        try simp only at hr_63
        obtain ⟨hr_63_0, hr_63_1, hr_63_2, hr_63_3, hr_63_4, hr_63_5⟩ := hr_63
        have hA_68 : (jUf (jUf (jUf ib r0 (ib r0 ++ [z_44.toInt % 256])) r0 ((jUf ib r0 (ib r0 ++ [z_44.toInt % 256])) r0 ++ [z_53.toInt % 256])) r0 ((jUf (jUf ib r0 (ib r0 ++ [z_44.toInt % 256])) r0 ((jUf ib r0 (ib r0 ++ [z_44.toInt % 256])) r0 ++ [z_53.toInt % 256])) r0 ++ [z_61.toInt % 256])) = (jUf ib r0 (ib r0 ++ jiC a1.toInt)) := (((jiP.st.tr rfl).tr rfl).tr rfl).e (jiC.k3 (by omega) (by omega) (by have h7 := jb_shr12 ez_43 (by omega); have h9 := jb_or16 ez_44 14 (by decide) (by omega) (by omega) (by omega) (by omega); omega) (by have h7 := jb_shr6 ez_51 (by omega); have h8 := jb_a63 ez_52; have h9 := jb_or64 ez_53 2 (by decide) (by omega) (by omega) (by omega) (by omega); omega) (by have h9 := jb_or64 ez_61 2 (by decide) (by omega) (by omega) (by have h8 := jb_a63 ez_60; omega) (by have h8 := jb_a63 ez_60; omega); have h8 := jb_a63 ez_60; omega))
        have hAe_68 : jIB dC dI ca G_62 0 (jUf ib r0 (ib r0 ++ jiC a1.toInt)) H_62 := by rw [← hA_68]; exact hh_67.iv 1 rfl
        have hh_69 := hh_67.sub (L1 := [(r0, 17, 1, .int qc_62), (r0, 17, 0, .ref qa_62)]) [0, 1] rfl (M1 := []) [] rfl (I1 := [([(17, 0), (17, 1)], jOw (dC, dI) G0 17 r0 s.heap)]) [0] rfl
        clear hh_67
        have hh_70 := hh_69.addI (jIB.ie hAe_68)
        clear hh_69
        have hsz_71 := hh_70.2.2.2.2.2.1
        have htt_71 := hh_70.2.2.2.2.2.2.1
        refine W.room (fun hrc_71 hrs_71 => ?_)
        refine W.widen (k := LC - s.heap.size) (n := LS - jTot s.heap) (by omega) (by omega) ?_
        rw [hQ]
        exact W.vret hx hb hr (fun t ht hW => ⟨⟨(qc_62, qa_62, m_qa_62, G_62), rfl, by (try dsimp only); exact ⟨(by first | omega | rfl | assumption | fail), (by first | omega | rfl | assumption | fail), (by first | omega | rfl | assumption | fail), (by first | omega | rfl | assumption | fail), (by first | assumption | fail | omega), (by first | omega | rfl | assumption | fail), (by first | omega | rfl | assumption | fail)⟩, ⟨hh_70.ra (by first | (simp only; omega) | omega) (by first | (simp only; omega) | omega) (M1 := [(r0, 17, 1, .int qc_62), (r0, 17, 0, .ref qa_62)]) [0, 1] rfl ht, hgq_62_0, hNn_62, by rw [ht]; exact hh_70.iv 1 rfl, by rw [ht]; exact hh_70.2.2.2.2.2.2.2.2.sub (L1 := [(jFib, jIB dC dI ca G_62 0 (jUf ib r0 (ib r0 ++ jiC a1.toInt)))]) [0] rfl⟩⟩, by rw [ht]; try exact hh_70.1.1, fun q h9 hq => by rw [ht]; try exact hh_70.1.2.1 q h9 hq⟩) hh_70.1.2.2 dX0_character_110
    · skip
      have c_3' : a1.toInt < 2048 := jb_ge_n (rfl) ((by decide)) c_3
      refine lv_aload_n hx hb dX0_character_20 rfl (lv_at hl 0 rfl) ?_
      refine lv_sipush (v := 192) hx hb dX0_character_21 (by decide) ?_
      refine lv_iload_n hx hb dX0_character_24 rfl (lv_at hl 1 rfl) ?_
      refine lv_bipush (v := 6) hx hb dX0_character_25 (by decide) ?_
      refine lv_ishr hx hb dX0_character_27 ?_
      refine lv_topi (fun z_72 ez_72 => ?_)
      have hz_72 : z_72.toInt = a1.toInt / 2 ^ 6 := by rw [ez_72]; exact jb_ishr 6 (rfl) (by decide)
      refine lv_ior hx hb dX0_character_28 ?_
      refine lv_topi (fun z_73 ez_73 => ?_)
      have hsz_74 := hh_1.2.2.2.2.2.1
      have htt_74 := hh_1.2.2.2.2.2.2.1
      refine W.room (fun hrc_74 hrs_74 => ?_)
      refine va_callv (A0 := jA base) (H0 := s.heap) (va_runV (As := [.int z_73]) (rest := []) ⟨hx, hb, hml, hown, hts⟩ (uX0_putI l dC dI ca base B hB hAp hB2 hB17 hB196 hB199 G0 s.heap r0 z_73 pc pa n_pa ib LC LS) (cwV 1 hts (jgV (jWr_24 _ (List.mem_of_getElem? (i := 22) rfl)) (jWr_16 _ (List.mem_of_getElem? (i := 0) rfl)) (jWr_16 _ (List.mem_of_getElem? (i := 1) rfl)) (jWr_1 _ (List.mem_of_getElem? (i := 14) rfl)) (jWr_16 _ (List.mem_of_getElem? (i := 2) rfl))) rfl rfl rfl (by decide +kernel) ⟨by rw [← hR]; exact Nat.le_of_ble_eq_true rfl, by rw [← hR]; exact Nat.le_of_ble_eq_true rfl⟩) ⟨fun a U g mk q => by obtain ⟨q0, q1, q2, qK, q10, q11, q12, q13, q14⟩ := q; exact ⟨q0, q1, q2, jG.calling g mk a qK, q10, q11, q12, q13, q14⟩, hh_1.recv (C := RX0) (T := TX0) (N := 2) hB17 rfl (by decide) hg_r0 hK, fun U hU hW => ⟨rfl, hU, hh_1.2.1, hG.step hW hU hh_1.1, hg_r0, hg_pa, (hh_1.2.2.1.sub (L1 := [(r0, 17, 1, .int pc), (r0, 17, 0, .ref pa)]) [0, 1] rfl), (hh_1.2.2.2.2.2.2.2.2.sub (L1 := [(jFib, jIB dC dI ca G0 0 ib)]) [1] rfl), (by omega), (by omega), by first | omega | (refine ⟨?_, ?_, ?_, ?_, ?_, ?_⟩ <;> (first | omega | rfl | assumption | decide | exact Or.inl rfl | exact Or.inr rfl | (simp only; omega)))⟩⟩ rfl rfl hl.1 rfl (lv_room (Nat.le_of_ble_eq_true rfl)) dX0_character_29 ⟨by rw [hRc]; omega, by rw [hRs]; omega⟩) hh_1.1 (fun q _ h => h) (fun q h => h) (fun u_74 t_74 H_74 locs_74 ht_74 hvm_74 hr_75 hb_74 hz_74 hk_74 hS_74 => ?_)
      obtain ⟨qc_74, qa_74, m_qa_74, G_74⟩ := u_74
      rw [ht_74] at hb_74
      simp only at hb_74
      obtain ⟨⟨hb_741, hb_742, hb_743, hb_744, hb_745, hb_746⟩, hgq_74_0, hN_74, hbO_74, hbE_74⟩ := hb_74
      have hW_74 := hN_74
      have hh_74 : jSt (dC, dI) B base G0 G_74 EX0_characterI s.heap (0 + ((m_qa_74 - n_pa) / 16)) (0 + (2 * (m_qa_74 - n_pa))) [(r0, 17, 1, .int qc_74), (r0, 17, 0, .ref qa_74)] [] [] H_74 locs_74 := (hh_1.callG hb_741 hb_742 hb_743 hb_744 hb_745 hS_74 rfl (L1 := []) [] rfl rfl (M1 := []) [] rfl rfl (I1 := []) [] rfl rfl).more hb_746
      have hNn_74 : (jNk [0, 1, 2, 3, 4, 5, 6, 7, 8, 9, 10, 11, 12, 13, 14, 15, 16, 17, 175]) G0 G_74 := (jNk.rf).tr hN_74
      have hg_76 := hb_742 _ _ hg_r0
      have hh_77 := hh_74.addIs hbE_74
      have hd_78 := jOw.tr (hh_1.iv 0 rfl) hh_1.2.2.2.2.1 hbO_74
      have hh_79 := hh_77.addI (jOw.ie (dC := dC) (dI := dI) (G0 := G0) (k := 17) (r := r0) (H0 := s.heap) (F := [(17, 0), (17, 1)]) (C := RX0) (T := TX0) (N := 2) rfl (by decide) hh_77.2.2.2.2.1 (hd_78))
      clear hh_77
      try simp only at hr_75
      obtain ⟨hr_75_0, hr_75_1, hr_75_2, hr_75_3, hr_75_4, hr_75_5⟩ := hr_75
      refine lv_goto (tgt := 98) hx hb dX0_character_32 (by decide) ?_
      refine lv_aload_n hx hb dX0_character_98 rfl (lv_at hl 0 rfl) ?_
      refine lv_sipush (v := 128) hx hb dX0_character_99 (by decide) ?_
      refine lv_iload_n hx hb dX0_character_102 rfl (lv_at hl 1 rfl) ?_
      refine lv_bipush (v := 63) hx hb dX0_character_103 (by decide) ?_
      refine lv_iand hx hb dX0_character_105 ?_
      refine lv_topi (fun z_80 ez_80 => ?_)
      have hz_80 : 0 ≤ z_80.toInt ∧ z_80.toInt ≤ 63 := by rw [ez_80]; exact jb_and a1 (m := 63) (k := 6) (by decide) (by decide)
      refine lv_ior hx hb dX0_character_106 ?_
      refine lv_topi (fun z_81 ez_81 => ?_)
      have hsz_82 := hh_79.2.2.2.2.2.1
      have htt_82 := hh_79.2.2.2.2.2.2.1
      refine W.room (fun hrc_82 hrs_82 => ?_)
      refine va_callv (A0 := jA base) (H0 := s.heap) (va_runV (As := [.int z_81]) (rest := []) ⟨hx, hb, hml, hown, hts⟩ (uX0_putI l dC dI ca base B hB hAp hB2 hB17 hB196 hB199 G_74 H_74 r0 z_81 qc_74 qa_74 m_qa_74 (jUf ib r0 (ib r0 ++ [z_73.toInt % 256])) LC LS) (cwV 1 hts (jgV (jWr_24 _ (List.mem_of_getElem? (i := 22) rfl)) (jWr_16 _ (List.mem_of_getElem? (i := 0) rfl)) (jWr_16 _ (List.mem_of_getElem? (i := 1) rfl)) (jWr_1 _ (List.mem_of_getElem? (i := 14) rfl)) (jWr_16 _ (List.mem_of_getElem? (i := 2) rfl))) rfl rfl rfl (by decide +kernel) ⟨by rw [← hR]; exact Nat.le_of_ble_eq_true rfl, by rw [← hR]; exact Nat.le_of_ble_eq_true rfl⟩) ⟨fun a U g mk q => by obtain ⟨q0, q1, q2, qK, q10, q11, q12, q13, q14⟩ := q; exact ⟨q0, q1, q2, jG.calling g mk a qK, q10, q11, q12, q13, q14⟩, hh_79.recv (C := RX0) (T := TX0) (N := 2) hB17 rfl (by decide) hg_76 hK, fun U hU hW => ⟨rfl, hU, hh_79.2.1, hG.step hW hU hh_79.1, hg_76, hgq_74_0, (hh_79.2.2.1.sub (L1 := [(r0, 17, 1, .int qc_74), (r0, 17, 0, .ref qa_74)]) [0, 1] rfl), (hh_79.2.2.2.2.2.2.2.2.sub (L1 := [(jFib, jIB dC dI ca G_74 0 (jUf ib r0 (ib r0 ++ [z_73.toInt % 256])))]) [1] rfl), (by omega), (by omega), by first | omega | (refine ⟨?_, ?_, ?_, ?_, ?_, ?_⟩ <;> (first | omega | rfl | assumption | decide | exact Or.inl rfl | exact Or.inr rfl | (simp only; omega)))⟩⟩ rfl rfl hl.1 rfl (lv_room (Nat.le_of_ble_eq_true rfl)) dX0_character_107 ⟨by rw [hRc]; omega, by rw [hRs]; omega⟩) hh_79.1 (fun q _ h => h) (fun q h => h) (fun u_82 t_82 H_82 locs_82 ht_82 hvm_82 hr_83 hb_82 hz_82 hk_82 hS_82 => ?_)
      obtain ⟨qc_82, qa_82, m_qa_82, G_82⟩ := u_82
      rw [ht_82] at hb_82
      simp only at hb_82
      obtain ⟨⟨hb_821, hb_822, hb_823, hb_824, hb_825, hb_826⟩, hgq_82_0, hN_82, hbO_82, hbE_82⟩ := hb_82
      have hW_82 := hN_82
      have hh_82 : jSt (dC, dI) B base G0 G_82 EX0_characterI s.heap ((0 + ((m_qa_74 - n_pa) / 16)) + ((m_qa_82 - m_qa_74) / 16)) ((0 + (2 * (m_qa_74 - n_pa))) + (2 * (m_qa_82 - m_qa_74))) [(r0, 17, 1, .int qc_82), (r0, 17, 0, .ref qa_82)] [] [] H_82 locs_82 := (hh_79.callG hb_821 hb_822 hb_823 hb_824 hb_825 hS_82 rfl (L1 := []) [] rfl rfl (M1 := []) [] rfl rfl (I1 := []) [] rfl rfl).more hb_826
      have hNn_82 : (jNk [0, 1, 2, 3, 4, 5, 6, 7, 8, 9, 10, 11, 12, 13, 14, 15, 16, 17, 175]) G0 G_82 := (hNn_74).tr hN_82
      have hg_84 := hb_822 _ _ hg_76
      have hh_85 := hh_82.addIs hbE_82
      have hd_86 := jOw.tr (hh_79.iv 0 rfl) hh_79.2.2.2.2.1 hbO_82
      have hh_87 := hh_85.addI (jOw.ie (dC := dC) (dI := dI) (G0 := G0) (k := 17) (r := r0) (H0 := s.heap) (F := [(17, 0), (17, 1)]) (C := RX0) (T := TX0) (N := 2) rfl (by decide) hh_85.2.2.2.2.1 (hd_86))
      clear hh_85
      try simp only at hr_83
      obtain ⟨hr_83_0, hr_83_1, hr_83_2, hr_83_3, hr_83_4, hr_83_5⟩ := hr_83
      have hA_88 : (jUf (jUf ib r0 (ib r0 ++ [z_73.toInt % 256])) r0 ((jUf ib r0 (ib r0 ++ [z_73.toInt % 256])) r0 ++ [z_81.toInt % 256])) = (jUf ib r0 (ib r0 ++ jiC a1.toInt)) := ((jiP.st.tr rfl).tr rfl).e (jiC.k2 (by omega) (by omega) (by have h7 := jb_shr6 ez_72 (by omega); have h9 := jb_or64 ez_73 3 (by decide) (by omega) (by omega) (by omega) (by omega); omega) (by have h9 := jb_or64 ez_81 2 (by decide) (by omega) (by omega) (by have h8 := jb_a63 ez_80; omega) (by have h8 := jb_a63 ez_80; omega); have h8 := jb_a63 ez_80; omega))
      have hAe_88 : jIB dC dI ca G_82 0 (jUf ib r0 (ib r0 ++ jiC a1.toInt)) H_82 := by rw [← hA_88]; exact hh_87.iv 1 rfl
      have hh_89 := hh_87.sub (L1 := [(r0, 17, 1, .int qc_82), (r0, 17, 0, .ref qa_82)]) [0, 1] rfl (M1 := []) [] rfl (I1 := [([(17, 0), (17, 1)], jOw (dC, dI) G0 17 r0 s.heap)]) [0] rfl
      clear hh_87
      have hh_90 := hh_89.addI (jIB.ie hAe_88)
      clear hh_89
      have hsz_91 := hh_90.2.2.2.2.2.1
      have htt_91 := hh_90.2.2.2.2.2.2.1
      refine W.room (fun hrc_91 hrs_91 => ?_)
      refine W.widen (k := LC - s.heap.size) (n := LS - jTot s.heap) (by omega) (by omega) ?_
      rw [hQ]
      exact W.vret hx hb hr (fun t ht hW => ⟨⟨(qc_82, qa_82, m_qa_82, G_82), rfl, by (try dsimp only); exact ⟨(by first | omega | rfl | assumption | fail), (by first | omega | rfl | assumption | fail), (by first | omega | rfl | assumption | fail), (by first | omega | rfl | assumption | fail), (by first | assumption | fail | omega), (by first | omega | rfl | assumption | fail), (by first | omega | rfl | assumption | fail)⟩, ⟨hh_90.ra (by first | (simp only; omega) | omega) (by first | (simp only; omega) | omega) (M1 := [(r0, 17, 1, .int qc_82), (r0, 17, 0, .ref qa_82)]) [0, 1] rfl ht, hgq_82_0, hNn_82, by rw [ht]; exact hh_90.iv 1 rfl, by rw [ht]; exact hh_90.2.2.2.2.2.2.2.2.sub (L1 := [(jFib, jIB dC dI ca G_82 0 (jUf ib r0 (ib r0 ++ jiC a1.toInt)))]) [0] rfl⟩⟩, by rw [ht]; try exact hh_90.1.1, fun q h9 hq => by rw [ht]; try exact hh_90.1.2.1 q h9 hq⟩) hh_90.1.2.2 dX0_character_110
  · skip
    have c_2' : a1.toInt < 128 := jb_ge_n (rfl) ((by decide)) c_2
    refine lv_aload_n hx hb dX0_character_7 rfl (lv_at hl 0 rfl) ?_
    refine lv_iload_n hx hb dX0_character_8 rfl (lv_at hl 1 rfl) ?_
    have hsz_92 := hh_1.2.2.2.2.2.1
    have htt_92 := hh_1.2.2.2.2.2.2.1
    refine W.room (fun hrc_92 hrs_92 => ?_)
    refine va_callv (A0 := jA base) (H0 := s.heap) (va_runV (As := [.int a1]) (rest := []) ⟨hx, hb, hml, hown, hts⟩ (uX0_putI l dC dI ca base B hB hAp hB2 hB17 hB196 hB199 G0 s.heap r0 a1 pc pa n_pa ib LC LS) (cwV 1 hts (jgV (jWr_24 _ (List.mem_of_getElem? (i := 22) rfl)) (jWr_16 _ (List.mem_of_getElem? (i := 0) rfl)) (jWr_16 _ (List.mem_of_getElem? (i := 1) rfl)) (jWr_1 _ (List.mem_of_getElem? (i := 14) rfl)) (jWr_16 _ (List.mem_of_getElem? (i := 2) rfl))) rfl rfl rfl (by decide +kernel) ⟨by rw [← hR]; exact Nat.le_of_ble_eq_true rfl, by rw [← hR]; exact Nat.le_of_ble_eq_true rfl⟩) ⟨fun a U g mk q => by obtain ⟨q0, q1, q2, qK, q10, q11, q12, q13, q14⟩ := q; exact ⟨q0, q1, q2, jG.calling g mk a qK, q10, q11, q12, q13, q14⟩, hh_1.recv (C := RX0) (T := TX0) (N := 2) hB17 rfl (by decide) hg_r0 hK, fun U hU hW => ⟨rfl, hU, hh_1.2.1, hG.step hW hU hh_1.1, hg_r0, hg_pa, (hh_1.2.2.1.sub (L1 := [(r0, 17, 1, .int pc), (r0, 17, 0, .ref pa)]) [0, 1] rfl), (hh_1.2.2.2.2.2.2.2.2.sub (L1 := [(jFib, jIB dC dI ca G0 0 ib)]) [1] rfl), (by omega), (by omega), by first | omega | (refine ⟨?_, ?_, ?_, ?_, ?_, ?_⟩ <;> (first | omega | rfl | assumption | decide | exact Or.inl rfl | exact Or.inr rfl | (simp only; omega)))⟩⟩ rfl rfl hl.1 rfl (lv_room (Nat.le_of_ble_eq_true rfl)) dX0_character_9 ⟨by rw [hRc]; omega, by rw [hRs]; omega⟩) hh_1.1 (fun q _ h => h) (fun q h => h) (fun u_92 t_92 H_92 locs_92 ht_92 hvm_92 hr_93 hb_92 hz_92 hk_92 hS_92 => ?_)
    obtain ⟨qc_92, qa_92, m_qa_92, G_92⟩ := u_92
    rw [ht_92] at hb_92
    simp only at hb_92
    obtain ⟨⟨hb_921, hb_922, hb_923, hb_924, hb_925, hb_926⟩, hgq_92_0, hN_92, hbO_92, hbE_92⟩ := hb_92
    have hW_92 := hN_92
    have hh_92 : jSt (dC, dI) B base G0 G_92 EX0_characterI s.heap (0 + ((m_qa_92 - n_pa) / 16)) (0 + (2 * (m_qa_92 - n_pa))) [(r0, 17, 1, .int qc_92), (r0, 17, 0, .ref qa_92)] [] [] H_92 locs_92 := (hh_1.callG hb_921 hb_922 hb_923 hb_924 hb_925 hS_92 rfl (L1 := []) [] rfl rfl (M1 := []) [] rfl rfl (I1 := []) [] rfl rfl).more hb_926
    have hNn_92 : (jNk [0, 1, 2, 3, 4, 5, 6, 7, 8, 9, 10, 11, 12, 13, 14, 15, 16, 17, 175]) G0 G_92 := (jNk.rf).tr hN_92
    have hg_94 := hb_922 _ _ hg_r0
    have hh_95 := hh_92.addIs hbE_92
    have hd_96 := jOw.tr (hh_1.iv 0 rfl) hh_1.2.2.2.2.1 hbO_92
    have hh_97 := hh_95.addI (jOw.ie (dC := dC) (dI := dI) (G0 := G0) (k := 17) (r := r0) (H0 := s.heap) (F := [(17, 0), (17, 1)]) (C := RX0) (T := TX0) (N := 2) rfl (by decide) hh_95.2.2.2.2.1 (hd_96))
    clear hh_95
    try simp only at hr_93
    obtain ⟨hr_93_0, hr_93_1, hr_93_2, hr_93_3, hr_93_4, hr_93_5⟩ := hr_93
    have hA_98 : (jUf ib r0 (ib r0 ++ [a1.toInt % 256])) = (jUf ib r0 (ib r0 ++ jiC a1.toInt)) := (jiP.st.tr rfl).e (jiC.k1 (by omega) (by omega))
    have hAe_98 : jIB dC dI ca G_92 0 (jUf ib r0 (ib r0 ++ jiC a1.toInt)) H_92 := by rw [← hA_98]; exact hh_97.iv 1 rfl
    have hh_99 := hh_97.sub (L1 := [(r0, 17, 1, .int qc_92), (r0, 17, 0, .ref qa_92)]) [0, 1] rfl (M1 := []) [] rfl (I1 := [([(17, 0), (17, 1)], jOw (dC, dI) G0 17 r0 s.heap)]) [0] rfl
    clear hh_97
    have hh_100 := hh_99.addI (jIB.ie hAe_98)
    clear hh_99
    have hsz_101 := hh_100.2.2.2.2.2.1
    have htt_101 := hh_100.2.2.2.2.2.2.1
    refine W.room (fun hrc_101 hrs_101 => ?_)
    refine W.widen (k := LC - s.heap.size) (n := LS - jTot s.heap) (by omega) (by omega) ?_
    rw [hQ]
    exact W.vret hx hb hr (fun t ht hW => ⟨⟨(qc_92, qa_92, m_qa_92, G_92), rfl, by (try dsimp only); exact ⟨(by first | omega | rfl | assumption | fail), (by first | omega | rfl | assumption | fail), (by first | omega | rfl | assumption | fail), (by first | omega | rfl | assumption | fail), (by first | assumption | fail | omega), (by first | omega | rfl | assumption | fail), (by first | omega | rfl | assumption | fail)⟩, ⟨hh_100.ra (by first | (simp only; omega) | omega) (by first | (simp only; omega) | omega) (M1 := [(r0, 17, 1, .int qc_92), (r0, 17, 0, .ref qa_92)]) [0, 1] rfl ht, hgq_92_0, hNn_92, by rw [ht]; exact hh_100.iv 1 rfl, by rw [ht]; exact hh_100.2.2.2.2.2.2.2.2.sub (L1 := [(jFib, jIB dC dI ca G_92 0 (jUf ib r0 (ib r0 ++ jiC a1.toInt)))]) [0] rfl⟩⟩, by rw [ht]; try exact hh_100.1.1, fun q h9 hq => by rw [ht]; try exact hh_100.1.2.1 q h9 hq⟩) hh_100.1.2.2 dX0_character_12
end
