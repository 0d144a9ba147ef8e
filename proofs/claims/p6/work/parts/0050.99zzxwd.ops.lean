section
-- p8: what the reference does, as the machine does it
section J88
variable {t : jDtr} {q : jXg} {fd co co1 : Nat → Option Nat} {dc : Int} {cs cl cs1 cl1 : Nat → Int32} {W : List jwA} {ol nw td x : Nat} {S : Int × (Int → jdD)} {Z : jwSt} {w L : Int} {i : Nat}
theorem jrZ.nt (h : jrZ t q fd dc co cs cl W ol nw td S Z) (hx : Value.null = jdRr fd (jwNx S Z)) : jwTk S Z w = Z := by
  unfold jwTk
  rw [if_pos]
  have h3 := h.dc3
  refine jdRr.n (c := dc) (fun i hi => h.1.2.2.1 i (by omega)) ?_ hx
  have := h.n
  rcases jwNx.rg (S := S) (Z := Z) with e | e
  · omega
  · omega
theorem jrZ.nxn (h : jrZ t q fd dc co cs cl W ol nw td S Z) (hx : Value.null = jdRr fd (jwNx S Z)) : jwNx S Z < 0 := by
  have h3 := h.dc3
  refine jdRr.n (c := dc) (fun i hi => h.1.2.2.1 i (by omega)) ?_ hx
  have := h.n
  rcases jwNx.rg (S := S) (Z := Z) with e | e
  · omega
  · omega
theorem jwTk.c {S : Int × (Int → jdD)} {Z : jwSt} {w : Int} : (jwTk S Z w).2.2.2 = Z.2.2.2 := by unfold jwTk; split <;> rfl
theorem jrZ.zn (h : jrZ t q fd dc co cs cl W ol nw td S Z) (hw0 : 0 ≤ w) (hw1 : w ≤ 1) (hx : none = co w.toNat) : Z.2.1 w = (-1, 0) := by
  have e : ((w.toNat : Nat) : Int) = w := by omega
  rcases h.2.2.2.2.2.1 w.toNat (by omega) with ⟨-, k2⟩ | ⟨d1, b, k1, k2, k3, k4, k5, k6⟩
  · rw [e] at k2; exact k2
  · rw [← hx] at k4; cases k4
theorem jrZ.dec (h : jrZ t q fd dc co cs cl W ol nw td S Z) (hw0 : 0 ≤ w) (hw1 : w ≤ 1) (hl : jUpd 2 cl cl1 w L) (hL : L = jSo cl w - 1) (hn : co w.toNat ≠ none) : jrZ t q fd dc co cs cl1 W ol nw td S (jwDc Z w) := by
  refine ⟨h.1, h.2.1, h.2.2.1, h.2.2.2.1, h.2.2.2.2.1, fun j hj => ?_, h.2.2.2.2.2.2.1, h.2.2.2.2.2.2.2⟩
  by_cases ej : (j : Int) = w
  · have e1 : w.toNat = j := by omega
    rw [e1] at hn
    rcases h.2.2.2.2.2.1 j hj with ⟨k1, k2⟩ | ⟨d1, b, k1, k2, k3, k4, k5, k6⟩
    · exact absurd k1 hn
    · refine Or.inr ⟨d1, b, k1, k2, k3, k4, k5, ?_⟩
      show jwUw Z.2.1 w ((Z.2.1 w).1, (Z.2.1 w).2 - 1) (j : Int) = _
      rw [jwUw_s ej, ← ej, k6, ej, hl.1, hL]
  · have a2 : jSo cl1 (j : Int) = jSo cl j := hl.2 j (by omega) (by omega) ej
    have e2 : (jwDc Z w).2.1 (j : Int) = Z.2.1 j := jwUw_n ej
    rcases h.2.2.2.2.2.1 j hj with ⟨k1, k2⟩ | ⟨d1, b, k1, k2, k3, k4, k5, k6⟩
    · exact Or.inl ⟨k1, e2.trans k2⟩
    · exact Or.inr ⟨d1, b, k1, k2, k3, k4, k5, (e2.trans k6).trans (by rw [a2])⟩
end J88
end
section
def EX14_takeCheckW : List (Nat × Nat) := [(15, 5), (15, 7), (15, 10), (15, 11), (15, 15), (15, 18), (15, 21), (15, 30), (15, 31), (16, 70), (105, 0), (113, 0), (115, 0), (155, 0), (156, 0), (157, 0), (166, 0), (167, 0), (207, 0), (208, 0)]
set_option maxHeartbeats 4000000 in
set_option maxRecDepth 20000 in
theorem uX14_takeCheckW (l : Launch) (dC : Nat → ClassId) (dI : Nat → Nat → Nat) (ca : Nat → ClassId) (base : Nat) (B : jF) (hB : jBok B) (hAp : jAp (dC, dI)) (hB14 : ∀ n G a H, B 14 n G a H ↔ jOb (dC, dI) 14 11 (F14 n G) a H) (hB15 : ∀ n G a H, B 15 n G a H ↔ jOb (dC, dI) 15 50 (F15 n G) a H) (hB16 : ∀ n G a H, B 16 n G a H ↔ jOb (dC, dI) 16 74 (F16 n G) a H) (hB101 : ∀ n G a H, B 101 n G a H ↔ jAr (dC, dI) (ca 1) (fun j z => True) n a H) (hB105 : ∀ n G a H, B 105 n G a H ↔ jAr (dC, dI) (ca 3) (fun j z => (z = 0 ∨ z = 1)) n a H) (hB113 : ∀ n G a H, B 113 n G a H ↔ jAr (dC, dI) (ca 1) (fun j z => True) n a H) (hB114 : ∀ n G a H, B 114 n G a H ↔ jAr (dC, dI) (ca 1) (fun j z => True) n a H) (hB115 : ∀ n G a H, B 115 n G a H ↔ jAr (dC, dI) (ca 1) (fun j z => True) n a H) (hB155 : ∀ n G a H, B 155 n G a H ↔ jAr (dC, dI) (ca 1) (fun j z => 0 ≤ z.toInt ∧ z.toInt ≤ 11990) n a H) (hB156 : ∀ n G a H, B 156 n G a H ↔ jAr (dC, dI) (ca 1) (fun j z => 0 ≤ z.toInt ∧ z.toInt ≤ 10) n a H) (hB157 : ∀ n G a H, B 157 n G a H ↔ jAr (dC, dI) (ca 1) (fun j z => 0 ≤ z.toInt ∧ z.toInt ≤ 1599) n a H) (hB166 : ∀ n G a H, B 166 n G a H ↔ jAr (dC, dI) (ca 1) (fun j z => True) n a H) (hB167 : ∀ n G a H, B 167 n G a H ↔ jAr (dC, dI) (ca 1) (fun j z => True) n a H) (hB190 : ∀ n G a H, B 190 n G a H ↔ jAr (dC, dI) (ca 1) (fun j z => 0 ≤ z.toInt ∧ z.toInt ≤ 1500) n a H) (hB191 : ∀ n G a H, B 191 n G a H ↔ jAr (dC, dI) (ca 1) (fun j z => 0 ≤ z.toInt ∧ z.toInt ≤ 1500) n a H) (hB192 : ∀ n G a H, B 192 n G a H ↔ jAr (dC, dI) (ca 1) (fun j z => 0 ≤ z.toInt ∧ z.toInt ≤ 2) n a H) (hB194 : ∀ n G a H, B 194 n G a H ↔ jAr (dC, dI) (ca 1) (fun j z => True) n a H) (hB201 : ∀ n G a H, B 201 n G a H ↔ jAq (dC, dI) (ca 4) (jQs 14 0) n G a H) (hB202 : ∀ n G a H, B 202 n G a H ↔ jAq (dC, dI) (ca 4) (jQn 14 0) n G a H) (hB205 : ∀ n G a H, B 205 n G a H ↔ jAr (dC, dI) (ca 1) (fun j z => 0 ≤ z.toInt ∧ z.toInt ≤ 1600) n a H) (hB207 : ∀ n G a H, B 207 n G a H ↔ jAr (dC, dI) (ca 1) (fun j z => 0 ≤ z.toInt ∧ z.toInt ≤ 39) n a H) (hB208 : ∀ n G a H, B 208 n G a H ↔ jAq (dC, dI) (ca 4) (jQn 14 0) n G a H) (G0 : jT) (H0 : Heap) (r0 : Nat) (a1 : Int32) (S9 : Int × (Int → jdD)) (Z9 : jwSt) : Met l yX14_takeCheck (jw yX14_takeCheck cX14_takeCheck 4 none) ({ frames := 6, cells := 0, slots := 0, locals := 136 }) (va_Pc [.ref r0, .int a1] (fun U => U.heap = H0 ∧ jX B base G0 [] H0 ∧ jG dC dI ca base U ∧ jK2 dC dI ca U ∧ G0 r0 = some (16, 0) ∧ jP (dC, dI) G0 H0 [] ∧ jIs (dC, dI) G0 H0 [(jFBZ, jBZ dC dI ca G0 r0 S9 Z9)] ∧ 0 ≤ a1.toInt ∧ a1.toInt ≤ 1)) (va_Qv (S := Unit) (fun u => True) (fun u t => (jRt (dC, dI) B base G0 EX14_takeCheckW H0 [] t.heap) ∧ jIs (dC, dI) G0 t.heap [(jFBZ, jBZ dC dI ca G0 r0 S9 (jwTk S9 Z9 a1.toInt))]) (jA base)) 0 0 (jA base) := by
  refine Met.ofW (cc := cX14_takeCheck) (maxL := 4) (ret := none) (by decide) rfl ?_
  intro p e s m args below meth c s₁ Bd hml hv
  obtain ⟨rfl, hH0, hX, hG, hK2, hg_r0, hP0, hI0, hp0, hp1⟩ := hv
  have hK := hG.1
  have hx := Bd.exec
  have hb := Bd.bytes
  have hr := Bd.returns
  have hts := atoms_spec (ws := (jw yX14_takeCheck cX14_takeCheck 4 none)) Bd.pre
  have htw : ∀ w ∈ jWl, w.before _ s = true := fun w h => hts w (List.mem_cons_of_mem _ h)
  have hown : s.vm.findClass RX14 = some m.cls := findClass_of_methodNamed Bd.named
  have hlocks := Bd.notSynchronized
  obtain ⟨Q, hQ⟩ : ∃ Q, Q = MQ below (va_Qv (S := Unit) (fun u => True) (fun u t => (jRt (dC, dI) B base G0 EX14_takeCheckW H0 [] t.heap) ∧ jIs (dC, dI) G0 t.heap [(jFBZ, jBZ dC dI ca G0 r0 S9 (jwTk S9 Z9 a1.toInt))]) (jA base)) ([.ref r0, .int a1] : List Value).toArray s 0 0 (jA base) := ⟨_, rfl⟩
  rw [← hQ]
  have hl := lv_entry ([.ref r0, .int a1]) (n := 4) (Nat.le_of_ble_eq_true rfl)
  rw [lg_entry_eq]
  generalize (lg_sl ([.ref r0, .int a1]) ++ List.replicate (4 - (lg_sl ([.ref r0, .int a1])).length) Slot.unset).toArray = ls at hl ⊢
  have hl : lv_has ls 4 [(0, .ref r0), (1, .int a1)] := hl
  generalize hR : (headSpec (jw yX14_takeCheck cX14_takeCheck 4 none) ({ frames := 6, cells := 0, slots := 0, locals := 136 })).room = R
  subst hH0
  have hh : jSt (dC, dI) B base G0 G0 EX14_takeCheckW s.heap 0 0 [] [] [(jFBZ, jBZ dC dI ca G0 r0 S9 Z9)] s.heap [] := jSt.start hX hP0 jMc.nil hI0
  clear hX hP0
  have hk0 : (0 : Int32).toInt = 0 := by decide
  have hk1 : (1 : Int32).toInt = 1 := by decide
  have hly_14_9 := htw (u_lay RX12 TX12 9) (jWc_wsX120 _ (u_in_lay (by decide)))
  have hly_16_60 := htw (u_lay RX14 TX14 60) (jWc_wsX140 _ (u_in_lay (by decide)))
  have hly_16_61 := htw (u_lay RX14 TX14 61) (jWc_wsX140 _ (u_in_lay (by decide)))
  have hly_16_62 := htw (u_lay RX14 TX14 62) (jWc_wsX140 _ (u_in_lay (by decide)))
  have hly_16_63 := htw (u_lay RX14 TX14 63) (jWc_wsX140 _ (u_in_lay (by decide)))
  have hlk_531 := (va_Nw.use (A := ([.ref r0, .int a1] : List Value).toArray) rfl (hG.2.1 RX14 531 "ProofServerModel$Document" "checked" "I" "ProofServerModel" (List.mem_of_getElem? (i := 1744) (by decide +kernel))))
  have hlk_129 := (htw (.fieldLink RX14 129 "ProofServerModel" "checkOf" "[LProofServerModel$Document;") (jWr_12 _ (List.mem_of_getElem? (i := 15) rfl)))
  have hlk_132 := (htw (.fieldLink RX14 132 "ProofServerModel" "checkSentence" "[I") (jWr_12 _ (List.mem_of_getElem? (i := 16) rfl)))
  have hlk_138 := (htw (.fieldLink RX14 138 "ProofServerModel" "checkCached" "[Z") (jWr_12 _ (List.mem_of_getElem? (i := 18) rfl)))
  have hlk_135 := (htw (.fieldLink RX14 135 "ProofServerModel" "checkLeft" "[I") (jWr_12 _ (List.mem_of_getElem? (i := 17) rfl)))
  have hrg_a1 := jb_rng a1
  obtain ⟨rt_1, fq_1, fd_1, dc_1, co_1, cs_1, cl_1, WW_1, ol_1, nw_1, td_1, hb1_1, hb2_1, hb3_1, hb4_1, hb5_1, hb6_1, hb7_1, hBz_1⟩ := hh.iv 0 rfl
  have hh_2 := hh.sub (L1 := []) [] rfl (M1 := []) [] rfl (I1 := []) [] rfl
  clear hh
  have hh_3 := hh_2.addI (jHo.ie hb7_1)
  clear hh_2
  have hh_4 := hh_3.addI (jHk.ie hb6_1)
  clear hh_3
  have hh_5 := hh_4.addI (jHw.ie hb5_1)
  clear hh_4
  have hh_6 := hh_5.addI (jHc.ie hb4_1)
  clear hh_5
  have hh_7 := hh_6.addI (jXD.ie hb3_1)
  clear hh_6
  have hh_8 := hh_7.addI (jRD.ie hb2_1)
  clear hh_7
  have hh_9 := hh_8.addI (jHd.ie hb1_1)
  clear hh_8
  have hz9 := hBz_1
  have hdc9 := hz9.dc3
  have hnn9 := hz9.n
  refine lv_aload_n hx hb dX14_takeCheck_0 rfl (lv_at hl 0 rfl) ?_
  refine j_callx (A0 := jA base) (H0 := s.heap) (va_runV (As := []) (rest := []) ⟨hx, hb, hml, hown, hts⟩ (uX14_nextDocumentT l dC dI ca base B hB hAp hB14 hB16 hB201 hB202 hB208 G0 s.heap r0 rt_1 ol_1 nw_1 td_1 S9 Z9 fq_1 fd_1 dc_1 co_1 cs_1 cl_1 WW_1) (cwV 0 hts (jgV (jWr_89 _ (List.mem_of_getElem? (i := 20) rfl)) (jWr_89 _ (List.mem_of_getElem? (i := 21) rfl)) (jWr_89 _ (List.mem_of_getElem? (i := 22) rfl)) (jWr_1 _ (List.mem_of_getElem? (i := 5) rfl)) (jWr_89 _ (List.mem_of_getElem? (i := 23) rfl))) rfl rfl rfl (by decide +kernel) ⟨by rw [← hR]; exact Nat.le_of_ble_eq_true rfl, by rw [← hR]; exact Nat.le_of_ble_eq_true rfl⟩) ⟨fun a U g mk q => by obtain ⟨q0, q1, q2, qK, q10, q11, q12, q13, q14⟩ := q; exact ⟨q0, q1, q2, jG.calling g mk a qK, (va_K.moved (Vm.Alike.refl U.vm) q10), q11, q12, q13, q14⟩, hh_9.recv (C := RX14) (T := TX14) (N := 74) hB16 rfl (by decide) hg_r0 hK, fun U hU hW => ⟨rfl, hU, hh_9.2.1, hG.step hW hU hh_9.1, va_K.moved hW.alike hK2, hg_r0, jP.nil, (hh_9.2.2.2.2.2.2.2.2.sub (L1 := [(jFxd, jXD dC dI ca G0 none fq_1), (jFHd, jHd dC dI ca G0 r0 fd_1 dc_1), (jFHc, jHc dC dI ca G0 r0 co_1 cs_1 cl_1), (jFHw, jHw dC dI ca G0 r0 WW_1)]) [2, 0, 3, 4] rfl), by first | omega | rfl | assumption | decide | exact Or.inl rfl | exact Or.inr rfl | (simp only; omega)⟩⟩ rfl rfl hl.1 rfl (lv_room (Nat.le_of_ble_eq_true rfl)) dX14_takeCheck_1 ⟨Nat.zero_le _, Nat.zero_le _⟩) hh_9.1 (fun q _ h => h) (fun q h => h) (fun r_11 u_10 t_10 H_10 locs_10 ht_10 hvm_10 hr_11 hb_10 hz_10 hk_10 hS_10 => ?_)
  rw [ht_10] at hb_10
  obtain ⟨hb_10, hbE_10⟩ := hb_10
  obtain ⟨hb_101, hb_102, hb_103, hb_104, hb_105⟩ := hb_10
  have hh_10 : jSt (dC, dI) B base G0 G0 EX14_takeCheckW s.heap 0 0 [] [] [(jFxd, jXD dC dI ca G0 none fq_1), (jFHd, jHd dC dI ca G0 r0 fd_1 dc_1), (jFHc, jHc dC dI ca G0 r0 co_1 cs_1 cl_1), (jFHw, jHw dC dI ca G0 r0 WW_1), (jFrd, jRD dC dI ca G0 none rt_1), (jFHk, jHk dC dI ca G0 r0 (Z9.2.2.2)), (jFHo, jHo dC dI ca G0 r0 ol_1 nw_1 td_1)] H_10 locs_10 := (((hh_9.call hb_101 hb_102 hb_103 hb_104 hS_10 rfl (L1 := []) [] rfl rfl (M1 := []) [] rfl rfl (I1 := [(jFrd, jRD dC dI ca G0 none rt_1), (jFHk, jHk dC dI ca G0 r0 (Z9.2.2.2)), (jFHo, jHo dC dI ca G0 r0 ol_1 nw_1 td_1)]) [1, 5, 6] rfl rfl).more hb_105)).addIs hbE_10
  clear hh_9 ht_10 hvm_10 hz_10 hk_10 hS_10 hb_101 hb_102 hb_103 hb_104 hb_105
  clear  hbE_10
  obtain ⟨hr_11, hr_11p⟩ := hr_11
  have hv1 := hr_11p
  rcases hr_11 with rfl | ⟨ret_12, rfl, hg_ret_12⟩
  · skip
    refine j7_nst_n (lv' := [(2, .null), (0, .ref r0), (1, .int a1)]) hx hb dX14_takeCheck_4 rfl hl (by decide) rfl (fun ls hl => ?_)
    refine j7_nld_n hx hb dX14_takeCheck_5 rfl (lv_at hl 0 rfl) ?_
    refine lv_ifnonnullN hx hb dX14_takeCheck_6 ?_
    have hBf_13 : jBZ dC dI ca G0 r0 S9 (jwTk S9 Z9 a1.toInt) H_10 := ⟨rt_1, fq_1, fd_1, dc_1, co_1, cs_1, cl_1, WW_1, ol_1, nw_1, td_1, hh_10.iv 1 rfl, hh_10.iv 4 rfl, hh_10.iv 0 rfl, hh_10.iv 2 rfl, hh_10.iv 3 rfl, (by rw [jwTk.c]; exact hh_10.iv 5 rfl), hh_10.iv 6 rfl, by rw [hz9.nt hv1]; exact hz9⟩
    have hh_14 := hh_10.sub (L1 := []) [] rfl (M1 := []) [] rfl (I1 := []) [] rfl
    clear hh_10
    have hh_15 := hh_14.addI (jBZ.ie hBf_13)
    clear hh_14
    rw [hQ]
    exact W.vret hx hb hr (fun t ht hW => ⟨⟨(), rfl, trivial, ⟨hh_15.rt (M1 := []) [] rfl ht, by rw [ht]; exact hh_15.2.2.2.2.2.2.2.2.sub (L1 := [(jFBZ, jBZ dC dI ca G0 r0 S9 (jwTk S9 Z9 a1.toInt))]) [0] rfl⟩⟩, by rw [ht]; try exact hh_15.1.1, fun q h9 hq => by rw [ht]; try exact hh_15.1.2.1 q h9 hq⟩) hh_15.1.2.2 dX14_takeCheck_9
  · skip
    refine lv_astore_n (lv' := [(2, .ref ret_12), (0, .ref r0), (1, .int a1)]) hx hb dX14_takeCheck_4 rfl hl (by decide) rfl (fun ls hl => ?_)
    refine lv_aload_n hx hb dX14_takeCheck_5 rfl (lv_at hl 0 rfl) ?_
    refine lv_ifnonnull (tgt := 10) hx hb dX14_takeCheck_6 (by decide) ?_
    obtain ⟨ysb_16, yse_16, ysf_16, hgsb_16, hgse_16, hgsf_16, hgP_16, hgM_16⟩ := jXD.at (ca := ca) (hh_10.iv 0 rfl) hg_ret_12 (fun q => by cases q)
    have hh_17 := ((hh_10.sub (L1 := []) [] rfl (M1 := []) [] rfl (I1 := [(jFxd, jXD dC dI ca G0 none fq_1), (jFHd, jHd dC dI ca G0 r0 fd_1 dc_1), (jFHc, jHc dC dI ca G0 r0 co_1 cs_1 cl_1), (jFHw, jHw dC dI ca G0 r0 WW_1), (jFrd, jRD dC dI ca G0 none rt_1), (jFHk, jHk dC dI ca G0 r0 (Z9.2.2.2)), (jFHo, jHo dC dI ca G0 r0 ol_1 nw_1 td_1)]) [0, 1, 2, 3, 4, 5, 6] rfl).more (hgP_16.sub (L1 := [(ret_12, 14, 6, .ref ysb_16), (ret_12, 14, 7, .ref yse_16), (ret_12, 14, 8, .ref ysf_16), (ret_12, 14, 5, .int (fq_1.sn ret_12)), (ret_12, 14, 9, .int (fq_1.ck ret_12))]) [0, 1, 2, 3, 4] rfl)).moreM hgM_16
    clear hh_10
    obtain ⟨ycs_18, ycl_18, yco_18, -, ⟨hgcs_18, hgcl_18, hgco_18⟩, hoP_18, hoM_18, hqco_18, -⟩ := hh_17.iv 2 rfl
    have hh_19 := ((hh_17.sub (L1 := [(ret_12, 14, 6, .ref ysb_16), (ret_12, 14, 7, .ref yse_16), (ret_12, 14, 8, .ref ysf_16), (ret_12, 14, 5, .int (fq_1.sn ret_12)), (ret_12, 14, 9, .int (fq_1.ck ret_12))]) [0, 1, 2, 3, 4] rfl (M1 := [(ysb_16, 190, 40, ca 1, (fq_1.sb ret_12)), (yse_16, 191, 40, ca 1, (fq_1.se ret_12)), (ysf_16, 192, 40, ca 1, (fq_1.sf ret_12))]) [0, 1, 2] rfl (I1 := [(jFxd, jXD dC dI ca G0 none fq_1), (jFHd, jHd dC dI ca G0 r0 fd_1 dc_1), (jFHw, jHw dC dI ca G0 r0 WW_1), (jFrd, jRD dC dI ca G0 none rt_1), (jFHk, jHk dC dI ca G0 r0 (Z9.2.2.2)), (jFHo, jHo dC dI ca G0 r0 ol_1 nw_1 td_1)]) [0, 1, 3, 4, 5, 6] rfl).more hoP_18).moreM hoM_18
    clear hh_17
    have hh_20 := hh_19.addI (jQc.ie hqco_18 hgco_18 (by decide) (by decide))
    clear hh_19
    obtain ⟨ut_21, uz_21, hgt_21, hgz_21, huP_21, huM_21⟩ := jRD.at (hh_20.iv 4 rfl) hg_ret_12 (fun q => by cases q)
    have hh_22 := ((hh_20.sub (L1 := [(r0, 16, 61, .ref ycs_18), (r0, 16, 62, .ref ycl_18), (r0, 16, 60, .ref yco_18), (ret_12, 14, 6, .ref ysb_16), (ret_12, 14, 7, .ref yse_16), (ret_12, 14, 8, .ref ysf_16), (ret_12, 14, 5, .int (fq_1.sn ret_12)), (ret_12, 14, 9, .int (fq_1.ck ret_12))]) [0, 1, 2, 3, 4, 5, 6, 7] rfl (M1 := [(ycs_18, 207, 2, ca 1, cs_1), (ycl_18, 115, 2, ca 1, cl_1), (ysb_16, 190, 40, ca 1, (fq_1.sb ret_12)), (yse_16, 191, 40, ca 1, (fq_1.se ret_12)), (ysf_16, 192, 40, ca 1, (fq_1.sf ret_12))]) [0, 1, 2, 3, 4] rfl (I1 := [([(208, 0)], jQc dC dI (ca 4) yco_18 2 co_1), (jFxd, jXD dC dI ca G0 none fq_1), (jFHd, jHd dC dI ca G0 r0 fd_1 dc_1), (jFHw, jHw dC dI ca G0 r0 WW_1), (jFrd, jRD dC dI ca G0 none rt_1), (jFHk, jHk dC dI ca G0 r0 (Z9.2.2.2)), (jFHo, jHo dC dI ca G0 r0 ol_1 nw_1 td_1)]) [0, 1, 2, 3, 4, 5, 6] rfl).more huP_21).moreM huM_21
    clear hh_20
    obtain ⟨hd0, hd1⟩ := jdRr.y hv1
    have hrg9 := (jwNx.rg (S := S9) (Z := Z9)).resolve_left (fun q => by omega)
    obtain ⟨-, hrb, hrc, hrd, hre⟩ := hrg9
    obtain ⟨n1, n2, n3, n4, n5, n6, n7, n8⟩ := hz9.nx (v := jwNx S9 Z9) hd0 (by omega) hd1.symm
    have hjd9 := hz9.2.2.2.2.1 (jwNx S9 Z9).toNat ret_12 (by omega) (by omega) hd1
    obtain ⟨m1, m2, m3, -, -, -⟩ := hjd9
    obtain ⟨hsr9, hs09, hs49⟩ := hz9.2.2.2.1 ret_12
    have hl09 := hz9.l0 ret_12
    have hlt9 : (fq_1.ck ret_12).toInt < (fq_1.sn ret_12).toInt := by omega
    obtain ⟨t1, t2, t3⟩ := m2 (fq_1.ck ret_12).toInt.toNat (by omega)
    have t4 := m3 (fq_1.ck ret_12).toInt.toNat (by omega)
    have ec9 : (((fq_1.ck ret_12).toInt.toNat : Nat) : Int) = (fq_1.ck ret_12).toInt := by omega
    rw [ec9] at t1 t2 t4
    refine lv_aload_n hx hb dX14_takeCheck_10 rfl (lv_at hl 0 rfl) ?_
    refine j7_readN hx hb hown hK (C := RX12) (T := TX12) (N := 11) rfl hly_14_9 hlk_531 (hh_22.at 12 rfl) dX14_takeCheck_11 ?_
    refine lv_istore_n (lv' := [(3, .int (fq_1.ck ret_12)), (2, .ref ret_12), (0, .ref r0), (1, .int a1)]) hx hb dX14_takeCheck_14 rfl hl (by decide) rfl (fun ls hl => ?_)
    refine lv_aload_n hx hb dX14_takeCheck_15 rfl (lv_at hl 2 rfl) ?_
    refine j7_read hx hb hown hK (C := RX14) (T := TX14) (N := 74) rfl hly_16_60 hlk_129 (hh_22.at 7 rfl) dX14_takeCheck_16 ?_
    refine lv_iload_n hx hb dX14_takeCheck_19 rfl (lv_at hl 3 rfl) ?_
    refine lv_aload_n hx hb dX14_takeCheck_20 rfl (lv_at hl 1 rfl) ?_
    have hd_24 := hh_22.iv 0 rfl
    have hh_26 := hh_22.sub (L1 := [(ret_12, 14, 3, .ref ut_21), (ret_12, 14, 0, .ref uz_21), (ret_12, 14, 2, .int (rt_1.ve ret_12)), (ret_12, 14, 4, .int (rt_1.ln ret_12)), (ret_12, 14, 1, .int (rt_1.ul ret_12)), (r0, 16, 61, .ref ycs_18), (r0, 16, 62, .ref ycl_18), (r0, 16, 60, .ref yco_18), (ret_12, 14, 6, .ref ysb_16), (ret_12, 14, 7, .ref yse_16), (ret_12, 14, 8, .ref ysf_16), (ret_12, 14, 5, .int (fq_1.sn ret_12)), (ret_12, 14, 9, .int (fq_1.ck ret_12))]) [0, 1, 2, 3, 4, 5, 6, 7, 8, 9, 10, 11, 12] rfl (M1 := [(ut_21, 194, 1500, ca 1, (rt_1.tx ret_12)), (uz_21, 195, 40, ca 1, (rt_1.ux ret_12)), (ycs_18, 207, 2, ca 1, cs_1), (ycl_18, 115, 2, ca 1, cl_1), (ysb_16, 190, 40, ca 1, (fq_1.sb ret_12)), (yse_16, 191, 40, ca 1, (fq_1.se ret_12)), (ysf_16, 192, 40, ca 1, (fq_1.sf ret_12))]) [0, 1, 2, 3, 4, 5, 6] rfl (I1 := [(jFxd, jXD dC dI ca G0 none fq_1), (jFHd, jHd dC dI ca G0 r0 fd_1 dc_1), (jFHw, jHw dC dI ca G0 r0 WW_1), (jFrd, jRD dC dI ca G0 none rt_1), (jFHk, jHk dC dI ca G0 r0 (Z9.2.2.2)), (jFHo, jHo dC dI ca G0 r0 ol_1 nw_1 td_1)]) [1, 2, 3, 4, 5, 6] rfl
    clear hh_22
    refine j7_qastI hx hb hK2 hh_26 hB hB208 0 rfl (by decide) (by decide) rfl rfl rfl hgco_18 (x := a1.toInt) (rfl) (by omega) hB14 (T := TX12) (N := 11) rfl (by decide) hg_ret_12 (Or.inr ⟨_, rfl, hg_ret_12⟩) hd_24 dX14_takeCheck_21 (fun H_23 locs_23 fq_25 hv_23 ho_23 hq_23 hh_23 => ?_)
    clear hh_26
    have hh_27 := hh_23.addI (hq_23.ie hgco_18 (by decide) (by decide))
    clear hh_23
    clear hd_24
    refine lv_aload_n hx hb dX14_takeCheck_22 rfl (lv_at hl 2 rfl) ?_
    refine j7_read hx hb hown hK (C := RX14) (T := TX14) (N := 74) rfl hly_16_61 hlk_132 (hh_27.at 5 rfl) dX14_takeCheck_23 ?_
    refine lv_iload_n hx hb dX14_takeCheck_26 rfl (lv_at hl 3 rfl) ?_
    refine lv_iload_n hx hb dX14_takeCheck_27 rfl (lv_at hl 0 rfl) ?_
    refine j7_iastU hx hb hK hh_27 hB hB207 1 rfl (by decide) (by decide) rfl 2 rfl (M1 := [(ut_21, 194, 1500, ca 1, (rt_1.tx ret_12)), (uz_21, 195, 40, ca 1, (rt_1.ux ret_12)), (ycl_18, 115, 2, ca 1, cl_1), (ysb_16, 190, 40, ca 1, (fq_1.sb ret_12)), (yse_16, 191, 40, ca 1, (fq_1.se ret_12)), (ysf_16, 192, 40, ca 1, (fq_1.sf ret_12))]) [0, 1, 3, 4, 5, 6] rfl rfl rfl hgcs_18 (x := a1.toInt) (rfl) (by omega) (by first | omega | (refine ⟨?_, ?_⟩ <;> (first | omega | rfl | assumption | decide | exact Or.inl rfl | exact Or.inr rfl | (simp only; omega)))) dX14_takeCheck_28 (fun H_28 locs_28 fs_29 hv_28 ho_28 hh_28 => ?_)
    have hv_28 : jSo fs_29 (a1.toInt) = (fq_1.ck ret_12).toInt := by unfold jSo; rw [hv_28]; try exact rfl
    clear hh_27
    refine lv_aload_n hx hb dX14_takeCheck_29 rfl (lv_at hl 2 rfl) ?_
    refine lv_aload_n hx hb dX14_takeCheck_30 rfl (lv_at hl 1 rfl) ?_
    refine lv_iload_n hx hb dX14_takeCheck_31 rfl (lv_at hl 0 rfl) ?_
    obtain ⟨v_32, hv_32, hh_33⟩ := hh_28.pin (C := RX14) (T := TX14) (N := 74) hB16 rfl (by decide) hg_r0 (i := 69) (by decide) rfl
    obtain ⟨row_34, rfl, hg_row_34⟩ := hv_32
    obtain ⟨f_fr_35, hh_35⟩ := hh_33.cpin hB113 (by decide) (by decide) hg_row_34
    clear hh_33
    refine va_callv (A0 := jA base) (H0 := s.heap) (va_runV (As := [.ref ret_12, .int (fq_1.ck ret_12)]) (rest := []) ⟨hx, hb, hml, hown, hts⟩ (uX14_takeRowT l dC dI ca base B hB hAp hB14 hB16 hB113 hB190 hB191 hB194 G0 H_28 r0 ret_12 (fq_1.ck ret_12) ysb_16 yse_16 ut_21 row_34 (fq_1.sn ret_12).toInt (rt_1.ln ret_12).toInt (fq_1.sb ret_12) (fq_1.se ret_12) (rt_1.tx ret_12) f_fr_35) (cwV 2 hts (jgV (jWr_90 _ (List.mem_of_getElem? (i := 13) rfl)) (jWr_90 _ (List.mem_of_getElem? (i := 14) rfl)) (jWr_90 _ (List.mem_of_getElem? (i := 15) rfl)) (jWr_1 _ (List.mem_of_getElem? (i := 5) rfl)) (jWr_90 _ (List.mem_of_getElem? (i := 16) rfl))) rfl rfl rfl (by decide +kernel) ⟨by rw [← hR]; exact Nat.le_of_ble_eq_true rfl, by rw [← hR]; exact Nat.le_of_ble_eq_true rfl⟩) ⟨fun a U g mk q => by obtain ⟨q0, q1, q2, qK, q10, q11, q12, q13, q14, q15, q16, q17, q18⟩ := q; exact ⟨q0, q1, q2, jG.calling g mk a qK, q10, q11, q12, q13, q14, q15, q16, q17, q18⟩, hh_35.recv (C := RX14) (T := TX14) (N := 74) hB16 rfl (by decide) hg_r0 hK, fun U hU hW => ⟨rfl, hU, hh_35.2.1, hG.step hW hU hh_35.1, hg_ret_12, hg_r0, hgsb_16, hgse_16, hgt_21, hg_row_34, (hh_35.2.2.1.sub (L1 := [(ret_12, 14, 6, .ref ysb_16), (ret_12, 14, 7, .ref yse_16), (ret_12, 14, 3, .ref ut_21), (r0, 16, 69, .ref row_34)]) [9, 10, 1, 0] rfl), (hh_35.2.2.2.2.2.2.2.1.sub (L1 := [(ysb_16, 190, 40, ca 1, (fq_1.sb ret_12)), (yse_16, 191, 40, ca 1, (fq_1.se ret_12)), (ut_21, 194, 1500, ca 1, (rt_1.tx ret_12)), (row_34, 113, 1600, ca 1, f_fr_35)]) [5, 6, 2, 0] rfl), ⟨(by first | assumption | exact hsr9 | exact m2 | omega), (by first | omega | rfl | assumption | exact hsr9 | exact m2), (by first | omega | rfl | assumption | exact hsr9 | exact m2), (by first | omega | rfl | assumption | exact hsr9 | exact m2), (by first | assumption | exact hsr9 | exact m2 | omega), (by first | omega | rfl | assumption | exact hsr9 | exact m2), (by first | omega | rfl | assumption | exact hsr9 | exact m2)⟩⟩⟩ rfl rfl hl.1 rfl (lv_room (Nat.le_of_ble_eq_true rfl)) dX14_takeCheck_32 ⟨Nat.zero_le _, Nat.zero_le _⟩) hh_35.1 (fun q _ h => h) (fun q h => h) (fun u_30 t_30 H_30 locs_30 ht_30 hvm_30 hr_31 hb_30 hz_30 hk_30 hS_30 => ?_)
    obtain ⟨ql_30, gr_30⟩ := u_30
    rw [ht_30] at hb_30
    obtain ⟨⟨hb_301, hb_302, hb_303, hb_304, hb_305⟩, hb_306⟩ := hb_30
    have hh_30 : jSt (dC, dI) B base G0 G0 EX14_takeCheckW s.heap 0 0 [(r0, 16, 70, .int ql_30), (r0, 16, 69, .ref row_34), (ret_12, 14, 3, .ref ut_21), (ret_12, 14, 0, .ref uz_21), (ret_12, 14, 2, .int (rt_1.ve ret_12)), (ret_12, 14, 4, .int (rt_1.ln ret_12)), (ret_12, 14, 1, .int (rt_1.ul ret_12)), (r0, 16, 61, .ref ycs_18), (r0, 16, 62, .ref ycl_18), (r0, 16, 60, .ref yco_18), (ret_12, 14, 6, .ref ysb_16), (ret_12, 14, 7, .ref yse_16), (ret_12, 14, 8, .ref ysf_16), (ret_12, 14, 5, .int (fq_1.sn ret_12)), (ret_12, 14, 9, .int (fq_1.ck ret_12))] [(row_34, 113, 1600, ca 1, gr_30), (ycs_18, 207, 2, ca 1, fs_29), (ut_21, 194, 1500, ca 1, (rt_1.tx ret_12)), (uz_21, 195, 40, ca 1, (rt_1.ux ret_12)), (ycl_18, 115, 2, ca 1, cl_1), (ysb_16, 190, 40, ca 1, (fq_1.sb ret_12)), (yse_16, 191, 40, ca 1, (fq_1.se ret_12)), (ysf_16, 192, 40, ca 1, (fq_1.sf ret_12))] [([(208, 0)], jQc dC dI (ca 4) yco_18 2 fq_25), (jFxd, jXD dC dI ca G0 none fq_1), (jFHd, jHd dC dI ca G0 r0 fd_1 dc_1), (jFHw, jHw dC dI ca G0 r0 WW_1), (jFrd, jRD dC dI ca G0 none rt_1), (jFHk, jHk dC dI ca G0 r0 (Z9.2.2.2)), (jFHo, jHo dC dI ca G0 r0 ol_1 nw_1 td_1)] H_30 locs_30 := ((hh_35.call hb_301 hb_302 hb_303 hb_304 hS_30 rfl (L1 := [(r0, 16, 69, .ref row_34), (ret_12, 14, 3, .ref ut_21), (ret_12, 14, 0, .ref uz_21), (ret_12, 14, 2, .int (rt_1.ve ret_12)), (ret_12, 14, 4, .int (rt_1.ln ret_12)), (ret_12, 14, 1, .int (rt_1.ul ret_12)), (r0, 16, 61, .ref ycs_18), (r0, 16, 62, .ref ycl_18), (r0, 16, 60, .ref yco_18), (ret_12, 14, 6, .ref ysb_16), (ret_12, 14, 7, .ref yse_16), (ret_12, 14, 8, .ref ysf_16), (ret_12, 14, 5, .int (fq_1.sn ret_12)), (ret_12, 14, 9, .int (fq_1.ck ret_12))]) [0, 1, 2, 3, 4, 5, 6, 7, 8, 9, 10, 11, 12, 13] rfl rfl (M1 := [(ycs_18, 207, 2, ca 1, fs_29), (ut_21, 194, 1500, ca 1, (rt_1.tx ret_12)), (uz_21, 195, 40, ca 1, (rt_1.ux ret_12)), (ycl_18, 115, 2, ca 1, cl_1), (ysb_16, 190, 40, ca 1, (fq_1.sb ret_12)), (yse_16, 191, 40, ca 1, (fq_1.se ret_12)), (ysf_16, 192, 40, ca 1, (fq_1.sf ret_12))]) [1, 2, 3, 4, 5, 6, 7] rfl rfl (I1 := [([(208, 0)], jQc dC dI (ca 4) yco_18 2 fq_25), (jFxd, jXD dC dI ca G0 none fq_1), (jFHd, jHd dC dI ca G0 r0 fd_1 dc_1), (jFHw, jHw dC dI ca G0 r0 WW_1), (jFrd, jRD dC dI ca G0 none rt_1), (jFHk, jHk dC dI ca G0 r0 (Z9.2.2.2)), (jFHo, jHo dC dI ca G0 r0 ol_1 nw_1 td_1)]) [0, 1, 2, 3, 4, 5, 6] rfl rfl).more hb_305).moreM hb_306
    clear hh_35 ht_30 hvm_30 hz_30 hk_30 hS_30 hb_301 hb_302 hb_303 hb_304 hb_305
    clear hb_306
    try simp only at hr_31
    obtain ⟨hr_31_0, hr_31_1, hr_31_2⟩ := hr_31
    obtain ⟨ycu_36, yce_36, cn_36, cu_36, ce_36, -, ⟨hgcu_36, hgce_36⟩, hoP_36, hoM_36, -, hoR_36⟩ := hh_30.iv 5 rfl
    have hh_37 := ((hh_30.sub (L1 := [(r0, 16, 70, .int ql_30), (r0, 16, 69, .ref row_34), (ret_12, 14, 3, .ref ut_21), (ret_12, 14, 0, .ref uz_21), (ret_12, 14, 2, .int (rt_1.ve ret_12)), (ret_12, 14, 4, .int (rt_1.ln ret_12)), (ret_12, 14, 1, .int (rt_1.ul ret_12)), (r0, 16, 61, .ref ycs_18), (r0, 16, 62, .ref ycl_18), (r0, 16, 60, .ref yco_18), (ret_12, 14, 6, .ref ysb_16), (ret_12, 14, 7, .ref yse_16), (ret_12, 14, 8, .ref ysf_16), (ret_12, 14, 5, .int (fq_1.sn ret_12)), (ret_12, 14, 9, .int (fq_1.ck ret_12))]) [0, 1, 2, 3, 4, 5, 6, 7, 8, 9, 10, 11, 12, 13, 14] rfl (M1 := [(row_34, 113, 1600, ca 1, gr_30), (ycs_18, 207, 2, ca 1, fs_29), (ut_21, 194, 1500, ca 1, (rt_1.tx ret_12)), (uz_21, 195, 40, ca 1, (rt_1.ux ret_12)), (ycl_18, 115, 2, ca 1, cl_1), (ysb_16, 190, 40, ca 1, (fq_1.sb ret_12)), (yse_16, 191, 40, ca 1, (fq_1.se ret_12)), (ysf_16, 192, 40, ca 1, (fq_1.sf ret_12))]) [0, 1, 2, 3, 4, 5, 6, 7] rfl (I1 := [([(208, 0)], jQc dC dI (ca 4) yco_18 2 fq_25), (jFxd, jXD dC dI ca G0 none fq_1), (jFHd, jHd dC dI ca G0 r0 fd_1 dc_1), (jFHw, jHw dC dI ca G0 r0 WW_1), (jFrd, jRD dC dI ca G0 none rt_1), (jFHo, jHo dC dI ca G0 r0 ol_1 nw_1 td_1)]) [0, 1, 2, 3, 4, 6] rfl).more hoP_36).moreM hoM_36
    clear hh_30
    obtain ⟨hk1_, hk2_, hk3_⟩ := id hoR_36
    have hrow9 : (jcR (rt_1.tx ret_12) (rt_1.ln ret_12).toInt ((fq_1.ck ret_12).toInt + 1).toNat) = jwR S9 (jwNx S9 Z9) (Z9.1 (jwNx S9 Z9) + 1) := by have h9 := hz9.rw (d := (jwNx S9 Z9).toNat) (by omega) hd1 (Z9.1 (jwNx S9 Z9) + 1); rw [show (((jwNx S9 Z9).toNat : Nat) : Int) = jwNx S9 Z9 by omega, n2] at h9; rw [n2]; exact h9.symm
    have hcst9 : jcC (rt_1.tx ret_12) (rt_1.ln ret_12).toInt (fq_1.ck ret_12).toInt.toNat = jwC S9 (jwNx S9 Z9) (Z9.1 (jwNx S9 Z9)) := by have h9 := hz9.cst (d := (jwNx S9 Z9).toNat) (by omega) hd1 (Z9.1 (jwNx S9 Z9)); rw [show (((jwNx S9 Z9).toNat : Nat) : Int) = jwNx S9 Z9 by omega, n2] at h9; rw [n2]; exact h9.symm
    obtain ⟨v_38, hv_38, hh_39⟩ := hh_37.pin (C := RX14) (T := TX14) (N := 74) hB16 rfl (by decide) hg_r0 (i := 63) (by decide) rfl
    obtain ⟨checkCached_40, rfl, hg_checkCached_40⟩ := hv_38
    obtain ⟨f_checkCached_41, hh_41⟩ := hh_39.cpin hB105 (by decide) (by decide) hg_checkCached_40
    clear hh_39
    refine lv_aload_n hx hb dX14_takeCheck_35 rfl (lv_at hl 2 rfl) ?_
    refine j7_read hx hb hown hK (C := RX14) (T := TX14) (N := 74) rfl hly_16_63 hlk_138 (hh_41.at 0 rfl) dX14_takeCheck_36 ?_
    refine lv_iload_n hx hb dX14_takeCheck_39 rfl (lv_at hl 3 rfl) ?_
    refine lv_aload_n hx hb dX14_takeCheck_40 rfl (lv_at hl 2 rfl) ?_
    refine va_calli (A0 := jA base) (H0 := s.heap) (va_runV (As := []) (rest := [.int a1, .ref checkCached_40]) ⟨hx, hb, hml, hown, hts⟩ (uX14_inCacheT l dC dI ca base B hB hAp hB16 hB113 hB114 hB205 G0 H_30 r0 cn_36 ql_30 row_34 ycu_36 yce_36 (Z9.2.2.2) (jcR (rt_1.tx ret_12) (rt_1.ln ret_12).toInt ((fq_1.ck ret_12).toInt + 1).toNat) gr_30 cu_36 ce_36) (cwV 0 hts (jgV (jWr_90 _ (List.mem_of_getElem? (i := 18) rfl)) (jWr_90 _ (List.mem_of_getElem? (i := 19) rfl)) (jWr_90 _ (List.mem_of_getElem? (i := 20) rfl)) (jWr_1 _ (List.mem_of_getElem? (i := 5) rfl)) (jWr_90 _ (List.mem_of_getElem? (i := 21) rfl))) rfl rfl rfl (by decide +kernel) ⟨by rw [← hR]; exact Nat.le_of_ble_eq_true rfl, by rw [← hR]; exact Nat.le_of_ble_eq_true rfl⟩) ⟨fun a U g mk q => by obtain ⟨q0, q1, q2, qK, q10, q11, q12, q13, q14, q15, q16⟩ := q; exact ⟨q0, q1, q2, jG.calling g mk a qK, q10, q11, q12, q13, q14, q15, q16⟩, hh_41.recv (C := RX14) (T := TX14) (N := 74) hB16 rfl (by decide) hg_r0 hK, fun U hU hW => ⟨rfl, hU, hh_41.2.1, hG.step hW hU hh_41.1, hg_r0, hg_row_34, hgcu_36, hgce_36, (hh_41.2.2.1.sub (L1 := [(r0, 16, 66, .int cn_36), (r0, 16, 70, .int ql_30), (r0, 16, 69, .ref row_34), (r0, 16, 67, .ref ycu_36), (r0, 16, 68, .ref yce_36)]) [3, 4, 5, 1, 2] rfl), (hh_41.2.2.2.2.2.2.2.1.sub (L1 := [(row_34, 113, 1600, ca 1, gr_30), (ycu_36, 114, 38400, ca 1, cu_36), (yce_36, 205, 24, ca 1, ce_36)]) [3, 1, 2] rfl), ⟨(by first | omega | rfl | assumption | exact hk3_ | exact hr_31_2), (by first | omega | rfl | assumption | exact hk3_ | exact hr_31_2), (by first | omega | rfl | assumption | exact hk3_ | exact hr_31_2), (by first | omega | rfl | assumption | exact hk3_ | exact hr_31_2), (by first | omega | rfl | assumption | exact hk3_ | exact hr_31_2), (by first | assumption | exact hk3_ | exact hr_31_2 | omega), (by first | assumption | exact hk3_ | exact hr_31_2 | omega)⟩⟩⟩ rfl rfl hl.1 rfl (lv_room (Nat.le_of_ble_eq_true rfl)) dX14_takeCheck_41 ⟨Nat.zero_le _, Nat.zero_le _⟩) hh_41.1 (fun q _ h => h) (fun q h => h) (fun r_43 u_42 t_42 H_42 locs_42 ht_42 hvm_42 hr_43 hb_42 hz_42 hk_42 hS_42 => ?_)
    rw [ht_42] at hb_42
    obtain ⟨hb_421, hb_422, hb_423, hb_424, hb_425⟩ := hb_42
    have hh_42 : jSt (dC, dI) B base G0 G0 EX14_takeCheckW s.heap 0 0 [(r0, 16, 63, .ref checkCached_40), (r0, 16, 67, .ref ycu_36), (r0, 16, 68, .ref yce_36), (r0, 16, 66, .int cn_36), (r0, 16, 70, .int ql_30), (r0, 16, 69, .ref row_34), (ret_12, 14, 3, .ref ut_21), (ret_12, 14, 0, .ref uz_21), (ret_12, 14, 2, .int (rt_1.ve ret_12)), (ret_12, 14, 4, .int (rt_1.ln ret_12)), (ret_12, 14, 1, .int (rt_1.ul ret_12)), (r0, 16, 61, .ref ycs_18), (r0, 16, 62, .ref ycl_18), (r0, 16, 60, .ref yco_18), (ret_12, 14, 6, .ref ysb_16), (ret_12, 14, 7, .ref yse_16), (ret_12, 14, 8, .ref ysf_16), (ret_12, 14, 5, .int (fq_1.sn ret_12)), (ret_12, 14, 9, .int (fq_1.ck ret_12))] [(checkCached_40, 105, 2, ca 3, f_checkCached_41), (ycu_36, 114, 38400, ca 1, cu_36), (yce_36, 205, 24, ca 1, ce_36), (row_34, 113, 1600, ca 1, gr_30), (ycs_18, 207, 2, ca 1, fs_29), (ut_21, 194, 1500, ca 1, (rt_1.tx ret_12)), (uz_21, 195, 40, ca 1, (rt_1.ux ret_12)), (ycl_18, 115, 2, ca 1, cl_1), (ysb_16, 190, 40, ca 1, (fq_1.sb ret_12)), (yse_16, 191, 40, ca 1, (fq_1.se ret_12)), (ysf_16, 192, 40, ca 1, (fq_1.sf ret_12))] [([(208, 0)], jQc dC dI (ca 4) yco_18 2 fq_25), (jFxd, jXD dC dI ca G0 none fq_1), (jFHd, jHd dC dI ca G0 r0 fd_1 dc_1), (jFHw, jHw dC dI ca G0 r0 WW_1), (jFrd, jRD dC dI ca G0 none rt_1), (jFHo, jHo dC dI ca G0 r0 ol_1 nw_1 td_1)] H_42 locs_42 := ((hh_41.call hb_421 hb_422 hb_423 hb_424 hS_42 rfl (L1 := [(r0, 16, 63, .ref checkCached_40), (r0, 16, 67, .ref ycu_36), (r0, 16, 68, .ref yce_36), (r0, 16, 66, .int cn_36), (r0, 16, 70, .int ql_30), (r0, 16, 69, .ref row_34), (ret_12, 14, 3, .ref ut_21), (ret_12, 14, 0, .ref uz_21), (ret_12, 14, 2, .int (rt_1.ve ret_12)), (ret_12, 14, 4, .int (rt_1.ln ret_12)), (ret_12, 14, 1, .int (rt_1.ul ret_12)), (r0, 16, 61, .ref ycs_18), (r0, 16, 62, .ref ycl_18), (r0, 16, 60, .ref yco_18), (ret_12, 14, 6, .ref ysb_16), (ret_12, 14, 7, .ref yse_16), (ret_12, 14, 8, .ref ysf_16), (ret_12, 14, 5, .int (fq_1.sn ret_12)), (ret_12, 14, 9, .int (fq_1.ck ret_12))]) [0, 1, 2, 3, 4, 5, 6, 7, 8, 9, 10, 11, 12, 13, 14, 15, 16, 17, 18] rfl rfl (M1 := [(checkCached_40, 105, 2, ca 3, f_checkCached_41), (ycu_36, 114, 38400, ca 1, cu_36), (yce_36, 205, 24, ca 1, ce_36), (row_34, 113, 1600, ca 1, gr_30), (ycs_18, 207, 2, ca 1, fs_29), (ut_21, 194, 1500, ca 1, (rt_1.tx ret_12)), (uz_21, 195, 40, ca 1, (rt_1.ux ret_12)), (ycl_18, 115, 2, ca 1, cl_1), (ysb_16, 190, 40, ca 1, (fq_1.sb ret_12)), (yse_16, 191, 40, ca 1, (fq_1.se ret_12)), (ysf_16, 192, 40, ca 1, (fq_1.sf ret_12))]) [0, 1, 2, 3, 4, 5, 6, 7, 8, 9, 10] rfl rfl (I1 := [([(208, 0)], jQc dC dI (ca 4) yco_18 2 fq_25), (jFxd, jXD dC dI ca G0 none fq_1), (jFHd, jHd dC dI ca G0 r0 fd_1 dc_1), (jFHw, jHw dC dI ca G0 r0 WW_1), (jFrd, jRD dC dI ca G0 none rt_1), (jFHo, jHo dC dI ca G0 r0 ol_1 nw_1 td_1)]) [0, 1, 2, 3, 4, 5] rfl rfl).more hb_425)
    clear hh_41 ht_42 hvm_42 hz_42 hk_42 hS_42 hb_421 hb_422 hb_423 hb_424 hb_425
    have hix9 := hr_43
    have hHf_44 : jHk dC dI ca G0 r0 (Z9.2.2.2) H_42 := ⟨ycu_36, yce_36, cn_36, cu_36, ce_36, ⟨_, hg_r0⟩, ⟨hgcu_36, hgce_36⟩, hh_42.2.2.1.sub (L1 := [(r0, 16, 67, .ref ycu_36), (r0, 16, 68, .ref yce_36), (r0, 16, 66, .int cn_36)]) [1, 2, 3] rfl, hh_42.2.2.2.2.2.2.2.1.sub (L1 := [(ycu_36, 114, 38400, ca 1, cu_36), (yce_36, 205, 24, ca 1, ce_36)]) [1, 2] rfl, trivial, hoR_36⟩
    have hh_45 := hh_42.addI (jHk.ie hHf_44)
    clear hh_42
    refine lv_if_lt (tgt := 51) hx hb dX14_takeCheck_44 (by decide) (fun c_46 => ?_) (fun c_46 => ?_)
    · skip
      have c_46' : r_43.toInt < 0 := jb_lt (rfl) ((by decide)) c_46
      refine lv_iconst (v := 0) hx hb dX14_takeCheck_51 (by decide) ?_
      refine j7_zastU hx hb hK hh_45 hB hB105 3 rfl (by decide) (by decide) rfl 0 rfl (M1 := [(ycu_36, 114, 38400, ca 1, cu_36), (yce_36, 205, 24, ca 1, ce_36), (row_34, 113, 1600, ca 1, gr_30), (ycs_18, 207, 2, ca 1, fs_29), (ut_21, 194, 1500, ca 1, (rt_1.tx ret_12)), (uz_21, 195, 40, ca 1, (rt_1.ux ret_12)), (ycl_18, 115, 2, ca 1, cl_1), (ysb_16, 190, 40, ca 1, (fq_1.sb ret_12)), (yse_16, 191, 40, ca 1, (fq_1.se ret_12)), (ysf_16, 192, 40, ca 1, (fq_1.sf ret_12))]) [1, 2, 3, 4, 5, 6, 7, 8, 9, 10] rfl rfl rfl hg_checkCached_40 (x := a1.toInt) (rfl) (by omega) (Or.inl rfl) (Or.inl rfl) dX14_takeCheck_52 (fun H_47 locs_47 fs_48 hv_47 ho_47 hh_47 => ?_)
      have hv_47 : jSo fs_48 (a1.toInt) = (0 : Int32).toInt := by unfold jSo; rw [hv_47]
      clear hh_45
      refine lv_aload_n hx hb dX14_takeCheck_53 rfl (lv_at hl 2 rfl) ?_
      refine j7_read hx hb hown hK (C := RX14) (T := TX14) (N := 74) rfl hly_16_62 hlk_135 (hh_47.at 12 rfl) dX14_takeCheck_54 ?_
      refine lv_iload_n hx hb dX14_takeCheck_57 rfl (lv_at hl 3 rfl) ?_
      refine lv_aload_n hx hb dX14_takeCheck_58 rfl (lv_at hl 2 rfl) ?_
      refine j7_read hx hb hown hK (C := RX14) (T := TX14) (N := 74) rfl hly_16_63 hlk_138 (hh_47.at 0 rfl) dX14_takeCheck_59 ?_
      refine lv_iload_n hx hb dX14_takeCheck_62 rfl (lv_at hl 3 rfl) ?_
      refine j7_zaldM hx hb hK hh_47 hB105 3 rfl (by decide) hg_checkCached_40 (x := a1.toInt) (rfl) (by omega) (j := 0) rfl dX14_takeCheck_63 (fun z_49 ez_49 (hz_49 : (z_49 = 0 ∨ z_49 = 1)) => ?_)
      have hqz_49 : z_49.toInt = jSo fs_48 (a1.toInt) := by unfold jSo; rw [ez_49]
      have hz_49' := jb_01 hz_49
      refine lv_if_eq (tgt := 71) hx hb dX14_takeCheck_64 (by decide) (fun c_50 => ?_) (fun c_50 => ?_)
      · skip
        have c_50' : z_49.toInt = 0 := jb_eq (rfl) ((by decide)) c_50
        refine lv_aload_n hx hb dX14_takeCheck_71 rfl (lv_at hl 2 rfl) ?_
        refine lv_aload_n hx hb dX14_takeCheck_72 rfl (lv_at hl 1 rfl) ?_
        refine lv_iload_n hx hb dX14_takeCheck_73 rfl (lv_at hl 0 rfl) ?_
        refine va_calli (A0 := jA base) (H0 := s.heap) (va_runV (As := [.ref ret_12, .int (fq_1.ck ret_12)]) (rest := [.int a1, .ref ycl_18]) ⟨hx, hb, hml, hown, hts⟩ (uX14_costOfT l dC dI ca base B hB hAp hB14 hB15 hB16 hB101 hB155 hB156 hB157 hB166 hB167 hB190 hB191 hB192 hB194 G0 H_47 r0 ret_12 (fq_1.ck ret_12) ysb_16 yse_16 ut_21 ysf_16 (rt_1.ln ret_12).toInt (fq_1.sb ret_12) (fq_1.se ret_12) (rt_1.tx ret_12) (fq_1.sf ret_12)) (cwV 2 hts (jgV (jWr_90 _ (List.mem_of_getElem? (i := 23) rfl)) (jWr_91 _ (List.mem_of_getElem? (i := 0) rfl)) (jWr_91 _ (List.mem_of_getElem? (i := 1) rfl)) (jWr_1 _ (List.mem_of_getElem? (i := 5) rfl)) (jWr_91 _ (List.mem_of_getElem? (i := 2) rfl))) rfl rfl rfl (by decide +kernel) ⟨by rw [← hR]; exact Nat.le_of_ble_eq_true rfl, by rw [← hR]; exact Nat.le_of_ble_eq_true rfl⟩) ⟨fun a U g mk q => by obtain ⟨q0, q1, q2, qK, q10, q11, q12, q13, q14, q15, q16, q17, q18⟩ := q; exact ⟨q0, q1, q2, jG.calling g mk a qK, q10, q11, q12, q13, q14, q15, q16, q17, q18⟩, hh_47.recv (C := RX14) (T := TX14) (N := 74) hB16 rfl (by decide) hg_r0 hK, fun U hU hW => ⟨rfl, hU, hh_47.2.1, hG.step hW hU hh_47.1, hg_ret_12, hg_r0, hgsb_16, hgse_16, hgt_21, hgsf_16, (hh_47.2.2.1.sub (L1 := [(ret_12, 14, 6, .ref ysb_16), (ret_12, 14, 7, .ref yse_16), (ret_12, 14, 3, .ref ut_21), (ret_12, 14, 8, .ref ysf_16)]) [14, 15, 6, 16] rfl), (hh_47.2.2.2.2.2.2.2.1.sub (L1 := [(ysb_16, 190, 40, ca 1, (fq_1.sb ret_12)), (yse_16, 191, 40, ca 1, (fq_1.se ret_12)), (ut_21, 194, 1500, ca 1, (rt_1.tx ret_12)), (ysf_16, 192, 40, ca 1, (fq_1.sf ret_12))]) [8, 9, 5, 10] rfl), ⟨(by first | omega | rfl | assumption | exact t1 | exact t2 | exact t4 | exact t3), (by first | omega | rfl | assumption | exact t1 | exact t2 | exact t4 | exact t3), (by first | omega | rfl | assumption | exact t1 | exact t2 | exact t4 | exact t3), (by first | omega | rfl | assumption | exact t1 | exact t2 | exact t4 | exact t3), (by first | assumption | exact t1 | exact t2 | exact t4 | exact t3 | omega), (by first | assumption | exact t1 | exact t2 | exact t4 | exact t3 | omega), (by first | assumption | exact t1 | exact t2 | exact t4 | exact t3 | omega), (by first | assumption | exact t1 | exact t2 | exact t4 | exact t3 | omega)⟩⟩⟩ rfl rfl hl.1 rfl (lv_room (Nat.le_of_ble_eq_true rfl)) dX14_takeCheck_74 ⟨Nat.zero_le _, Nat.zero_le _⟩) hh_47.1 (fun q _ h => h) (fun q h => h) (fun r_52 u_51 t_51 H_51 locs_51 ht_51 hvm_51 hr_52 hb_51 hz_51 hk_51 hS_51 => ?_)
        rw [ht_51] at hb_51
        obtain ⟨hb_511, hb_512, hb_513, hb_514, hb_515⟩ := hb_51
        have hh_51 : jSt (dC, dI) B base G0 G0 EX14_takeCheckW s.heap 0 0 [(r0, 16, 63, .ref checkCached_40), (r0, 16, 67, .ref ycu_36), (r0, 16, 68, .ref yce_36), (r0, 16, 66, .int cn_36), (r0, 16, 70, .int ql_30), (r0, 16, 69, .ref row_34), (ret_12, 14, 3, .ref ut_21), (ret_12, 14, 0, .ref uz_21), (ret_12, 14, 2, .int (rt_1.ve ret_12)), (ret_12, 14, 4, .int (rt_1.ln ret_12)), (ret_12, 14, 1, .int (rt_1.ul ret_12)), (r0, 16, 61, .ref ycs_18), (r0, 16, 62, .ref ycl_18), (r0, 16, 60, .ref yco_18), (ret_12, 14, 6, .ref ysb_16), (ret_12, 14, 7, .ref yse_16), (ret_12, 14, 8, .ref ysf_16), (ret_12, 14, 5, .int (fq_1.sn ret_12)), (ret_12, 14, 9, .int (fq_1.ck ret_12))] [(checkCached_40, 105, 2, ca 3, fs_48), (ycu_36, 114, 38400, ca 1, cu_36), (yce_36, 205, 24, ca 1, ce_36), (row_34, 113, 1600, ca 1, gr_30), (ycs_18, 207, 2, ca 1, fs_29), (ut_21, 194, 1500, ca 1, (rt_1.tx ret_12)), (uz_21, 195, 40, ca 1, (rt_1.ux ret_12)), (ycl_18, 115, 2, ca 1, cl_1), (ysb_16, 190, 40, ca 1, (fq_1.sb ret_12)), (yse_16, 191, 40, ca 1, (fq_1.se ret_12)), (ysf_16, 192, 40, ca 1, (fq_1.sf ret_12))] [(jFHk, jHk dC dI ca G0 r0 (Z9.2.2.2)), ([(208, 0)], jQc dC dI (ca 4) yco_18 2 fq_25), (jFxd, jXD dC dI ca G0 none fq_1), (jFHd, jHd dC dI ca G0 r0 fd_1 dc_1), (jFHw, jHw dC dI ca G0 r0 WW_1), (jFrd, jRD dC dI ca G0 none rt_1), (jFHo, jHo dC dI ca G0 r0 ol_1 nw_1 td_1)] H_51 locs_51 := ((hh_47.call hb_511 hb_512 hb_513 hb_514 hS_51 rfl (L1 := [(r0, 16, 63, .ref checkCached_40), (r0, 16, 67, .ref ycu_36), (r0, 16, 68, .ref yce_36), (r0, 16, 66, .int cn_36), (r0, 16, 70, .int ql_30), (r0, 16, 69, .ref row_34), (ret_12, 14, 3, .ref ut_21), (ret_12, 14, 0, .ref uz_21), (ret_12, 14, 2, .int (rt_1.ve ret_12)), (ret_12, 14, 4, .int (rt_1.ln ret_12)), (ret_12, 14, 1, .int (rt_1.ul ret_12)), (r0, 16, 61, .ref ycs_18), (r0, 16, 62, .ref ycl_18), (r0, 16, 60, .ref yco_18), (ret_12, 14, 6, .ref ysb_16), (ret_12, 14, 7, .ref yse_16), (ret_12, 14, 8, .ref ysf_16), (ret_12, 14, 5, .int (fq_1.sn ret_12)), (ret_12, 14, 9, .int (fq_1.ck ret_12))]) [0, 1, 2, 3, 4, 5, 6, 7, 8, 9, 10, 11, 12, 13, 14, 15, 16, 17, 18] rfl rfl (M1 := [(checkCached_40, 105, 2, ca 3, fs_48), (ycu_36, 114, 38400, ca 1, cu_36), (yce_36, 205, 24, ca 1, ce_36), (row_34, 113, 1600, ca 1, gr_30), (ycs_18, 207, 2, ca 1, fs_29), (ut_21, 194, 1500, ca 1, (rt_1.tx ret_12)), (uz_21, 195, 40, ca 1, (rt_1.ux ret_12)), (ycl_18, 115, 2, ca 1, cl_1), (ysb_16, 190, 40, ca 1, (fq_1.sb ret_12)), (yse_16, 191, 40, ca 1, (fq_1.se ret_12)), (ysf_16, 192, 40, ca 1, (fq_1.sf ret_12))]) [0, 1, 2, 3, 4, 5, 6, 7, 8, 9, 10] rfl rfl (I1 := [(jFHk, jHk dC dI ca G0 r0 (Z9.2.2.2)), ([(208, 0)], jQc dC dI (ca 4) yco_18 2 fq_25), (jFxd, jXD dC dI ca G0 none fq_1), (jFHd, jHd dC dI ca G0 r0 fd_1 dc_1), (jFHw, jHw dC dI ca G0 r0 WW_1), (jFrd, jRD dC dI ca G0 none rt_1), (jFHo, jHo dC dI ca G0 r0 ol_1 nw_1 td_1)]) [0, 1, 2, 3, 4, 5, 6] rfl rfl).more hb_515)
        clear hh_47 ht_51 hvm_51 hz_51 hk_51 hS_51 hb_511 hb_512 hb_513 hb_514 hb_515
        have hL9 : r_52.toInt = jwLf S9 Z9 (jwNx S9 Z9) := by unfold jwLf; rw [if_neg, ← hcst9]; exact hr_52; rw [← hrow9]; exact (hix9.resolve_right (fun q => by have q1 := q.1; omega)).2
        refine j7_iastU hx hb hK hh_51 hB hB115 1 rfl (by decide) (by decide) rfl 7 rfl (M1 := [(checkCached_40, 105, 2, ca 3, fs_48), (ycu_36, 114, 38400, ca 1, cu_36), (yce_36, 205, 24, ca 1, ce_36), (row_34, 113, 1600, ca 1, gr_30), (ycs_18, 207, 2, ca 1, fs_29), (ut_21, 194, 1500, ca 1, (rt_1.tx ret_12)), (uz_21, 195, 40, ca 1, (rt_1.ux ret_12)), (ysb_16, 190, 40, ca 1, (fq_1.sb ret_12)), (yse_16, 191, 40, ca 1, (fq_1.se ret_12)), (ysf_16, 192, 40, ca 1, (fq_1.sf ret_12))]) [0, 1, 2, 3, 4, 5, 6, 8, 9, 10] rfl rfl rfl hgcl_18 (x := a1.toInt) (rfl) (by omega) (trivial) dX14_takeCheck_77 (fun H_53 locs_53 fs_54 hv_53 ho_53 hh_53 => ?_)
        have hv_53 : jSo fs_54 (a1.toInt) = r_52.toInt := by unfold jSo; rw [hv_53]; try exact rfl
        clear hh_51
        have hHf_55 : jHc dC dI ca G0 r0 fq_25 fs_29 fs_54 H_53 := ⟨ycs_18, ycl_18, yco_18, ⟨_, hg_r0⟩, ⟨hgcs_18, hgcl_18, hgco_18⟩, hh_53.2.2.1.sub (L1 := [(r0, 16, 61, .ref ycs_18), (r0, 16, 62, .ref ycl_18), (r0, 16, 60, .ref yco_18)]) [11, 12, 13] rfl, hh_53.2.2.2.2.2.2.2.1.sub (L1 := [(ycs_18, 207, 2, ca 1, fs_29), (ycl_18, 115, 2, ca 1, fs_54)]) [5, 0] rfl, hh_53.iv 1 rfl, trivial⟩
        have hh_56 := hh_53.sub (L1 := [(r0, 16, 63, .ref checkCached_40), (r0, 16, 67, .ref ycu_36), (r0, 16, 68, .ref yce_36), (r0, 16, 66, .int cn_36), (r0, 16, 70, .int ql_30), (r0, 16, 69, .ref row_34), (ret_12, 14, 3, .ref ut_21), (ret_12, 14, 0, .ref uz_21), (ret_12, 14, 2, .int (rt_1.ve ret_12)), (ret_12, 14, 4, .int (rt_1.ln ret_12)), (ret_12, 14, 1, .int (rt_1.ul ret_12)), (r0, 16, 61, .ref ycs_18), (r0, 16, 62, .ref ycl_18), (r0, 16, 60, .ref yco_18), (ret_12, 14, 6, .ref ysb_16), (ret_12, 14, 7, .ref yse_16), (ret_12, 14, 8, .ref ysf_16), (ret_12, 14, 5, .int (fq_1.sn ret_12)), (ret_12, 14, 9, .int (fq_1.ck ret_12))]) [0, 1, 2, 3, 4, 5, 6, 7, 8, 9, 10, 11, 12, 13, 14, 15, 16, 17, 18] rfl (M1 := [(ycl_18, 115, 2, ca 1, fs_54), (checkCached_40, 105, 2, ca 3, fs_48), (ycu_36, 114, 38400, ca 1, cu_36), (yce_36, 205, 24, ca 1, ce_36), (row_34, 113, 1600, ca 1, gr_30), (ycs_18, 207, 2, ca 1, fs_29), (ut_21, 194, 1500, ca 1, (rt_1.tx ret_12)), (uz_21, 195, 40, ca 1, (rt_1.ux ret_12)), (ysb_16, 190, 40, ca 1, (fq_1.sb ret_12)), (yse_16, 191, 40, ca 1, (fq_1.se ret_12)), (ysf_16, 192, 40, ca 1, (fq_1.sf ret_12))]) [0, 1, 2, 3, 4, 5, 6, 7, 8, 9, 10] rfl (I1 := [(jFHk, jHk dC dI ca G0 r0 (Z9.2.2.2)), (jFxd, jXD dC dI ca G0 none fq_1), (jFHd, jHd dC dI ca G0 r0 fd_1 dc_1), (jFHw, jHw dC dI ca G0 r0 WW_1), (jFrd, jRD dC dI ca G0 none rt_1), (jFHo, jHo dC dI ca G0 r0 ol_1 nw_1 td_1)]) [0, 2, 3, 4, 5, 6] rfl
        clear hh_53
        have hh_57 := hh_56.addI (jHc.ie hHf_55)
        clear hh_56
        have hBf_58 : jBZ dC dI ca G0 r0 S9 (jwTk S9 Z9 a1.toInt) H_53 := ⟨rt_1, fq_1, fd_1, dc_1, fq_25, fs_29, fs_54, WW_1, ol_1, nw_1, td_1, hh_57.iv 3 rfl, hh_57.iv 5 rfl, hh_57.iv 2 rfl, hh_57.iv 0 rfl, hh_57.iv 4 rfl, (by rw [jwTk.c]; exact hh_57.iv 1 rfl), hh_57.iv 6 rfl, hz9.take (by omega) (by omega) hv1 (by omega) hv_23 ho_23 (jUpd.mk (n := 2) hv_28 ho_28 rfl (by omega)) (jUpd.mk (n := 2) hv_53 ho_53 rfl (by omega)) hL9⟩
        have hh_59 := hh_57.sub (L1 := [(r0, 16, 63, .ref checkCached_40), (r0, 16, 67, .ref ycu_36), (r0, 16, 68, .ref yce_36), (r0, 16, 66, .int cn_36), (r0, 16, 70, .int ql_30), (r0, 16, 69, .ref row_34), (ret_12, 14, 3, .ref ut_21), (ret_12, 14, 0, .ref uz_21), (ret_12, 14, 2, .int (rt_1.ve ret_12)), (ret_12, 14, 4, .int (rt_1.ln ret_12)), (ret_12, 14, 1, .int (rt_1.ul ret_12)), (r0, 16, 61, .ref ycs_18), (r0, 16, 62, .ref ycl_18), (r0, 16, 60, .ref yco_18), (ret_12, 14, 6, .ref ysb_16), (ret_12, 14, 7, .ref yse_16), (ret_12, 14, 8, .ref ysf_16), (ret_12, 14, 5, .int (fq_1.sn ret_12)), (ret_12, 14, 9, .int (fq_1.ck ret_12))]) [0, 1, 2, 3, 4, 5, 6, 7, 8, 9, 10, 11, 12, 13, 14, 15, 16, 17, 18] rfl (M1 := [(ycl_18, 115, 2, ca 1, fs_54), (checkCached_40, 105, 2, ca 3, fs_48), (ycu_36, 114, 38400, ca 1, cu_36), (yce_36, 205, 24, ca 1, ce_36), (row_34, 113, 1600, ca 1, gr_30), (ycs_18, 207, 2, ca 1, fs_29), (ut_21, 194, 1500, ca 1, (rt_1.tx ret_12)), (uz_21, 195, 40, ca 1, (rt_1.ux ret_12)), (ysb_16, 190, 40, ca 1, (fq_1.sb ret_12)), (yse_16, 191, 40, ca 1, (fq_1.se ret_12)), (ysf_16, 192, 40, ca 1, (fq_1.sf ret_12))]) [0, 1, 2, 3, 4, 5, 6, 7, 8, 9, 10] rfl (I1 := []) [] rfl
        clear hh_57
        have hh_60 := hh_59.addI (jBZ.ie hBf_58)
        clear hh_59
        rw [hQ]
        exact W.vret hx hb hr (fun t ht hW => ⟨⟨(), rfl, trivial, ⟨hh_60.rt (M1 := []) [] rfl ht, by rw [ht]; exact hh_60.2.2.2.2.2.2.2.2.sub (L1 := [(jFBZ, jBZ dC dI ca G0 r0 S9 (jwTk S9 Z9 a1.toInt))]) [0] rfl⟩⟩, by rw [ht]; try exact hh_60.1.1, fun q h9 hq => by rw [ht]; try exact hh_60.1.2.1 q h9 hq⟩) hh_60.1.2.2 dX14_takeCheck_78
      · skip
        have c_50' : z_49.toInt ≠ 0 := jb_eq_n (rfl) ((by decide)) c_50
        exact (by omega : False).elim
    · skip
      have c_46' : r_43.toInt ≥ 0 := jb_lt_n (rfl) ((by decide)) c_46
      refine lv_iconst (v := 1) hx hb dX14_takeCheck_47 (by decide) ?_
      refine lv_goto (tgt := 52) hx hb dX14_takeCheck_48 (by decide) ?_
      refine j7_zastU hx hb hK hh_45 hB hB105 3 rfl (by decide) (by decide) rfl 0 rfl (M1 := [(ycu_36, 114, 38400, ca 1, cu_36), (yce_36, 205, 24, ca 1, ce_36), (row_34, 113, 1600, ca 1, gr_30), (ycs_18, 207, 2, ca 1, fs_29), (ut_21, 194, 1500, ca 1, (rt_1.tx ret_12)), (uz_21, 195, 40, ca 1, (rt_1.ux ret_12)), (ycl_18, 115, 2, ca 1, cl_1), (ysb_16, 190, 40, ca 1, (fq_1.sb ret_12)), (yse_16, 191, 40, ca 1, (fq_1.se ret_12)), (ysf_16, 192, 40, ca 1, (fq_1.sf ret_12))]) [1, 2, 3, 4, 5, 6, 7, 8, 9, 10] rfl rfl rfl hg_checkCached_40 (x := a1.toInt) (rfl) (by omega) (Or.inr rfl) (Or.inr rfl) dX14_takeCheck_52 (fun H_61 locs_61 fs_62 hv_61 ho_61 hh_61 => ?_)
      have hv_61 : jSo fs_62 (a1.toInt) = (1 : Int32).toInt := by unfold jSo; rw [hv_61]
      clear hh_45
      refine lv_aload_n hx hb dX14_takeCheck_53 rfl (lv_at hl 2 rfl) ?_
      refine j7_read hx hb hown hK (C := RX14) (T := TX14) (N := 74) rfl hly_16_62 hlk_135 (hh_61.at 12 rfl) dX14_takeCheck_54 ?_
      refine lv_iload_n hx hb dX14_takeCheck_57 rfl (lv_at hl 3 rfl) ?_
      refine lv_aload_n hx hb dX14_takeCheck_58 rfl (lv_at hl 2 rfl) ?_
      refine j7_read hx hb hown hK (C := RX14) (T := TX14) (N := 74) rfl hly_16_63 hlk_138 (hh_61.at 0 rfl) dX14_takeCheck_59 ?_
      refine lv_iload_n hx hb dX14_takeCheck_62 rfl (lv_at hl 3 rfl) ?_
      refine j7_zaldM hx hb hK hh_61 hB105 3 rfl (by decide) hg_checkCached_40 (x := a1.toInt) (rfl) (by omega) (j := 0) rfl dX14_takeCheck_63 (fun z_63 ez_63 (hz_63 : (z_63 = 0 ∨ z_63 = 1)) => ?_)
      have hqz_63 : z_63.toInt = jSo fs_62 (a1.toInt) := by unfold jSo; rw [ez_63]
      have hz_63' := jb_01 hz_63
      refine lv_if_eq (tgt := 71) hx hb dX14_takeCheck_64 (by decide) (fun c_64 => ?_) (fun c_64 => ?_)
      · skip
        have c_64' : z_63.toInt = 0 := jb_eq (rfl) ((by decide)) c_64
        exact (by omega : False).elim
      · skip
        have c_64' : z_63.toInt ≠ 0 := jb_eq_n (rfl) ((by decide)) c_64
        have hL9 : (1 : Int) = jwLf S9 Z9 (jwNx S9 Z9) := by unfold jwLf; rw [if_pos]; rw [← hrow9]; exact (hix9.resolve_left (fun q => by have q1 := q.1; omega)).2.2.1 |> List.mem_of_getElem?
        refine lv_iconst (v := 1) hx hb dX14_takeCheck_67 (by decide) ?_
        refine lv_goto (tgt := 77) hx hb dX14_takeCheck_68 (by decide) ?_
        refine j7_iastU hx hb hK hh_61 hB hB115 1 rfl (by decide) (by decide) rfl 7 rfl (M1 := [(checkCached_40, 105, 2, ca 3, fs_62), (ycu_36, 114, 38400, ca 1, cu_36), (yce_36, 205, 24, ca 1, ce_36), (row_34, 113, 1600, ca 1, gr_30), (ycs_18, 207, 2, ca 1, fs_29), (ut_21, 194, 1500, ca 1, (rt_1.tx ret_12)), (uz_21, 195, 40, ca 1, (rt_1.ux ret_12)), (ysb_16, 190, 40, ca 1, (fq_1.sb ret_12)), (yse_16, 191, 40, ca 1, (fq_1.se ret_12)), (ysf_16, 192, 40, ca 1, (fq_1.sf ret_12))]) [0, 1, 2, 3, 4, 5, 6, 8, 9, 10] rfl rfl rfl hgcl_18 (x := a1.toInt) (rfl) (by omega) (trivial) dX14_takeCheck_77 (fun H_65 locs_65 fs_66 hv_65 ho_65 hh_65 => ?_)
        have hv_65 : jSo fs_66 (a1.toInt) = 1 := by unfold jSo; rw [hv_65]; try exact (by decide)
        clear hh_61
        have hHf_67 : jHc dC dI ca G0 r0 fq_25 fs_29 fs_66 H_65 := ⟨ycs_18, ycl_18, yco_18, ⟨_, hg_r0⟩, ⟨hgcs_18, hgcl_18, hgco_18⟩, hh_65.2.2.1.sub (L1 := [(r0, 16, 61, .ref ycs_18), (r0, 16, 62, .ref ycl_18), (r0, 16, 60, .ref yco_18)]) [11, 12, 13] rfl, hh_65.2.2.2.2.2.2.2.1.sub (L1 := [(ycs_18, 207, 2, ca 1, fs_29), (ycl_18, 115, 2, ca 1, fs_66)]) [5, 0] rfl, hh_65.iv 1 rfl, trivial⟩
        have hh_68 := hh_65.sub (L1 := [(r0, 16, 63, .ref checkCached_40), (r0, 16, 67, .ref ycu_36), (r0, 16, 68, .ref yce_36), (r0, 16, 66, .int cn_36), (r0, 16, 70, .int ql_30), (r0, 16, 69, .ref row_34), (ret_12, 14, 3, .ref ut_21), (ret_12, 14, 0, .ref uz_21), (ret_12, 14, 2, .int (rt_1.ve ret_12)), (ret_12, 14, 4, .int (rt_1.ln ret_12)), (ret_12, 14, 1, .int (rt_1.ul ret_12)), (r0, 16, 61, .ref ycs_18), (r0, 16, 62, .ref ycl_18), (r0, 16, 60, .ref yco_18), (ret_12, 14, 6, .ref ysb_16), (ret_12, 14, 7, .ref yse_16), (ret_12, 14, 8, .ref ysf_16), (ret_12, 14, 5, .int (fq_1.sn ret_12)), (ret_12, 14, 9, .int (fq_1.ck ret_12))]) [0, 1, 2, 3, 4, 5, 6, 7, 8, 9, 10, 11, 12, 13, 14, 15, 16, 17, 18] rfl (M1 := [(ycl_18, 115, 2, ca 1, fs_66), (checkCached_40, 105, 2, ca 3, fs_62), (ycu_36, 114, 38400, ca 1, cu_36), (yce_36, 205, 24, ca 1, ce_36), (row_34, 113, 1600, ca 1, gr_30), (ycs_18, 207, 2, ca 1, fs_29), (ut_21, 194, 1500, ca 1, (rt_1.tx ret_12)), (uz_21, 195, 40, ca 1, (rt_1.ux ret_12)), (ysb_16, 190, 40, ca 1, (fq_1.sb ret_12)), (yse_16, 191, 40, ca 1, (fq_1.se ret_12)), (ysf_16, 192, 40, ca 1, (fq_1.sf ret_12))]) [0, 1, 2, 3, 4, 5, 6, 7, 8, 9, 10] rfl (I1 := [(jFHk, jHk dC dI ca G0 r0 (Z9.2.2.2)), (jFxd, jXD dC dI ca G0 none fq_1), (jFHd, jHd dC dI ca G0 r0 fd_1 dc_1), (jFHw, jHw dC dI ca G0 r0 WW_1), (jFrd, jRD dC dI ca G0 none rt_1), (jFHo, jHo dC dI ca G0 r0 ol_1 nw_1 td_1)]) [0, 2, 3, 4, 5, 6] rfl
        clear hh_65
        have hh_69 := hh_68.addI (jHc.ie hHf_67)
        clear hh_68
        have hBf_70 : jBZ dC dI ca G0 r0 S9 (jwTk S9 Z9 a1.toInt) H_65 := ⟨rt_1, fq_1, fd_1, dc_1, fq_25, fs_29, fs_66, WW_1, ol_1, nw_1, td_1, hh_69.iv 3 rfl, hh_69.iv 5 rfl, hh_69.iv 2 rfl, hh_69.iv 0 rfl, hh_69.iv 4 rfl, (by rw [jwTk.c]; exact hh_69.iv 1 rfl), hh_69.iv 6 rfl, hz9.take (by omega) (by omega) hv1 (by omega) hv_23 ho_23 (jUpd.mk (n := 2) hv_28 ho_28 rfl (by omega)) (jUpd.mk (n := 2) hv_65 ho_65 rfl (by omega)) hL9⟩
        have hh_71 := hh_69.sub (L1 := [(r0, 16, 63, .ref checkCached_40), (r0, 16, 67, .ref ycu_36), (r0, 16, 68, .ref yce_36), (r0, 16, 66, .int cn_36), (r0, 16, 70, .int ql_30), (r0, 16, 69, .ref row_34), (ret_12, 14, 3, .ref ut_21), (ret_12, 14, 0, .ref uz_21), (ret_12, 14, 2, .int (rt_1.ve ret_12)), (ret_12, 14, 4, .int (rt_1.ln ret_12)), (ret_12, 14, 1, .int (rt_1.ul ret_12)), (r0, 16, 61, .ref ycs_18), (r0, 16, 62, .ref ycl_18), (r0, 16, 60, .ref yco_18), (ret_12, 14, 6, .ref ysb_16), (ret_12, 14, 7, .ref yse_16), (ret_12, 14, 8, .ref ysf_16), (ret_12, 14, 5, .int (fq_1.sn ret_12)), (ret_12, 14, 9, .int (fq_1.ck ret_12))]) [0, 1, 2, 3, 4, 5, 6, 7, 8, 9, 10, 11, 12, 13, 14, 15, 16, 17, 18] rfl (M1 := [(ycl_18, 115, 2, ca 1, fs_66), (checkCached_40, 105, 2, ca 3, fs_62), (ycu_36, 114, 38400, ca 1, cu_36), (yce_36, 205, 24, ca 1, ce_36), (row_34, 113, 1600, ca 1, gr_30), (ycs_18, 207, 2, ca 1, fs_29), (ut_21, 194, 1500, ca 1, (rt_1.tx ret_12)), (uz_21, 195, 40, ca 1, (rt_1.ux ret_12)), (ysb_16, 190, 40, ca 1, (fq_1.sb ret_12)), (yse_16, 191, 40, ca 1, (fq_1.se ret_12)), (ysf_16, 192, 40, ca 1, (fq_1.sf ret_12))]) [0, 1, 2, 3, 4, 5, 6, 7, 8, 9, 10] rfl (I1 := []) [] rfl
        clear hh_69
        have hh_72 := hh_71.addI (jBZ.ie hBf_70)
        clear hh_71
        rw [hQ]
        exact W.vret hx hb hr (fun t ht hW => ⟨⟨(), rfl, trivial, ⟨hh_72.rt (M1 := []) [] rfl ht, by rw [ht]; exact hh_72.2.2.2.2.2.2.2.2.sub (L1 := [(jFBZ, jBZ dC dI ca G0 r0 S9 (jwTk S9 Z9 a1.toInt))]) [0] rfl⟩⟩, by rw [ht]; try exact hh_72.1.1, fun q h9 hq => by rw [ht]; try exact hh_72.1.2.1 q h9 hq⟩) hh_72.1.2.2 dX14_takeCheck_78
end
