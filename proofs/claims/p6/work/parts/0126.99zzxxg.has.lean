section
def EX11_hasWorkT : List (Nat × Nat) := []
def EX11_rememberN : List (Nat × Nat) := [(1, 0), (1, 1), (1, 2), (223, 0)]
set_option maxHeartbeats 4000000 in
set_option maxRecDepth 20000 in
theorem uX11_hasWorkT (l : Launch) (dC : Nat → ClassId) (dI : Nat → Nat → Nat) (ca : Nat → ClassId) (base : Nat) (B : jF) (hB : jBok B) (hAp : jAp (dC, dI)) (hB1 : ∀ n G a H, B 1 n G a H ↔ jOb (dC, dI) 1 3 (F1 n G) a H) (hB3 : ∀ n G a H, B 3 n G a H ↔ jOb (dC, dI) 3 17 (F3 n G) a H) (hB10 : ∀ n G a H, B 10 n G a H ↔ jOb (dC, dI) 10 5 (F10 n G) a H) (hB11 : ∀ n G a H, B 11 n G a H ↔ jOb (dC, dI) 11 9 (F11 n G) a H) (hB13 : ∀ n G a H, B 13 n G a H ↔ jOb (dC, dI) 13 19 (F13 n G) a H) (hB171 : ∀ n G a H, B 171 n G a H ↔ jAr (dC, dI) (ca 1) (fun j z => 0 ≤ z.toInt ∧ z.toInt ≤ 1500) n a H) (hB172 : ∀ n G a H, B 172 n G a H ↔ jAr (dC, dI) (ca 1) (fun j z => 0 ≤ z.toInt ∧ z.toInt ≤ 1500) n a H) (hB175 : ∀ n G a H, B 175 n G a H ↔ jAr (dC, dI) (ca 1) (fun j z => True) n a H) (hB176 : ∀ n G a H, B 176 n G a H ↔ jAr (dC, dI) (ca 1) (fun j z => True) n a H) (hB210 : ∀ n G a H, B 210 n G a H ↔ jAq (dC, dI) (ca 6) (jQn 11 0) n G a H) (hB212 : ∀ n G a H, B 212 n G a H ↔ jAq (dC, dI) (ca 5) (jQn 3 0) n G a H) (hB221 : ∀ n G a H, B 221 n G a H ↔ jAq (dC, dI) (ca 9) (jQn 3 0) n G a H) (hB222 : ∀ n G a H, B 222 n G a H ↔ jAq (dC, dI) (ca 9) (jQn 10 0) n G a H) (G0 : jT) (H0 : Heap) (r0 : Nat) (op : Nat) (sz : Int32) (wt_ : Nat) (wz : Int32) (s0 : Nat) (tq : jDtl) (kq : jKg) (wl : jWl9) (ho : Nat → Option Nat) (us rw : Nat → List Int) (qq : jRqG) (ib : Nat → List Int) (S9 : Int × (Int → jdD)) (Z9 : jwSt) : Met l yX11_hasWork (jw yX11_hasWork cX11_hasWork 2 (some .boolean)) ({ frames := 5, cells := 0, slots := 0, locals := 109 }) (va_Pc [.ref r0] (fun U => U.heap = H0 ∧ jX B base G0 [] H0 ∧ jG dC dI ca base U ∧ jK2 dC dI ca U ∧ jK7 dC dI ca base U ∧ G0 r0 = some (13, 0) ∧ G0 op = some (1, 1) ∧ G0 wt_ = some (1, 2) ∧ jP (dC, dI) G0 H0 [(r0, 13, 7, .ref op), (op, 1, 2, .int sz), (r0, 13, 8, .ref wt_), (wt_, 1, 2, .int wz)] ∧ jIs (dC, dI) G0 H0 [(jFl, jLs dC dI ca G0 3 none wl), (jFkd, jKD dC dI ca G0 none kq), (jFqd, jQD dC dI ca G0 none qq), (jFHh, jHh dC dI ca G0 r0 ho)] ∧ jcZ G0 s0 tq kq wl ho us rw qq ib S9 Z9)) (va_Qi (S := Unit) (fun r u => (r = 0 ∨ r = 1) ∧ (((r.toInt = 1 ∧ jwHs S9 Z9 = 1) ∨ (r.toInt = 0 ∧ ¬ jwHs S9 Z9 = 1)))) (fun u t => (jRt (dC, dI) B base G0 EX11_hasWorkT H0 [] t.heap) ∧ jIs (dC, dI) G0 t.heap [(jFl, jLs dC dI ca G0 3 none wl), (jFkd, jKD dC dI ca G0 none kq), (jFqd, jQD dC dI ca G0 none qq), (jFHh, jHh dC dI ca G0 r0 ho)]) (jA base)) 0 0 (jA base) := by
  refine Met.ofW (cc := cX11_hasWork) (maxL := 2) (ret := (some .boolean)) (by decide) rfl ?_
  intro p e s m args below meth c s₁ Bd hml hv
  obtain ⟨rfl, hH0, hX, hG, hK2, hK7, hg_r0, hg_op, hg_wt_, hP0, hI0, hp0⟩ := hv
  have hK := hG.1
  have hx := Bd.exec
  have hb := Bd.bytes
  have hr := Bd.returns
  have hts := atoms_spec (ws := (jw yX11_hasWork cX11_hasWork 2 (some .boolean))) Bd.pre
  have htw : ∀ w ∈ jWl, w.before _ s = true := fun w h => hts w (List.mem_cons_of_mem _ h)
  have hown : s.vm.findClass RX11 = some m.cls := findClass_of_methodNamed Bd.named
  have hlocks := Bd.notSynchronized
  obtain ⟨Q, hQ⟩ : ∃ Q, Q = MQ below (va_Qi (S := Unit) (fun r u => (r = 0 ∨ r = 1) ∧ (((r.toInt = 1 ∧ jwHs S9 Z9 = 1) ∨ (r.toInt = 0 ∧ ¬ jwHs S9 Z9 = 1)))) (fun u t => (jRt (dC, dI) B base G0 EX11_hasWorkT H0 [] t.heap) ∧ jIs (dC, dI) G0 t.heap [(jFl, jLs dC dI ca G0 3 none wl), (jFkd, jKD dC dI ca G0 none kq), (jFqd, jQD dC dI ca G0 none qq), (jFHh, jHh dC dI ca G0 r0 ho)]) (jA base)) ([.ref r0] : List Value).toArray s 0 0 (jA base) := ⟨_, rfl⟩
  rw [← hQ]
  have hl := lv_entry ([.ref r0]) (n := 2) (Nat.le_of_ble_eq_true rfl)
  rw [lg_entry_eq]
  generalize (lg_sl ([.ref r0]) ++ List.replicate (2 - (lg_sl ([.ref r0])).length) Slot.unset).toArray = ls at hl ⊢
  have hl : lv_has ls 2 [(0, .ref r0)] := hl
  generalize hR : (headSpec (jw yX11_hasWork cX11_hasWork 2 (some .boolean)) ({ frames := 5, cells := 0, slots := 0, locals := 109 })).room = R
  subst hH0
  have hh : jSt (dC, dI) B base G0 G0 EX11_hasWorkT s.heap 0 0 [(r0, 13, 7, .ref op), (op, 1, 2, .int sz), (r0, 13, 8, .ref wt_), (wt_, 1, 2, .int wz)] [] [(jFl, jLs dC dI ca G0 3 none wl), (jFkd, jKD dC dI ca G0 none kq), (jFqd, jQD dC dI ca G0 none qq), (jFHh, jHh dC dI ca G0 r0 ho)] s.heap [] := jSt.start hX hP0 jMc.nil hI0
  clear hX hP0
  have hk0 : (0 : Int32).toInt = 0 := by decide
  have hk1 : (1 : Int32).toInt = 1 := by decide
  have hk2 : (2 : Int32).toInt = 2 := by decide
  have hly_13_10 := htw (u_lay RX11 TX11 10) (jWc_wsX110 _ (u_in_lay (by decide)))
  have hlk_73 := (htw (.fieldLink RX11 73 "ProofServer" "hands" "[LProofServer$Document;") (jWr_2 _ (List.mem_of_getElem? (i := 18) rfl)))
  obtain ⟨yho_1, -, hgho_1, hoP_1, hoM_1, hqho_1, -⟩ := hh.iv 3 rfl
  have hh_2 := ((hh.sub (L1 := [(r0, 13, 7, .ref op), (op, 1, 2, .int sz), (r0, 13, 8, .ref wt_), (wt_, 1, 2, .int wz)]) [0, 1, 2, 3] rfl (M1 := []) [] rfl (I1 := [(jFl, jLs dC dI ca G0 3 none wl), (jFkd, jKD dC dI ca G0 none kq), (jFqd, jQD dC dI ca G0 none qq)]) [0, 1, 2] rfl).more hoP_1).moreM hoM_1
  clear hh
  have hh_3 := hh_2.addI (jQc.ie hqho_1 hgho_1 (by decide) (by decide))
  clear hh_2
  refine lv_iconst (v := 0) hx hb dX11_hasWork_0 (by decide) ?_
  refine lv_istore_n (lv' := [(1, .int 0), (0, .ref r0)]) hx hb dX11_hasWork_1 rfl hl (by decide) rfl (fun ls hl => ?_)
  have L2 : ∀ (N : Nat) (v1_4 : Int32) (H_4 : Heap) (locs_4 : List Loc), jSt (dC, dI) B base G0 G0 EX11_hasWorkT s.heap 0 0 [(r0, 13, 10, .ref yho_1), (r0, 13, 7, .ref op), (op, 1, 2, .int sz), (r0, 13, 8, .ref wt_), (wt_, 1, 2, .int wz)] [] [([(212, 0)], jQc dC dI (ca 5) yho_1 2 ho), (jFl, jLs dC dI ca G0 3 none wl), (jFkd, jKD dC dI ca G0 none kq), (jFqd, jQD dC dI ca G0 none qq)] H_4 locs_4 → (0 ≤ v1_4.toInt ∧ v1_4.toInt ≤ 2 ∧ (∀ i : Nat, (i : Int) < v1_4.toInt → ho i = none)) → (2 - v1_4.toInt : Int) < N → ∀ ls : Array Slot, lv_has ls 2 [(0, .ref r0), (1, .int v1_4)] → W p l e R s m ([.ref r0] : List Value).toArray below meth c H_4 locs_4 0 0 Q (F0 m 2 ls []) := by
    intro N
    induction N with
    | zero => intro v1_4 H_4 locs_4 hh_4  hi_4 hm; exact absurd hm (by omega)
    | succ N L2 =>
      intro v1_4 H_4 locs_4 hh_4  hi_4 hm_4 ls hl
      obtain ⟨hi_4_0, hi_4_1, hi_4_2⟩ := hi_4
      refine lv_iload_n hx hb dX11_hasWork_2 rfl (lv_at hl 1 rfl) ?_
      refine lv_iconst (v := 2) hx hb dX11_hasWork_3 (by decide) ?_
      refine lv_icmp_ge (tgt := 24) hx hb dX11_hasWork_4 (by decide) (fun c_5 => ?_) (fun c_5 => ?_)
      · skip
        have c_5' : v1_4.toInt ≥ 2 := jb_ge (rfl) ((by decide)) c_5
        have hno9 : ∀ i : Nat, i < 2 → ho i = none := fun i hi => hi_4_2 i (by omega)
        have hHf_6 : jHh dC dI ca G0 r0 ho H_4 := ⟨yho_1, ⟨_, hg_r0⟩, hgho_1, hh_4.2.2.1.sub (L1 := [(r0, 13, 10, .ref yho_1)]) [0] rfl, hh_4.2.2.2.2.2.2.2.1.sub (L1 := []) [] rfl, hh_4.iv 0 rfl, trivial⟩
        have hh_7 := hh_4.sub (L1 := [(r0, 13, 10, .ref yho_1), (r0, 13, 7, .ref op), (op, 1, 2, .int sz), (r0, 13, 8, .ref wt_), (wt_, 1, 2, .int wz)]) [0, 1, 2, 3, 4] rfl (M1 := []) [] rfl (I1 := [(jFl, jLs dC dI ca G0 3 none wl), (jFkd, jKD dC dI ca G0 none kq), (jFqd, jQD dC dI ca G0 none qq)]) [1, 2, 3] rfl
        clear hh_4
        have hh_8 := hh_7.addI (jHh.ie hHf_6)
        clear hh_7
        refine lv_aload_n hx hb dX11_hasWork_24 rfl (lv_at hl 0 rfl) ?_
        refine j_callx (A0 := jA base) (H0 := s.heap) (va_runV (As := []) (rest := []) ⟨hx, hb, hml, hown, hts⟩ (uX11_nextToCheckT l dC dI ca base B hB hAp hB1 hB3 hB10 hB11 hB13 hB171 hB172 hB175 hB176 hB210 hB221 hB222 G0 H_4 r0 op sz wt_ wz s0 tq kq wl ho us rw qq ib S9 Z9) (cwV 0 hts (jgV (jWr_76 _ (List.mem_of_getElem? (i := 19) rfl)) (jWr_76 _ (List.mem_of_getElem? (i := 20) rfl)) (jWr_76 _ (List.mem_of_getElem? (i := 21) rfl)) (jWr_1 _ (List.mem_of_getElem? (i := 2) rfl)) (jWr_76 _ (List.mem_of_getElem? (i := 22) rfl))) rfl rfl rfl (by decide +kernel) ⟨by rw [← hR]; exact Nat.le_of_ble_eq_true rfl, by rw [← hR]; exact Nat.le_of_ble_eq_true rfl⟩) ⟨fun a U g mk q => by obtain ⟨q0, q1, q2, qK, q10, q11, q12, q13, q14, q15, q16⟩ := q; exact ⟨q0, q1, q2, jG.calling g mk a qK, (jK7.calling g mk a q10), q11, q12, q13, q14, q15, q16⟩, hh_8.recv (C := RX11) (T := TX11) (N := 19) hB13 rfl (by decide) hg_r0 hK, fun U hU hW => ⟨rfl, hU, hh_8.2.1, hG.step hW hU hh_8.1, (hK7.step hW hU hh_8.1), hg_r0, hg_op, hg_wt_, (hh_8.2.2.1.sub (L1 := [(r0, 13, 7, .ref op), (op, 1, 2, .int sz), (r0, 13, 8, .ref wt_), (wt_, 1, 2, .int wz)]) [1, 2, 3, 4] rfl), (hh_8.2.2.2.2.2.2.2.2.sub (L1 := [(jFl, jLs dC dI ca G0 3 none wl), (jFkd, jKD dC dI ca G0 none kq), (jFqd, jQD dC dI ca G0 none qq)]) [1, 2, 3] rfl), by first | omega | rfl | assumption | decide | exact Or.inl rfl | exact Or.inr rfl | (simp only; omega)⟩⟩ rfl rfl hl.1 rfl (lv_room (Nat.le_of_ble_eq_true rfl)) dX11_hasWork_25 ⟨Nat.zero_le _, Nat.zero_le _⟩) hh_8.1 (fun q _ h => h) (fun q h => h) (fun r_10 u_9 t_9 H_9 locs_9 ht_9 hvm_9 hr_10 hb_9 hz_9 hk_9 hS_9 => ?_)
        rw [ht_9] at hb_9
        obtain ⟨hb_9, hbE_9⟩ := hb_9
        obtain ⟨hb_91, hb_92, hb_93, hb_94, hb_95⟩ := hb_9
        have hh_9 : jSt (dC, dI) B base G0 G0 EX11_hasWorkT s.heap 0 0 [(r0, 13, 10, .ref yho_1), (r0, 13, 7, .ref op), (op, 1, 2, .int sz), (r0, 13, 8, .ref wt_), (wt_, 1, 2, .int wz)] [] [(jFl, jLs dC dI ca G0 3 none wl), (jFkd, jKD dC dI ca G0 none kq), (jFqd, jQD dC dI ca G0 none qq), (jFHh, jHh dC dI ca G0 r0 ho)] H_9 locs_9 := (((hh_8.call hb_91 hb_92 hb_93 hb_94 hS_9 rfl (L1 := [(r0, 13, 10, .ref yho_1), (r0, 13, 7, .ref op), (op, 1, 2, .int sz), (r0, 13, 8, .ref wt_), (wt_, 1, 2, .int wz)]) [0, 1, 2, 3, 4] rfl rfl (M1 := []) [] rfl rfl (I1 := [(jFHh, jHh dC dI ca G0 r0 ho)]) [0] rfl rfl).more hb_95)).addIs hbE_9
        clear hh_8 ht_9 hvm_9 hz_9 hk_9 hS_9 hb_91 hb_92 hb_93 hb_94 hb_95
        clear  hbE_9
        obtain ⟨hr_10, hr_10p⟩ := hr_10
        have hnx9 := hr_10p
        rcases hr_10 with rfl | ⟨ret_11, rfl, hg_ret_11⟩
        · skip
          refine lv_ifnullN (tgt := 35) hx hb dX11_hasWork_28 (by decide) ?_
          refine lv_iconst (v := 0) hx hb dX11_hasWork_35 (by decide) ?_
          rw [hQ]
          exact W.zret (v := 0) hx hb hr (jb_nz (Or.inl rfl)) (fun t ht hW => ⟨⟨0, (), rfl, ⟨(Or.inl rfl), Or.inr ⟨hk0, fun q9 => by have h9 := jwHs.n (S := S9) (Z := Z9) (hp0.hn (i := 0) (by omega) (hno9 0 (by omega))) (hp0.hn (i := 1) (by omega) (hno9 1 (by omega))) (hp0.nn hnx9); omega⟩⟩, ⟨hh_9.rt (M1 := []) [] rfl ht, by rw [ht]; exact hh_9.2.2.2.2.2.2.2.2.sub (L1 := [(jFl, jLs dC dI ca G0 3 none wl), (jFkd, jKD dC dI ca G0 none kq), (jFqd, jQD dC dI ca G0 none qq), (jFHh, jHh dC dI ca G0 r0 ho)]) [0, 1, 2, 3] rfl⟩⟩, by rw [ht]; try exact hh_9.1.1, fun q h9 hq => by rw [ht]; try exact hh_9.1.2.1 q h9 hq⟩) hh_9.1.2.2 dX11_hasWork_36
        · skip
          refine lv_ifnull hx hb dX11_hasWork_28 ?_
          refine lv_iconst (v := 1) hx hb dX11_hasWork_31 (by decide) ?_
          refine lv_goto (tgt := 36) hx hb dX11_hasWork_32 (by decide) ?_
          rw [hQ]
          exact W.zret (v := 1) hx hb hr (jb_nz (Or.inr rfl)) (fun t ht hW => ⟨⟨1, (), rfl, ⟨(Or.inr rfl), Or.inl ⟨hk1, jwHs.y (Or.inr (Or.inr (hp0.ny hnx9)))⟩⟩, ⟨hh_9.rt (M1 := []) [] rfl ht, by rw [ht]; exact hh_9.2.2.2.2.2.2.2.2.sub (L1 := [(jFl, jLs dC dI ca G0 3 none wl), (jFkd, jKD dC dI ca G0 none kq), (jFqd, jQD dC dI ca G0 none qq), (jFHh, jHh dC dI ca G0 r0 ho)]) [0, 1, 2, 3] rfl⟩⟩, by rw [ht]; try exact hh_9.1.1, fun q h9 hq => by rw [ht]; try exact hh_9.1.2.1 q h9 hq⟩) hh_9.1.2.2 dX11_hasWork_36
      · skip
        have c_5' : v1_4.toInt < 2 := jb_ge_n (rfl) ((by decide)) c_5
        refine lv_aload_n hx hb dX11_hasWork_7 rfl (lv_at hl 0 rfl) ?_
        refine j7_read hx hb hown hK (C := RX11) (T := TX11) (N := 19) rfl hly_13_10 hlk_73 (hh_4.at 0 rfl) dX11_hasWork_8 ?_
        refine lv_iload_n hx hb dX11_hasWork_11 rfl (lv_at hl 1 rfl) ?_
        refine j7_qaldI hx hb hK2 hh_4 hB212 1 rfl (by decide) hgho_1 (x := v1_4.toInt) (rfl) (by omega) (hh_4.iv 0 rfl) dX11_hasWork_12 (fun o_12 ho_12 heo_12 => ?_)
        rcases ho_12 with rfl | ⟨el_13, rfl, hg_el_13⟩
        · simp only [va_rf]
          refine lv_ifnullN (tgt := 18) hx hb dX11_hasWork_13 (by decide) ?_
          obtain ⟨z_14, ez_14⟩ : ∃ y : Int32, y = v1_4 + 1 := ⟨_, rfl⟩
          refine lv_iinc (v := z_14) (lv' := [(1, .int z_14), (0, .ref r0)]) hx hb dX11_hasWork_18 hl (k := 1) rfl (by rw [ez_14]; rfl) (by decide) rfl (fun ls hl => ?_)
          have hz_14 : z_14.toInt = v1_4.toInt + 1 := by rw [ez_14]; exact jb_iadd2 (rfl) (by decide) (by omega)
          refine lv_goto (tgt := 2) hx hb dX11_hasWork_21 (by decide) ?_
          exact L2 z_14 _ _ hh_4 (⟨by omega, by omega, fun i hi => by by_cases q9 : (i : Int) < v1_4.toInt; exact hi_4_2 i q9; rw [show i = v1_4.toInt.toNat by omega]; exact heo_12.symm⟩) (by omega) _ (lv_sub hl [1, 0] rfl)
        · simp only [va_rf]
          refine lv_ifnull hx hb dX11_hasWork_13 ?_
          refine lv_iconst (v := 1) hx hb dX11_hasWork_16 (by decide) ?_
          have hHf_15 : jHh dC dI ca G0 r0 ho H_4 := ⟨yho_1, ⟨_, hg_r0⟩, hgho_1, hh_4.2.2.1.sub (L1 := [(r0, 13, 10, .ref yho_1)]) [0] rfl, hh_4.2.2.2.2.2.2.2.1.sub (L1 := []) [] rfl, hh_4.iv 0 rfl, trivial⟩
          have hh_16 := hh_4.sub (L1 := [(r0, 13, 10, .ref yho_1), (r0, 13, 7, .ref op), (op, 1, 2, .int sz), (r0, 13, 8, .ref wt_), (wt_, 1, 2, .int wz)]) [0, 1, 2, 3, 4] rfl (M1 := []) [] rfl (I1 := [(jFl, jLs dC dI ca G0 3 none wl), (jFkd, jKD dC dI ca G0 none kq), (jFqd, jQD dC dI ca G0 none qq)]) [1, 2, 3] rfl
          clear hh_4
          have hh_17 := hh_16.addI (jHh.ie hHf_15)
          clear hh_16
          rw [hQ]
          exact W.zret (v := 1) hx hb hr (jb_nz (Or.inr rfl)) (fun t ht hW => ⟨⟨1, (), rfl, ⟨(Or.inr rfl), Or.inl ⟨hk1, jwHs.y (hp0.hy hi_4_0 (by omega) heo_12)⟩⟩, ⟨hh_17.rt (M1 := []) [] rfl ht, by rw [ht]; exact hh_17.2.2.2.2.2.2.2.2.sub (L1 := [(jFl, jLs dC dI ca G0 3 none wl), (jFkd, jKD dC dI ca G0 none kq), (jFqd, jQD dC dI ca G0 none qq), (jFHh, jHh dC dI ca G0 r0 ho)]) [1, 2, 3, 0] rfl⟩⟩, by rw [ht]; try exact hh_17.1.1, fun q h9 hq => by rw [ht]; try exact hh_17.1.2.1 q h9 hq⟩) hh_17.1.2.2 dX11_hasWork_17
  exact L2 (2 - (0 : Int32).toInt : Int).toNat.succ 0 _ _ hh_3 (⟨by omega, by omega, fun i hi => by have h9 := hk0; omega⟩) (by omega) _ (lv_sub hl [1, 0] rfl)
set_option maxHeartbeats 4000000 in
set_option maxRecDepth 20000 in
theorem uX11_rememberN (l : Launch) (dC : Nat → ClassId) (dI : Nat → Nat → Nat) (ca : Nat → ClassId) (base : Nat) (B : jF) (hB : jBok B) (hAp : jAp (dC, dI)) (hB1 : ∀ n G a H, B 1 n G a H ↔ jOb (dC, dI) 1 3 (F1 n G) a H) (hB11 : ∀ n G a H, B 11 n G a H ↔ jOb (dC, dI) 11 9 (F11 n G) a H) (hB13 : ∀ n G a H, B 13 n G a H ↔ jOb (dC, dI) 13 19 (F13 n G) a H) (hB175 : ∀ n G a H, B 175 n G a H ↔ jAr (dC, dI) (ca 1) (fun j z => True) n a H) (hB223 : ∀ n G a H, B 223 n G a H ↔ jAq (dC, dI) (ca 9) (jQn 11 0) n G a H) (G0 : jT) (H0 : Heap) (r0 : Nat) (r1 : Nat) (ch_ : Nat) (cz : Int32) (wl : jWl9) (us : Nat → List Int) (rw : Nat → List Int) (LC LS : Nat) : Met l yX11_remember (jw yX11_remember cX11_remember 3 none) ({ frames := 7, cells := LC - H0.size, slots := LS - jTot H0, locals := 192 }) (va_Pc [.ref r0, .ref r1] (fun U => U.heap = H0 ∧ jX B base G0 [] H0 ∧ jG dC dI ca base U ∧ jK7 dC dI ca base U ∧ G0 r0 = some (13, 0) ∧ G0 r1 = some (11, 0) ∧ G0 ch_ = some (1, 3) ∧ jP (dC, dI) G0 H0 [(r0, 13, 9, .ref ch_), (ch_, 1, 2, .int cz)] ∧ jIs (dC, dI) G0 H0 [(jFl, jLs dC dI ca G0 3 none wl), (jFun, jUN dC dI ca G0 0 us rw)] ∧ H0.size + 1 ≤ LC ∧ jTot H0 + 40 ≤ LS ∧ jnE (rw r1) ∧ (∀ x ∈ wl.2.2.2, jnE (rw x)))) (va_Qv (S := jWl9 × jT) (fun u => u.1 = wl.s3 u.1.2.2.2 ∧ u.1.2.2.2.map rw = jwKp (wl.2.2.2.map rw) (rw r1) ∧ (∀ z ∈ u.1.2.2.2, z ∈ wl.2.2.2 ∨ z = r1)) (fun u t => jRa (dC, dI) B base G0 u.2 EX11_rememberN H0 (1) (40) [] t.heap ∧ (jNk [0, 1, 2, 3, 4, 5, 6, 7, 8, 9, 10, 11, 12, 13, 14, 15, 16, 17, 175]) G0 u.2 ∧ jIs (dC, dI) u.2 t.heap [(jFl, jLs dC dI ca u.2 3 none (u.1)), (jFun, jUN dC dI ca u.2 0 us rw)]) (jA base)) (LC - H0.size) (LS - jTot H0) (jA base) := by
  refine Met.ofW (cc := cX11_remember) (maxL := 3) (ret := none) (by decide) rfl ?_
  intro p e s m args below meth c s₁ Bd hml hv
  obtain ⟨rfl, hH0, hX, hG, hK7, hg_r0, hg_r1, hg_ch_, hP0, hI0, hLC0, hLS0, hp0, hp1⟩ := hv
  have hK := hG.1
  have hx := Bd.exec
  have hb := Bd.bytes
  have hr := Bd.returns
  have hts := atoms_spec (ws := (jw yX11_remember cX11_remember 3 none)) Bd.pre
  have htw : ∀ w ∈ jWl, w.before _ s = true := fun w h => hts w (List.mem_cons_of_mem _ h)
  have hown : s.vm.findClass RX11 = some m.cls := findClass_of_methodNamed Bd.named
  have hlocks := Bd.notSynchronized
  obtain ⟨Q, hQ⟩ : ∃ Q, Q = MQ below (va_Qv (S := jWl9 × jT) (fun u => u.1 = wl.s3 u.1.2.2.2 ∧ u.1.2.2.2.map rw = jwKp (wl.2.2.2.map rw) (rw r1) ∧ (∀ z ∈ u.1.2.2.2, z ∈ wl.2.2.2 ∨ z = r1)) (fun u t => jRa (dC, dI) B base G0 u.2 EX11_rememberN H0 (1) (40) [] t.heap ∧ (jNk [0, 1, 2, 3, 4, 5, 6, 7, 8, 9, 10, 11, 12, 13, 14, 15, 16, 17, 175]) G0 u.2 ∧ jIs (dC, dI) u.2 t.heap [(jFl, jLs dC dI ca u.2 3 none (u.1)), (jFun, jUN dC dI ca u.2 0 us rw)]) (jA base)) ([.ref r0, .ref r1] : List Value).toArray s (LC - H0.size) (LS - jTot H0) (jA base) := ⟨_, rfl⟩
  rw [← hQ]
  have hl := lv_entry ([.ref r0, .ref r1]) (n := 3) (Nat.le_of_ble_eq_true rfl)
  rw [lg_entry_eq]
  generalize (lg_sl ([.ref r0, .ref r1]) ++ List.replicate (3 - (lg_sl ([.ref r0, .ref r1])).length) Slot.unset).toArray = ls at hl ⊢
  have hl : lv_has ls 3 [(0, .ref r0), (1, .ref r1)] := hl
  generalize hR : (headSpec (jw yX11_remember cX11_remember 3 none) ({ frames := 7, cells := LC - H0.size, slots := LS - jTot H0, locals := 192 })).room = R
  subst hH0
  have hh : jSt (dC, dI) B base G0 G0 EX11_rememberN s.heap 0 0 [(r0, 13, 9, .ref ch_), (ch_, 1, 2, .int cz)] [] [(jFl, jLs dC dI ca G0 3 none wl), (jFun, jUN dC dI ca G0 0 us rw)] s.heap [] := jSt.start hX hP0 jMc.nil hI0
  clear hX hP0
  have hk0 : (0 : Int32).toInt = 0 := by decide
  have hk1 : (1 : Int32).toInt = 1 := by decide
  have hk24 : (24 : Int32).toInt = 24 := by decide
  have hly_13_9 := htw (u_lay RX11 TX11 9) (jWc_wsX110 _ (u_in_lay (by decide)))
  have hlk_68 := (htw (.fieldLink RX11 68 "ProofServer" "cache" "Ljava/util/List;") (jWr_2 _ (List.mem_of_getElem? (i := 16) rfl)))
  have hbs : base ≤ s.heap.size := Nat.le_of_lt (Nat.lt_of_le_of_lt (hh.ab hg_r0).1 (hh.ab hg_r0).2)
  have hRc : R.cells = LC - s.heap.size := by rw [← hR]; rfl
  have hRs : R.slots = LS - jTot s.heap := by rw [← hR]; rfl
  have hws3 : (wl.2.2.2.length : Int) = cz.toInt ∧ cz.toInt ≤ 24 := jLs.sz2 (hh.iv 0 rfl) hg_ch_ (by decide) (hh.at 1 rfl)
  refine lv_iconst (v := 0) hx hb dX11_remember_0 (by decide) ?_
  refine lv_istore_n (lv' := [(2, .int 0), (0, .ref r0), (1, .ref r1)]) hx hb dX11_remember_1 rfl hl (by decide) rfl (fun ls hl => ?_)
  have L2 : ∀ (N : Nat) (v2_1 : Int32) (H_1 : Heap) (locs_1 : List Loc), jSt (dC, dI) B base G0 G0 EX11_rememberN s.heap 0 0 [(r0, 13, 9, .ref ch_), (ch_, 1, 2, .int cz)] [] [(jFl, jLs dC dI ca G0 3 none wl), (jFun, jUN dC dI ca G0 0 us rw)] H_1 locs_1 → (0 ≤ v2_1.toInt ∧ v2_1.toInt ≤ cz.toInt ∧ (∀ (i x : Nat), (i : Int) < v2_1.toInt → wl.2.2.2[i]? = some x → rw x ≠ rw r1)) → (cz.toInt - v2_1.toInt : Int) < N → ∀ ls : Array Slot, lv_has ls 3 [(0, .ref r0), (1, .ref r1), (2, .int v2_1)] → W p l e R s m ([.ref r0, .ref r1] : List Value).toArray below meth c H_1 locs_1 0 0 Q (F0 m 2 ls []) := by
    intro N
    induction N with
    | zero => intro v2_1 H_1 locs_1 hh_1  hi_1 hm; exact absurd hm (by omega)
    | succ N L2 =>
      intro v2_1 H_1 locs_1 hh_1  hi_1 hm_1 ls hl
      obtain ⟨hi_1_0, hi_1_1, hi_1_2⟩ := hi_1
      refine lv_iload_n hx hb dX11_remember_2 rfl (lv_at hl 2 rfl) ?_
      refine lv_aload_n hx hb dX11_remember_3 rfl (lv_at hl 0 rfl) ?_
      refine j7_read hx hb hown hK (C := RX11) (T := TX11) (N := 19) rfl hly_13_9 hlk_68 (hh_1.at 0 rfl) dX11_remember_4 ?_
      have hsz_2 := hh_1.2.2.2.2.2.1
      have htt_2 := hh_1.2.2.2.2.2.2.1
      refine W.room (fun hrc_2 hrs_2 => ?_)
      refine va_callFi (A0 := jA base) (H0 := s.heap) (va_runF (hK.1 1 _ rfl).2 (As := []) (rest := [.int v2_1]) ⟨hx, hb, hml, hown, hts⟩ (uJx4a65c_size_8abf5 l dC dI ca base B hB hAp hB1 G0 H_1 ch_ 3 cz) (va_cwF 0 hts (jgF (jWr_27 _ (List.mem_of_getElem? (i := 22) rfl)) (jWr_27 _ (List.mem_of_getElem? (i := 23) rfl)) (jWr_28 _ (List.mem_of_getElem? (i := 0) rfl)) (jWr_2 _ (List.mem_of_getElem? (i := 13) rfl)) (jWr_28 _ (List.mem_of_getElem? (i := 1) rfl))) rfl rfl rfl hK7.2.2.2.2.2.1.1 ⟨by decide, by decide, by decide +kernel⟩ ⟨by rw [← hR]; exact Nat.le_of_ble_eq_true rfl, by rw [← hR]; exact Nat.le_of_ble_eq_true rfl⟩) ⟨fun a U g mk q => by obtain ⟨q0, q1, q2, qK, q10, q11, q12⟩ := q; exact ⟨q0, q1, q2, jG.calling g mk a qK, q10, q11, q12⟩, hh_1.recv (C := RJx4a65c) (T := TJx4a65c) (N := 3) hB1 rfl (by decide) hg_ch_ hK, fun U hU hW => ⟨rfl, hU, hh_1.2.1, hG.step hW hU hh_1.1, hg_ch_, (hh_1.2.2.1.sub (L1 := [(ch_, 1, 2, .int cz)]) [1] rfl), trivial⟩⟩ rfl rfl hl.1 rfl (lv_room (Nat.le_of_ble_eq_true rfl)) dX11_remember_7 ⟨by rw [hRc]; show _ + 0 ≤ _; omega, by rw [hRs]; show _ + 0 ≤ _; omega⟩) hh_1.1 (fun q _ h => h) (fun q h => h) (fun r_3 u_2 t_2 H_2 locs_2 ht_2 hvm_2 hr_3 hb_2 hz_2 hk_2 hS_2 => ?_)
      rw [ht_2] at hb_2
      obtain ⟨hb_21, hb_22, hb_23, hb_24, hb_25⟩ := hb_2
      have hh_2 : jSt (dC, dI) B base G0 G0 EX11_rememberN s.heap 0 0 [(r0, 13, 9, .ref ch_), (ch_, 1, 2, .int cz)] [] [(jFl, jLs dC dI ca G0 3 none wl), (jFun, jUN dC dI ca G0 0 us rw)] H_2 locs_2 := ((hh_1.call hb_21 hb_22 hb_23 hb_24 hS_2 rfl (L1 := [(r0, 13, 9, .ref ch_), (ch_, 1, 2, .int cz)]) [0, 1] rfl rfl (M1 := []) [] rfl rfl (I1 := [(jFl, jLs dC dI ca G0 3 none wl), (jFun, jUN dC dI ca G0 0 us rw)]) [0, 1] rfl rfl).more hb_25)
      clear hh_1 ht_2 hvm_2 hz_2 hk_2 hS_2 hb_21 hb_22 hb_23 hb_24 hb_25
      refine lv_icmp_ge (tgt := 41) hx hb dX11_remember_12 (by decide) (fun c_4 => ?_) (fun c_4 => ?_)
      · skip
        have c_4' : v2_1.toInt ≥ r_3.toInt := jb_ge (rfl) (rfl) c_4
        refine lv_iload_n hx hb dX11_remember_41 rfl (lv_at hl 2 rfl) ?_
        refine lv_aload_n hx hb dX11_remember_42 rfl (lv_at hl 0 rfl) ?_
        refine j7_read hx hb hown hK (C := RX11) (T := TX11) (N := 19) rfl hly_13_9 hlk_68 (hh_2.at 0 rfl) dX11_remember_43 ?_
        have hsz_5 := hh_2.2.2.2.2.2.1
        have htt_5 := hh_2.2.2.2.2.2.2.1
        refine W.room (fun hrc_5 hrs_5 => ?_)
        refine va_callFi (A0 := jA base) (H0 := s.heap) (va_runF (hK.1 1 _ rfl).2 (As := []) (rest := [.int v2_1]) ⟨hx, hb, hml, hown, hts⟩ (uJx4a65c_size_8abf5 l dC dI ca base B hB hAp hB1 G0 H_2 ch_ 3 cz) (va_cwF 0 hts (jgF (jWr_27 _ (List.mem_of_getElem? (i := 22) rfl)) (jWr_27 _ (List.mem_of_getElem? (i := 23) rfl)) (jWr_28 _ (List.mem_of_getElem? (i := 0) rfl)) (jWr_2 _ (List.mem_of_getElem? (i := 13) rfl)) (jWr_28 _ (List.mem_of_getElem? (i := 1) rfl))) rfl rfl rfl hK7.2.2.2.2.2.1.1 ⟨by decide, by decide, by decide +kernel⟩ ⟨by rw [← hR]; exact Nat.le_of_ble_eq_true rfl, by rw [← hR]; exact Nat.le_of_ble_eq_true rfl⟩) ⟨fun a U g mk q => by obtain ⟨q0, q1, q2, qK, q10, q11, q12⟩ := q; exact ⟨q0, q1, q2, jG.calling g mk a qK, q10, q11, q12⟩, hh_2.recv (C := RJx4a65c) (T := TJx4a65c) (N := 3) hB1 rfl (by decide) hg_ch_ hK, fun U hU hW => ⟨rfl, hU, hh_2.2.1, hG.step hW hU hh_2.1, hg_ch_, (hh_2.2.2.1.sub (L1 := [(ch_, 1, 2, .int cz)]) [1] rfl), trivial⟩⟩ rfl rfl hl.1 rfl (lv_room (Nat.le_of_ble_eq_true rfl)) dX11_remember_46 ⟨by rw [hRc]; show _ + 0 ≤ _; omega, by rw [hRs]; show _ + 0 ≤ _; omega⟩) hh_2.1 (fun q _ h => h) (fun q h => h) (fun r_6 u_5 t_5 H_5 locs_5 ht_5 hvm_5 hr_6 hb_5 hz_5 hk_5 hS_5 => ?_)
        rw [ht_5] at hb_5
        obtain ⟨hb_51, hb_52, hb_53, hb_54, hb_55⟩ := hb_5
        have hh_5 : jSt (dC, dI) B base G0 G0 EX11_rememberN s.heap 0 0 [(r0, 13, 9, .ref ch_), (ch_, 1, 2, .int cz)] [] [(jFl, jLs dC dI ca G0 3 none wl), (jFun, jUN dC dI ca G0 0 us rw)] H_5 locs_5 := ((hh_2.call hb_51 hb_52 hb_53 hb_54 hS_5 rfl (L1 := [(r0, 13, 9, .ref ch_), (ch_, 1, 2, .int cz)]) [0, 1] rfl rfl (M1 := []) [] rfl rfl (I1 := [(jFl, jLs dC dI ca G0 3 none wl), (jFun, jUN dC dI ca G0 0 us rw)]) [0, 1] rfl rfl).more hb_55)
        clear hh_2 ht_5 hvm_5 hz_5 hk_5 hS_5 hb_51 hb_52 hb_53 hb_54 hb_55
        refine lv_icmp_ge (tgt := 68) hx hb dX11_remember_51 (by decide) (fun c_7 => ?_) (fun c_7 => ?_)
        · skip
          have c_7' : v2_1.toInt ≥ r_6.toInt := jb_ge (rfl) (rfl) c_7
          refine lv_aload_n hx hb dX11_remember_68 rfl (lv_at hl 0 rfl) ?_
          refine j7_read hx hb hown hK (C := RX11) (T := TX11) (N := 19) rfl hly_13_9 hlk_68 (hh_5.at 0 rfl) dX11_remember_69 ?_
          have hsz_8 := hh_5.2.2.2.2.2.1
          have htt_8 := hh_5.2.2.2.2.2.2.1
          refine W.room (fun hrc_8 hrs_8 => ?_)
          refine va_callFi (A0 := jA base) (H0 := s.heap) (va_runF (hK.1 1 _ rfl).2 (As := []) (rest := []) ⟨hx, hb, hml, hown, hts⟩ (uJx4a65c_size_8abf5 l dC dI ca base B hB hAp hB1 G0 H_5 ch_ 3 cz) (va_cwF 0 hts (jgF (jWr_27 _ (List.mem_of_getElem? (i := 22) rfl)) (jWr_27 _ (List.mem_of_getElem? (i := 23) rfl)) (jWr_28 _ (List.mem_of_getElem? (i := 0) rfl)) (jWr_2 _ (List.mem_of_getElem? (i := 13) rfl)) (jWr_28 _ (List.mem_of_getElem? (i := 1) rfl))) rfl rfl rfl hK7.2.2.2.2.2.1.1 ⟨by decide, by decide, by decide +kernel⟩ ⟨by rw [← hR]; exact Nat.le_of_ble_eq_true rfl, by rw [← hR]; exact Nat.le_of_ble_eq_true rfl⟩) ⟨fun a U g mk q => by obtain ⟨q0, q1, q2, qK, q10, q11, q12⟩ := q; exact ⟨q0, q1, q2, jG.calling g mk a qK, q10, q11, q12⟩, hh_5.recv (C := RJx4a65c) (T := TJx4a65c) (N := 3) hB1 rfl (by decide) hg_ch_ hK, fun U hU hW => ⟨rfl, hU, hh_5.2.1, hG.step hW hU hh_5.1, hg_ch_, (hh_5.2.2.1.sub (L1 := [(ch_, 1, 2, .int cz)]) [1] rfl), trivial⟩⟩ rfl rfl hl.1 rfl (lv_room (Nat.le_of_ble_eq_true rfl)) dX11_remember_72 ⟨by rw [hRc]; show _ + 0 ≤ _; omega, by rw [hRs]; show _ + 0 ≤ _; omega⟩) hh_5.1 (fun q _ h => h) (fun q h => h) (fun r_9 u_8 t_8 H_8 locs_8 ht_8 hvm_8 hr_9 hb_8 hz_8 hk_8 hS_8 => ?_)
          rw [ht_8] at hb_8
          obtain ⟨hb_81, hb_82, hb_83, hb_84, hb_85⟩ := hb_8
          have hh_8 : jSt (dC, dI) B base G0 G0 EX11_rememberN s.heap 0 0 [(r0, 13, 9, .ref ch_), (ch_, 1, 2, .int cz)] [] [(jFl, jLs dC dI ca G0 3 none wl), (jFun, jUN dC dI ca G0 0 us rw)] H_8 locs_8 := ((hh_5.call hb_81 hb_82 hb_83 hb_84 hS_8 rfl (L1 := [(r0, 13, 9, .ref ch_), (ch_, 1, 2, .int cz)]) [0, 1] rfl rfl (M1 := []) [] rfl rfl (I1 := [(jFl, jLs dC dI ca G0 3 none wl), (jFun, jUN dC dI ca G0 0 us rw)]) [0, 1] rfl rfl).more hb_85)
          clear hh_5 ht_8 hvm_8 hz_8 hk_8 hS_8 hb_81 hb_82 hb_83 hb_84 hb_85
          refine lv_bipush (v := 24) hx hb dX11_remember_77 (by decide) ?_
          refine lv_icmp_lt (tgt := 93) hx hb dX11_remember_79 (by decide) (fun c_10 => ?_) (fun c_10 => ?_)
          · skip
            have c_10' : r_9.toInt < 24 := jb_lt (rfl) ((by decide)) c_10
            refine lv_aload_n hx hb dX11_remember_93 rfl (lv_at hl 0 rfl) ?_
            refine j7_read hx hb hown hK (C := RX11) (T := TX11) (N := 19) rfl hly_13_9 hlk_68 (hh_8.at 0 rfl) dX11_remember_94 ?_
            refine lv_aload_n hx hb dX11_remember_97 rfl (lv_at hl 1 rfl) ?_
            have hsz_11 := hh_8.2.2.2.2.2.1
            have htt_11 := hh_8.2.2.2.2.2.2.1
            refine W.room (fun hrc_11 hrs_11 => ?_)
            refine va_callFi (A0 := jA base) (H0 := s.heap) (va_runF (hK.1 1 _ rfl).2 (As := [.ref r1]) (rest := []) ⟨hx, hb, hml, hown, hts⟩ (uJx4a65c_add_9ea2dL3 l dC dI ca base B hB hAp hB1 hB11 hB223 G0 H_8 ch_ r1 cz wl LC LS) (va_cwF 1 hts (jgF (jWr_33 _ (List.mem_of_getElem? (i := 7) rfl)) (jWr_33 _ (List.mem_of_getElem? (i := 8) rfl)) (jWr_33 _ (List.mem_of_getElem? (i := 9) rfl)) (jWr_2 _ (List.mem_of_getElem? (i := 13) rfl)) (jWr_33 _ (List.mem_of_getElem? (i := 10) rfl))) rfl rfl rfl hK7.2.2.2.2.2.1.2.2.1 ⟨by decide, by decide, by decide +kernel⟩ ⟨by rw [← hR]; exact Nat.le_of_ble_eq_true rfl, by rw [← hR]; exact Nat.le_of_ble_eq_true rfl⟩) ⟨fun a U g mk q => by obtain ⟨q0, q1, q2, qK, q10, q11, q12, q13, q14, q15⟩ := q; exact ⟨q0, q1, q2, jG.calling g mk a qK, (jK7.calling g mk a q10), q11, q12, q13, q14, q15⟩, hh_8.recv (C := RJx4a65c) (T := TJx4a65c) (N := 3) hB1 rfl (by decide) hg_ch_ hK, fun U hU hW => ⟨rfl, hU, hh_8.2.1, hG.step hW hU hh_8.1, (hK7.step hW hU hh_8.1), hg_ch_, hg_r1, (hh_8.2.2.1.sub (L1 := [(ch_, 1, 2, .int cz)]) [1] rfl), (hh_8.2.2.2.2.2.2.2.2.sub (L1 := [(jFl, jLs dC dI ca G0 3 none wl)]) [0] rfl), by first | omega | (refine ⟨?_, ?_⟩ <;> (first | omega | rfl | assumption | decide | exact Or.inl rfl | exact Or.inr rfl | (simp only; omega)))⟩⟩ rfl rfl hl.1 rfl (lv_room (Nat.le_of_ble_eq_true rfl)) dX11_remember_98 ⟨by rw [hRc]; omega, by rw [hRs]; omega⟩) hh_8.1 (fun q _ h => h) (fun q h => h) (fun r_12 u_11 t_11 H_11 locs_11 ht_11 hvm_11 hr_12 hb_11 hz_11 hk_11 hS_11 => ?_)
            obtain ⟨qz_11, G_11⟩ := u_11
            rw [ht_11] at hb_11
            simp only at hb_11
            obtain ⟨⟨hb_111, hb_112, hb_113, hb_114, hb_115, hb_116⟩, hN_11, hbE_11⟩ := hb_11
            have hW_11 := hN_11
            have hh_11 : jSt (dC, dI) B base G0 G_11 EX11_rememberN s.heap (0 + (1)) (0 + (40)) [(ch_, 1, 2, .int qz_11), (r0, 13, 9, .ref ch_)] [] [(jFun, jUN dC dI ca G0 0 us rw)] H_11 locs_11 := (hh_8.callG hb_111 hb_112 hb_113 hb_114 hb_115 hS_11 rfl (L1 := [(r0, 13, 9, .ref ch_)]) [0] rfl rfl (M1 := []) [] rfl rfl (I1 := [(jFun, jUN dC dI ca G0 0 us rw)]) [1] rfl rfl).more hb_116
            have hNn_11 : (jNk [0, 1, 2, 3, 4, 5, 6, 7, 8, 9, 10, 11, 12, 13, 14, 15, 16, 17, 175]) G0 G_11 := (jNk.rf).tr hN_11
            have hg_13 := hb_112 _ _ hg_r0
            have hg_14 := hb_112 _ _ hg_r1
            have hg_15 := hb_112 _ _ hg_ch_
            have hd_16 := jUN.grow (r := 0) (hh_11.iv 0 rfl) hb_112 hW_11 (by decide) (by decide)
            have hh_17 := hh_11.sub (L1 := [(ch_, 1, 2, .int qz_11), (r0, 13, 9, .ref ch_)]) [0, 1] rfl (M1 := []) [] rfl (I1 := []) [] rfl
            clear hh_11
            have hh_18 := hh_17.addI (jUN.ie hd_16)
            clear hh_17
            have hh_19 := hh_18.addIs hbE_11
            obtain ⟨hr_12b, hr_12p⟩ := hr_12
            try simp only at hr_12p
            have hr_12' := jb_01 hr_12b
            refine lv_pop hx hb dX11_remember_103 rfl ?_
            have hsz_20 := hh_19.2.2.2.2.2.1
            have htt_20 := hh_19.2.2.2.2.2.2.1
            refine W.room (fun hrc_20 hrs_20 => ?_)
            refine W.widen (k := LC - s.heap.size) (n := LS - jTot s.heap) (by omega) (by omega) ?_
            rw [hQ]
            exact W.vret hx hb hr (fun t ht hW => ⟨⟨((wl.s3 (wl.2.2.2 ++ [r1])), G_11), rfl, ⟨rfl, jzKp.n hi_1_2 (by omega) (by omega), fun z hz => jzKp.m0 hz⟩, ⟨hh_19.ra (by first | (simp only; omega) | omega) (by first | (simp only; omega) | omega) (M1 := []) [] rfl ht, hNn_11, by rw [ht]; exact hh_19.2.2.2.2.2.2.2.2.sub (L1 := [(jFl, jLs dC dI ca G_11 3 none (wl.s3 (wl.2.2.2 ++ [r1]))), (jFun, jUN dC dI ca G_11 0 us rw)]) [0, 1] rfl⟩⟩, by rw [ht]; try exact hh_19.1.1, fun q h9 hq => by rw [ht]; try exact hh_19.1.2.1 q h9 hq⟩) hh_19.1.2.2 dX11_remember_104
          · skip
            have c_10' : r_9.toInt ≥ 24 := jb_lt_n (rfl) ((by decide)) c_10
            refine lv_aload_n hx hb dX11_remember_82 rfl (lv_at hl 0 rfl) ?_
            refine j7_read hx hb hown hK (C := RX11) (T := TX11) (N := 19) rfl hly_13_9 hlk_68 (hh_8.at 0 rfl) dX11_remember_83 ?_
            refine lv_iconst (v := 0) hx hb dX11_remember_86 (by decide) ?_
            have hsz_21 := hh_8.2.2.2.2.2.1
            have htt_21 := hh_8.2.2.2.2.2.2.1
            refine W.room (fun hrc_21 hrs_21 => ?_)
            refine j_callFx (A0 := jA base) (H0 := s.heap) (va_runF (hK.1 1 _ rfl).2 (As := [.int 0]) (rest := []) ⟨hx, hb, hml, hown, hts⟩ (uJx4a65c_remove_915e3L3 l dC dI ca base B hB hAp hB1 hB11 hB223 G0 H_8 ch_ 0 cz wl) (va_cwF 1 hts (jgF (jWr_42 _ (List.mem_of_getElem? (i := 7) rfl)) (jWr_42 _ (List.mem_of_getElem? (i := 8) rfl)) (jWr_42 _ (List.mem_of_getElem? (i := 9) rfl)) (jWr_2 _ (List.mem_of_getElem? (i := 13) rfl)) (jWr_42 _ (List.mem_of_getElem? (i := 10) rfl))) rfl rfl rfl hK7.2.2.2.2.2.1.2.2.2 ⟨by decide, by decide, by decide +kernel⟩ ⟨by rw [← hR]; exact Nat.le_of_ble_eq_true rfl, by rw [← hR]; exact Nat.le_of_ble_eq_true rfl⟩) ⟨fun a U g mk q => by obtain ⟨q0, q1, q2, qK, q10, q11, q12, q13, q14⟩ := q; exact ⟨q0, q1, q2, jG.calling g mk a qK, (jK7.calling g mk a q10), q11, q12, q13, q14⟩, hh_8.recv (C := RJx4a65c) (T := TJx4a65c) (N := 3) hB1 rfl (by decide) hg_ch_ hK, fun U hU hW => ⟨rfl, hU, hh_8.2.1, hG.step hW hU hh_8.1, (hK7.step hW hU hh_8.1), hg_ch_, (hh_8.2.2.1.sub (L1 := [(ch_, 1, 2, .int cz)]) [1] rfl), (hh_8.2.2.2.2.2.2.2.2.sub (L1 := [(jFl, jLs dC dI ca G0 3 none wl)]) [0] rfl), by first | omega | (refine ⟨?_, ?_⟩ <;> (first | omega | rfl | assumption | decide | exact Or.inl rfl | exact Or.inr rfl | (simp only; omega)))⟩⟩ rfl rfl hl.1 rfl (lv_room (Nat.le_of_ble_eq_true rfl)) dX11_remember_87 ⟨by rw [hRc]; show _ + 0 ≤ _; omega, by rw [hRs]; show _ + 0 ≤ _; omega⟩) hh_8.1 (fun q _ h => h) (fun q h => h) (fun r_22 u_21 t_21 H_21 locs_21 ht_21 hvm_21 hr_22 hb_21 hz_21 hk_21 hS_21 => ?_)
            obtain ⟨qz_21, rfl⟩ : ∃ z, z = u_21 := ⟨_, rfl⟩
            rw [ht_21] at hb_21
            obtain ⟨hb_21, hbE_21⟩ := hb_21
            obtain ⟨hb_21, hbO_21⟩ := hb_21
            obtain ⟨hb_211, hb_212, hb_213, hb_214, hb_215⟩ := hb_21
            have hh_21 : jSt (dC, dI) B base G0 G0 EX11_rememberN s.heap 0 0 [(ch_, 1, 2, .int qz_21), (r0, 13, 9, .ref ch_)] [] [(jFl, jLs dC dI ca G0 3 none (wl.s3 (wl.2.2.2.eraseIdx ((0 : Int)).toNat))), (jFun, jUN dC dI ca G0 0 us rw)] H_21 locs_21 := (((hh_8.call hb_211 hb_212 hb_213 hb_214 hS_21 rfl (L1 := [(r0, 13, 9, .ref ch_)]) [0] rfl rfl (M1 := []) [] rfl rfl (I1 := [(jFun, jUN dC dI ca G0 0 us rw)]) [1] rfl rfl).more hb_215)).addIs hbE_21
            clear hh_8 ht_21 hvm_21 hz_21 hk_21 hS_21 hb_211 hb_212 hb_213 hb_214 hb_215
            clear  hbE_21
            obtain ⟨hr_22, hr_22p⟩ := hr_22
            obtain ⟨ret_23, rfl, hg_ret_23⟩ := hr_22
            refine lv_pop hx hb dX11_remember_92 rfl ?_
            refine lv_aload_n hx hb dX11_remember_93 rfl (lv_at hl 0 rfl) ?_
            refine j7_read hx hb hown hK (C := RX11) (T := TX11) (N := 19) rfl hly_13_9 hlk_68 (hh_21.at 1 rfl) dX11_remember_94 ?_
            refine lv_aload_n hx hb dX11_remember_97 rfl (lv_at hl 1 rfl) ?_
            have hsz_24 := hh_21.2.2.2.2.2.1
            have htt_24 := hh_21.2.2.2.2.2.2.1
            refine W.room (fun hrc_24 hrs_24 => ?_)
            refine va_callFi (A0 := jA base) (H0 := s.heap) (va_runF (hK.1 1 _ rfl).2 (As := [.ref r1]) (rest := []) ⟨hx, hb, hml, hown, hts⟩ (uJx4a65c_add_9ea2dL3 l dC dI ca base B hB hAp hB1 hB11 hB223 G0 H_21 ch_ r1 qz_21 (wl.s3 (wl.2.2.2.eraseIdx ((0 : Int)).toNat)) LC LS) (va_cwF 1 hts (jgF (jWr_33 _ (List.mem_of_getElem? (i := 7) rfl)) (jWr_33 _ (List.mem_of_getElem? (i := 8) rfl)) (jWr_33 _ (List.mem_of_getElem? (i := 9) rfl)) (jWr_2 _ (List.mem_of_getElem? (i := 13) rfl)) (jWr_33 _ (List.mem_of_getElem? (i := 10) rfl))) rfl rfl rfl hK7.2.2.2.2.2.1.2.2.1 ⟨by decide, by decide, by decide +kernel⟩ ⟨by rw [← hR]; exact Nat.le_of_ble_eq_true rfl, by rw [← hR]; exact Nat.le_of_ble_eq_true rfl⟩) ⟨fun a U g mk q => by obtain ⟨q0, q1, q2, qK, q10, q11, q12, q13, q14, q15⟩ := q; exact ⟨q0, q1, q2, jG.calling g mk a qK, (jK7.calling g mk a q10), q11, q12, q13, q14, q15⟩, hh_21.recv (C := RJx4a65c) (T := TJx4a65c) (N := 3) hB1 rfl (by decide) hg_ch_ hK, fun U hU hW => ⟨rfl, hU, hh_21.2.1, hG.step hW hU hh_21.1, (hK7.step hW hU hh_21.1), hg_ch_, hg_r1, (hh_21.2.2.1.sub (L1 := [(ch_, 1, 2, .int qz_21)]) [0] rfl), (hh_21.2.2.2.2.2.2.2.2.sub (L1 := [(jFl, jLs dC dI ca G0 3 none (wl.s3 (wl.2.2.2.eraseIdx ((0 : Int)).toNat)))]) [0] rfl), by first | omega | (refine ⟨?_, ?_⟩ <;> (first | omega | rfl | assumption | decide | exact Or.inl rfl | exact Or.inr rfl | (simp only; omega)))⟩⟩ rfl rfl hl.1 rfl (lv_room (Nat.le_of_ble_eq_true rfl)) dX11_remember_98 ⟨by rw [hRc]; omega, by rw [hRs]; omega⟩) hh_21.1 (fun q _ h => h) (fun q h => h) (fun r_25 u_24 t_24 H_24 locs_24 ht_24 hvm_24 hr_25 hb_24 hz_24 hk_24 hS_24 => ?_)
            obtain ⟨qz_24, G_24⟩ := u_24
            rw [ht_24] at hb_24
            simp only at hb_24
            obtain ⟨⟨hb_241, hb_242, hb_243, hb_244, hb_245, hb_246⟩, hN_24, hbE_24⟩ := hb_24
            have hW_24 := hN_24
            have hh_24 : jSt (dC, dI) B base G0 G_24 EX11_rememberN s.heap (0 + (1)) (0 + (40)) [(ch_, 1, 2, .int qz_24), (r0, 13, 9, .ref ch_)] [] [(jFun, jUN dC dI ca G0 0 us rw)] H_24 locs_24 := (hh_21.callG hb_241 hb_242 hb_243 hb_244 hb_245 hS_24 rfl (L1 := [(r0, 13, 9, .ref ch_)]) [1] rfl rfl (M1 := []) [] rfl rfl (I1 := [(jFun, jUN dC dI ca G0 0 us rw)]) [1] rfl rfl).more hb_246
            have hNn_24 : (jNk [0, 1, 2, 3, 4, 5, 6, 7, 8, 9, 10, 11, 12, 13, 14, 15, 16, 17, 175]) G0 G_24 := (jNk.rf).tr hN_24
            have hg_26 := hb_242 _ _ hg_r0
            have hg_27 := hb_242 _ _ hg_r1
            have hg_28 := hb_242 _ _ hg_ch_
            have hd_29 := jUN.grow (r := 0) (hh_24.iv 0 rfl) hb_242 hW_24 (by decide) (by decide)
            have hh_30 := hh_24.sub (L1 := [(ch_, 1, 2, .int qz_24), (r0, 13, 9, .ref ch_)]) [0, 1] rfl (M1 := []) [] rfl (I1 := []) [] rfl
            clear hh_24
            have hh_31 := hh_30.addI (jUN.ie hd_29)
            clear hh_30
            have hh_32 := hh_31.addIs hbE_24
            obtain ⟨hr_25b, hr_25p⟩ := hr_25
            try simp only at hr_25p
            have hr_25' := jb_01 hr_25b
            refine lv_pop hx hb dX11_remember_103 rfl ?_
            have hsz_33 := hh_32.2.2.2.2.2.1
            have htt_33 := hh_32.2.2.2.2.2.2.1
            refine W.room (fun hrc_33 hrs_33 => ?_)
            refine W.widen (k := LC - s.heap.size) (n := LS - jTot s.heap) (by omega) (by omega) ?_
            rw [hQ]
            exact W.vret hx hb hr (fun t ht hW => ⟨⟨(((wl.s3 (wl.2.2.2.eraseIdx ((0 : Int)).toNat)).s3 ((wl.s3 (wl.2.2.2.eraseIdx ((0 : Int)).toNat)).2.2.2 ++ [r1])), G_24), rfl, ⟨jzKp.s _ _ _, jzKp.f hi_1_2 (by omega) (by omega), fun z hz => jzKp.m hz⟩, ⟨hh_32.ra (by first | (simp only; omega) | omega) (by first | (simp only; omega) | omega) (M1 := []) [] rfl ht, hNn_24, by rw [ht]; exact hh_32.2.2.2.2.2.2.2.2.sub (L1 := [(jFl, jLs dC dI ca G_24 3 none ((wl.s3 (wl.2.2.2.eraseIdx ((0 : Int)).toNat)).s3 ((wl.s3 (wl.2.2.2.eraseIdx ((0 : Int)).toNat)).2.2.2 ++ [r1]))), (jFun, jUN dC dI ca G_24 0 us rw)]) [0, 1] rfl⟩⟩, by rw [ht]; try exact hh_32.1.1, fun q h9 hq => by rw [ht]; try exact hh_32.1.2.1 q h9 hq⟩) hh_32.1.2.2 dX11_remember_104
        · skip
          have c_7' : v2_1.toInt < r_6.toInt := jb_ge_n (rfl) (rfl) c_7
          refine lv_aload_n hx hb dX11_remember_54 rfl (lv_at hl 0 rfl) ?_
          refine j7_read hx hb hown hK (C := RX11) (T := TX11) (N := 19) rfl hly_13_9 hlk_68 (hh_5.at 0 rfl) dX11_remember_55 ?_
          refine lv_iload_n hx hb dX11_remember_58 rfl (lv_at hl 2 rfl) ?_
          have hsz_34 := hh_5.2.2.2.2.2.1
          have htt_34 := hh_5.2.2.2.2.2.2.1
          refine W.room (fun hrc_34 hrs_34 => ?_)
          refine j_callFx (A0 := jA base) (H0 := s.heap) (va_runF (hK.1 1 _ rfl).2 (As := [.int v2_1]) (rest := []) ⟨hx, hb, hml, hown, hts⟩ (uJx4a65c_remove_915e3L3 l dC dI ca base B hB hAp hB1 hB11 hB223 G0 H_5 ch_ v2_1 cz wl) (va_cwF 1 hts (jgF (jWr_42 _ (List.mem_of_getElem? (i := 7) rfl)) (jWr_42 _ (List.mem_of_getElem? (i := 8) rfl)) (jWr_42 _ (List.mem_of_getElem? (i := 9) rfl)) (jWr_2 _ (List.mem_of_getElem? (i := 13) rfl)) (jWr_42 _ (List.mem_of_getElem? (i := 10) rfl))) rfl rfl rfl hK7.2.2.2.2.2.1.2.2.2 ⟨by decide, by decide, by decide +kernel⟩ ⟨by rw [← hR]; exact Nat.le_of_ble_eq_true rfl, by rw [← hR]; exact Nat.le_of_ble_eq_true rfl⟩) ⟨fun a U g mk q => by obtain ⟨q0, q1, q2, qK, q10, q11, q12, q13, q14⟩ := q; exact ⟨q0, q1, q2, jG.calling g mk a qK, (jK7.calling g mk a q10), q11, q12, q13, q14⟩, hh_5.recv (C := RJx4a65c) (T := TJx4a65c) (N := 3) hB1 rfl (by decide) hg_ch_ hK, fun U hU hW => ⟨rfl, hU, hh_5.2.1, hG.step hW hU hh_5.1, (hK7.step hW hU hh_5.1), hg_ch_, (hh_5.2.2.1.sub (L1 := [(ch_, 1, 2, .int cz)]) [1] rfl), (hh_5.2.2.2.2.2.2.2.2.sub (L1 := [(jFl, jLs dC dI ca G0 3 none wl)]) [0] rfl), by first | omega | (refine ⟨?_, ?_⟩ <;> (first | omega | rfl | assumption | decide | exact Or.inl rfl | exact Or.inr rfl | (simp only; omega)))⟩⟩ rfl rfl hl.1 rfl (lv_room (Nat.le_of_ble_eq_true rfl)) dX11_remember_59 ⟨by rw [hRc]; show _ + 0 ≤ _; omega, by rw [hRs]; show _ + 0 ≤ _; omega⟩) hh_5.1 (fun q _ h => h) (fun q h => h) (fun r_35 u_34 t_34 H_34 locs_34 ht_34 hvm_34 hr_35 hb_34 hz_34 hk_34 hS_34 => ?_)
          obtain ⟨qz_34, rfl⟩ : ∃ z, z = u_34 := ⟨_, rfl⟩
          rw [ht_34] at hb_34
          obtain ⟨hb_34, hbE_34⟩ := hb_34
          obtain ⟨hb_34, hbO_34⟩ := hb_34
          obtain ⟨hb_341, hb_342, hb_343, hb_344, hb_345⟩ := hb_34
          have hh_34 : jSt (dC, dI) B base G0 G0 EX11_rememberN s.heap 0 0 [(ch_, 1, 2, .int qz_34), (r0, 13, 9, .ref ch_)] [] [(jFl, jLs dC dI ca G0 3 none (wl.s3 (wl.2.2.2.eraseIdx (v2_1.toInt).toNat))), (jFun, jUN dC dI ca G0 0 us rw)] H_34 locs_34 := (((hh_5.call hb_341 hb_342 hb_343 hb_344 hS_34 rfl (L1 := [(r0, 13, 9, .ref ch_)]) [0] rfl rfl (M1 := []) [] rfl rfl (I1 := [(jFun, jUN dC dI ca G0 0 us rw)]) [1] rfl rfl).more hb_345)).addIs hbE_34
          clear hh_5 ht_34 hvm_34 hz_34 hk_34 hS_34 hb_341 hb_342 hb_343 hb_344 hb_345
          clear  hbE_34
          obtain ⟨hr_35, hr_35p⟩ := hr_35
          obtain ⟨ret_36, rfl, hg_ret_36⟩ := hr_35
          refine lv_pop hx hb dX11_remember_64 rfl ?_
          refine lv_goto (tgt := 93) hx hb dX11_remember_65 (by decide) ?_
          refine lv_aload_n hx hb dX11_remember_93 rfl (lv_at hl 0 rfl) ?_
          refine j7_read hx hb hown hK (C := RX11) (T := TX11) (N := 19) rfl hly_13_9 hlk_68 (hh_34.at 1 rfl) dX11_remember_94 ?_
          refine lv_aload_n hx hb dX11_remember_97 rfl (lv_at hl 1 rfl) ?_
          have hsz_37 := hh_34.2.2.2.2.2.1
          have htt_37 := hh_34.2.2.2.2.2.2.1
          refine W.room (fun hrc_37 hrs_37 => ?_)
          refine va_callFi (A0 := jA base) (H0 := s.heap) (va_runF (hK.1 1 _ rfl).2 (As := [.ref r1]) (rest := []) ⟨hx, hb, hml, hown, hts⟩ (uJx4a65c_add_9ea2dL3 l dC dI ca base B hB hAp hB1 hB11 hB223 G0 H_34 ch_ r1 qz_34 (wl.s3 (wl.2.2.2.eraseIdx (v2_1.toInt).toNat)) LC LS) (va_cwF 1 hts (jgF (jWr_33 _ (List.mem_of_getElem? (i := 7) rfl)) (jWr_33 _ (List.mem_of_getElem? (i := 8) rfl)) (jWr_33 _ (List.mem_of_getElem? (i := 9) rfl)) (jWr_2 _ (List.mem_of_getElem? (i := 13) rfl)) (jWr_33 _ (List.mem_of_getElem? (i := 10) rfl))) rfl rfl rfl hK7.2.2.2.2.2.1.2.2.1 ⟨by decide, by decide, by decide +kernel⟩ ⟨by rw [← hR]; exact Nat.le_of_ble_eq_true rfl, by rw [← hR]; exact Nat.le_of_ble_eq_true rfl⟩) ⟨fun a U g mk q => by obtain ⟨q0, q1, q2, qK, q10, q11, q12, q13, q14, q15⟩ := q; exact ⟨q0, q1, q2, jG.calling g mk a qK, (jK7.calling g mk a q10), q11, q12, q13, q14, q15⟩, hh_34.recv (C := RJx4a65c) (T := TJx4a65c) (N := 3) hB1 rfl (by decide) hg_ch_ hK, fun U hU hW => ⟨rfl, hU, hh_34.2.1, hG.step hW hU hh_34.1, (hK7.step hW hU hh_34.1), hg_ch_, hg_r1, (hh_34.2.2.1.sub (L1 := [(ch_, 1, 2, .int qz_34)]) [0] rfl), (hh_34.2.2.2.2.2.2.2.2.sub (L1 := [(jFl, jLs dC dI ca G0 3 none (wl.s3 (wl.2.2.2.eraseIdx (v2_1.toInt).toNat)))]) [0] rfl), by first | omega | (refine ⟨?_, ?_⟩ <;> (first | omega | rfl | assumption | decide | exact Or.inl rfl | exact Or.inr rfl | (simp only; omega)))⟩⟩ rfl rfl hl.1 rfl (lv_room (Nat.le_of_ble_eq_true rfl)) dX11_remember_98 ⟨by rw [hRc]; omega, by rw [hRs]; omega⟩) hh_34.1 (fun q _ h => h) (fun q h => h) (fun r_38 u_37 t_37 H_37 locs_37 ht_37 hvm_37 hr_38 hb_37 hz_37 hk_37 hS_37 => ?_)
          obtain ⟨qz_37, G_37⟩ := u_37
          rw [ht_37] at hb_37
          simp only at hb_37
          obtain ⟨⟨hb_371, hb_372, hb_373, hb_374, hb_375, hb_376⟩, hN_37, hbE_37⟩ := hb_37
          have hW_37 := hN_37
          have hh_37 : jSt (dC, dI) B base G0 G_37 EX11_rememberN s.heap (0 + (1)) (0 + (40)) [(ch_, 1, 2, .int qz_37), (r0, 13, 9, .ref ch_)] [] [(jFun, jUN dC dI ca G0 0 us rw)] H_37 locs_37 := (hh_34.callG hb_371 hb_372 hb_373 hb_374 hb_375 hS_37 rfl (L1 := [(r0, 13, 9, .ref ch_)]) [1] rfl rfl (M1 := []) [] rfl rfl (I1 := [(jFun, jUN dC dI ca G0 0 us rw)]) [1] rfl rfl).more hb_376
          have hNn_37 : (jNk [0, 1, 2, 3, 4, 5, 6, 7, 8, 9, 10, 11, 12, 13, 14, 15, 16, 17, 175]) G0 G_37 := (jNk.rf).tr hN_37
          have hg_39 := hb_372 _ _ hg_r0
          have hg_40 := hb_372 _ _ hg_r1
          have hg_41 := hb_372 _ _ hg_ch_
          have hd_42 := jUN.grow (r := 0) (hh_37.iv 0 rfl) hb_372 hW_37 (by decide) (by decide)
          have hh_43 := hh_37.sub (L1 := [(ch_, 1, 2, .int qz_37), (r0, 13, 9, .ref ch_)]) [0, 1] rfl (M1 := []) [] rfl (I1 := []) [] rfl
          clear hh_37
          have hh_44 := hh_43.addI (jUN.ie hd_42)
          clear hh_43
          have hh_45 := hh_44.addIs hbE_37
          obtain ⟨hr_38b, hr_38p⟩ := hr_38
          try simp only at hr_38p
          have hr_38' := jb_01 hr_38b
          refine lv_pop hx hb dX11_remember_103 rfl ?_
          have hsz_46 := hh_45.2.2.2.2.2.1
          have htt_46 := hh_45.2.2.2.2.2.2.1
          refine W.room (fun hrc_46 hrs_46 => ?_)
          refine W.widen (k := LC - s.heap.size) (n := LS - jTot s.heap) (by omega) (by omega) ?_
          rw [hQ]
          exact W.vret hx hb hr (fun t ht hW => ⟨⟨(((wl.s3 (wl.2.2.2.eraseIdx (v2_1.toInt).toNat)).s3 ((wl.s3 (wl.2.2.2.eraseIdx (v2_1.toInt).toNat)).2.2.2 ++ [r1])), G_37), rfl, (by omega : False).elim, ⟨hh_45.ra (by first | (simp only; omega) | omega) (by first | (simp only; omega) | omega) (M1 := []) [] rfl ht, hNn_37, by rw [ht]; exact hh_45.2.2.2.2.2.2.2.2.sub (L1 := [(jFl, jLs dC dI ca G_37 3 none ((wl.s3 (wl.2.2.2.eraseIdx (v2_1.toInt).toNat)).s3 ((wl.s3 (wl.2.2.2.eraseIdx (v2_1.toInt).toNat)).2.2.2 ++ [r1]))), (jFun, jUN dC dI ca G_37 0 us rw)]) [0, 1] rfl⟩⟩, by rw [ht]; try exact hh_45.1.1, fun q h9 hq => by rw [ht]; try exact hh_45.1.2.1 q h9 hq⟩) hh_45.1.2.2 dX11_remember_104
      · skip
        have c_4' : v2_1.toInt < r_3.toInt := jb_ge_n (rfl) (rfl) c_4
        refine lv_aload_n hx hb dX11_remember_15 rfl (lv_at hl 0 rfl) ?_
        refine j7_read hx hb hown hK (C := RX11) (T := TX11) (N := 19) rfl hly_13_9 hlk_68 (hh_2.at 0 rfl) dX11_remember_16 ?_
        refine lv_iload_n hx hb dX11_remember_19 rfl (lv_at hl 2 rfl) ?_
        have hsz_47 := hh_2.2.2.2.2.2.1
        have htt_47 := hh_2.2.2.2.2.2.2.1
        refine W.room (fun hrc_47 hrs_47 => ?_)
        refine j_callFx (A0 := jA base) (H0 := s.heap) (va_runF (hK.1 1 _ rfl).2 (As := [.int v2_1]) (rest := []) ⟨hx, hb, hml, hown, hts⟩ (uJx4a65c_get_915e3L3 l dC dI ca base B hB hAp hB1 hB11 hB223 G0 H_2 ch_ v2_1 cz wl) (va_cwF 1 hts (jgF (jWr_28 _ (List.mem_of_getElem? (i := 3) rfl)) (jWr_28 _ (List.mem_of_getElem? (i := 4) rfl)) (jWr_28 _ (List.mem_of_getElem? (i := 5) rfl)) (jWr_2 _ (List.mem_of_getElem? (i := 13) rfl)) (jWr_28 _ (List.mem_of_getElem? (i := 6) rfl))) rfl rfl rfl hK7.2.2.2.2.2.1.2.1 ⟨by decide, by decide, by decide +kernel⟩ ⟨by rw [← hR]; exact Nat.le_of_ble_eq_true rfl, by rw [← hR]; exact Nat.le_of_ble_eq_true rfl⟩) ⟨fun a U g mk q => by obtain ⟨q0, q1, q2, qK, q10, q11, q12, q13, q14⟩ := q; exact ⟨q0, q1, q2, jG.calling g mk a qK, (jK7.calling g mk a q10), q11, q12, q13, q14⟩, hh_2.recv (C := RJx4a65c) (T := TJx4a65c) (N := 3) hB1 rfl (by decide) hg_ch_ hK, fun U hU hW => ⟨rfl, hU, hh_2.2.1, hG.step hW hU hh_2.1, (hK7.step hW hU hh_2.1), hg_ch_, (hh_2.2.2.1.sub (L1 := [(ch_, 1, 2, .int cz)]) [1] rfl), (hh_2.2.2.2.2.2.2.2.2.sub (L1 := [(jFl, jLs dC dI ca G0 3 none wl)]) [0] rfl), by first | omega | (refine ⟨?_, ?_⟩ <;> (first | omega | rfl | assumption | decide | exact Or.inl rfl | exact Or.inr rfl | (simp only; omega)))⟩⟩ rfl rfl hl.1 rfl (lv_room (Nat.le_of_ble_eq_true rfl)) dX11_remember_20 ⟨by rw [hRc]; show _ + 0 ≤ _; omega, by rw [hRs]; show _ + 0 ≤ _; omega⟩) hh_2.1 (fun q _ h => h) (fun q h => h) (fun r_48 u_47 t_47 H_47 locs_47 ht_47 hvm_47 hr_48 hb_47 hz_47 hk_47 hS_47 => ?_)
        rw [ht_47] at hb_47
        obtain ⟨hb_47, hbE_47⟩ := hb_47
        obtain ⟨hb_471, hb_472, hb_473, hb_474, hb_475⟩ := hb_47
        have hh_47 : jSt (dC, dI) B base G0 G0 EX11_rememberN s.heap 0 0 [(r0, 13, 9, .ref ch_), (ch_, 1, 2, .int cz)] [] [(jFl, jLs dC dI ca G0 3 none wl), (jFun, jUN dC dI ca G0 0 us rw)] H_47 locs_47 := (((hh_2.call hb_471 hb_472 hb_473 hb_474 hS_47 rfl (L1 := [(r0, 13, 9, .ref ch_), (ch_, 1, 2, .int cz)]) [0, 1] rfl rfl (M1 := []) [] rfl rfl (I1 := [(jFun, jUN dC dI ca G0 0 us rw)]) [1] rfl rfl).more hb_475)).addIs hbE_47
        clear hh_2 ht_47 hvm_47 hz_47 hk_47 hS_47 hb_471 hb_472 hb_473 hb_474 hb_475
        clear  hbE_47
        obtain ⟨hr_48, hr_48p⟩ := hr_48
        obtain ⟨ret_49, rfl, hg_ret_49⟩ := hr_48
        refine va_castY hx hb hown (htw (.classLink RX11 189 "ProofServer$State") (jWr_77 _ (List.mem_of_getElem? (i := 12) rfl))) hK7.2.2.1.2.2.2 (hh_47.recv (C := RX9) (T := TX9) (N := 9) hB11 rfl (by decide) hg_ret_49 hK) dX11_remember_25 ?_
        refine lv_aload_n hx hb dX11_remember_28 rfl (lv_at hl 1 rfl) ?_
        have hsz_50 := hh_47.2.2.2.2.2.1
        have htt_50 := hh_47.2.2.2.2.2.2.1
        refine W.room (fun hrc_50 hrs_50 => ?_)
        refine va_calli (A0 := jA base) (H0 := s.heap) (va_runS (As := [.ref ret_49, .ref r1]) (rest := []) ⟨hx, hb, hml, hown, hts⟩ (uX9_isSameRowN l dC dI ca base B hB hAp hB11 hB175 G0 H_47 ret_49 r1 us rw) (va_cwS 2 hts (jgS (jWr_77 _ (List.mem_of_getElem? (i := 18) rfl)) (jWr_77 _ (List.mem_of_getElem? (i := 19) rfl)) (jWr_4 _ (List.mem_of_getElem? (i := 18) rfl)) (jWr_77 _ (List.mem_of_getElem? (i := 20) rfl))) rfl rfl rfl (by decide +kernel) ⟨by rw [← hR]; exact Nat.le_of_ble_eq_true rfl, by rw [← hR]; exact Nat.le_of_ble_eq_true rfl⟩) ⟨fun a U g mk q => by obtain ⟨q0, q1, q2, qK, q10, q11, q12, q13, q14⟩ := q; exact ⟨q0, q1, q2, jG.calling g mk a qK, q10, q11, q12, q13, q14⟩, fun U hU hW => ⟨rfl, hU, hh_47.2.1, hG.step hW hU hh_47.1, hg_ret_49, hg_r1, jP.nil, (hh_47.2.2.2.2.2.2.2.2.sub (L1 := [(jFun, jUN dC dI ca G0 0 us rw)]) [1] rfl), ⟨(by first | assumption | exact hp0 | exact hp1 _ (List.mem_of_getElem? (jdAt hr_48p)) | omega), (by first | assumption | exact hp0 | exact hp1 _ (List.mem_of_getElem? (jdAt hr_48p)) | omega)⟩⟩⟩ rfl rfl hl.1 rfl (lv_room (Nat.le_of_ble_eq_true rfl)) dX11_remember_29 ⟨by rw [hRc]; show _ + 0 ≤ _; omega, by rw [hRs]; show _ + 0 ≤ _; omega⟩) hh_47.1 (fun q _ h => h) (fun q h => h) (fun r_51 u_50 t_50 H_50 locs_50 ht_50 hvm_50 hr_51 hb_50 hz_50 hk_50 hS_50 => ?_)
        rw [ht_50] at hb_50
        obtain ⟨hb_50, hbE_50⟩ := hb_50
        obtain ⟨hb_501, hb_502, hb_503, hb_504, hb_505⟩ := hb_50
        have hh_50 : jSt (dC, dI) B base G0 G0 EX11_rememberN s.heap 0 0 [(r0, 13, 9, .ref ch_), (ch_, 1, 2, .int cz)] [] [(jFun, jUN dC dI ca G0 0 us rw), (jFl, jLs dC dI ca G0 3 none wl)] H_50 locs_50 := (((hh_47.call hb_501 hb_502 hb_503 hb_504 hS_50 rfl (L1 := [(r0, 13, 9, .ref ch_), (ch_, 1, 2, .int cz)]) [0, 1] rfl rfl (M1 := []) [] rfl rfl (I1 := [(jFl, jLs dC dI ca G0 3 none wl)]) [0] rfl rfl).more hb_505)).addIs hbE_50
        clear hh_47 ht_50 hvm_50 hz_50 hk_50 hS_50 hb_501 hb_502 hb_503 hb_504 hb_505
        clear  hbE_50
        obtain ⟨hr_51b, hr_51p⟩ := hr_51
        have hsr9 := hr_51p
        have hr_51' := jb_01 hr_51b
        refine lv_if_ne (tgt := 41) hx hb dX11_remember_32 (by decide) (fun c_52 => ?_) (fun c_52 => ?_)
        · skip
          have c_52' : r_51.toInt ≠ 0 := jb_ne (rfl) ((by decide)) c_52
          first | (have hr_51pq := hr_51p.resolve_left (by omega); clear hr_51p) | (have hr_51pq := hr_51p.resolve_right (by omega); clear hr_51p) | try clear hr_51p
          refine lv_iload_n hx hb dX11_remember_41 rfl (lv_at hl 2 rfl) ?_
          refine lv_aload_n hx hb dX11_remember_42 rfl (lv_at hl 0 rfl) ?_
          refine j7_read hx hb hown hK (C := RX11) (T := TX11) (N := 19) rfl hly_13_9 hlk_68 (hh_50.at 0 rfl) dX11_remember_43 ?_
          have hsz_53 := hh_50.2.2.2.2.2.1
          have htt_53 := hh_50.2.2.2.2.2.2.1
          refine W.room (fun hrc_53 hrs_53 => ?_)
          refine va_callFi (A0 := jA base) (H0 := s.heap) (va_runF (hK.1 1 _ rfl).2 (As := []) (rest := [.int v2_1]) ⟨hx, hb, hml, hown, hts⟩ (uJx4a65c_size_8abf5 l dC dI ca base B hB hAp hB1 G0 H_50 ch_ 3 cz) (va_cwF 0 hts (jgF (jWr_27 _ (List.mem_of_getElem? (i := 22) rfl)) (jWr_27 _ (List.mem_of_getElem? (i := 23) rfl)) (jWr_28 _ (List.mem_of_getElem? (i := 0) rfl)) (jWr_2 _ (List.mem_of_getElem? (i := 13) rfl)) (jWr_28 _ (List.mem_of_getElem? (i := 1) rfl))) rfl rfl rfl hK7.2.2.2.2.2.1.1 ⟨by decide, by decide, by decide +kernel⟩ ⟨by rw [← hR]; exact Nat.le_of_ble_eq_true rfl, by rw [← hR]; exact Nat.le_of_ble_eq_true rfl⟩) ⟨fun a U g mk q => by obtain ⟨q0, q1, q2, qK, q10, q11, q12⟩ := q; exact ⟨q0, q1, q2, jG.calling g mk a qK, q10, q11, q12⟩, hh_50.recv (C := RJx4a65c) (T := TJx4a65c) (N := 3) hB1 rfl (by decide) hg_ch_ hK, fun U hU hW => ⟨rfl, hU, hh_50.2.1, hG.step hW hU hh_50.1, hg_ch_, (hh_50.2.2.1.sub (L1 := [(ch_, 1, 2, .int cz)]) [1] rfl), trivial⟩⟩ rfl rfl hl.1 rfl (lv_room (Nat.le_of_ble_eq_true rfl)) dX11_remember_46 ⟨by rw [hRc]; show _ + 0 ≤ _; omega, by rw [hRs]; show _ + 0 ≤ _; omega⟩) hh_50.1 (fun q _ h => h) (fun q h => h) (fun r_54 u_53 t_53 H_53 locs_53 ht_53 hvm_53 hr_54 hb_53 hz_53 hk_53 hS_53 => ?_)
          rw [ht_53] at hb_53
          obtain ⟨hb_531, hb_532, hb_533, hb_534, hb_535⟩ := hb_53
          have hh_53 : jSt (dC, dI) B base G0 G0 EX11_rememberN s.heap 0 0 [(r0, 13, 9, .ref ch_), (ch_, 1, 2, .int cz)] [] [(jFun, jUN dC dI ca G0 0 us rw), (jFl, jLs dC dI ca G0 3 none wl)] H_53 locs_53 := ((hh_50.call hb_531 hb_532 hb_533 hb_534 hS_53 rfl (L1 := [(r0, 13, 9, .ref ch_), (ch_, 1, 2, .int cz)]) [0, 1] rfl rfl (M1 := []) [] rfl rfl (I1 := [(jFun, jUN dC dI ca G0 0 us rw), (jFl, jLs dC dI ca G0 3 none wl)]) [0, 1] rfl rfl).more hb_535)
          clear hh_50 ht_53 hvm_53 hz_53 hk_53 hS_53 hb_531 hb_532 hb_533 hb_534 hb_535
          refine lv_icmp_ge (tgt := 68) hx hb dX11_remember_51 (by decide) (fun c_55 => ?_) (fun c_55 => ?_)
          · skip
            have c_55' : v2_1.toInt ≥ r_54.toInt := jb_ge (rfl) (rfl) c_55
            refine lv_aload_n hx hb dX11_remember_68 rfl (lv_at hl 0 rfl) ?_
            refine j7_read hx hb hown hK (C := RX11) (T := TX11) (N := 19) rfl hly_13_9 hlk_68 (hh_53.at 0 rfl) dX11_remember_69 ?_
            have hsz_56 := hh_53.2.2.2.2.2.1
            have htt_56 := hh_53.2.2.2.2.2.2.1
            refine W.room (fun hrc_56 hrs_56 => ?_)
            refine va_callFi (A0 := jA base) (H0 := s.heap) (va_runF (hK.1 1 _ rfl).2 (As := []) (rest := []) ⟨hx, hb, hml, hown, hts⟩ (uJx4a65c_size_8abf5 l dC dI ca base B hB hAp hB1 G0 H_53 ch_ 3 cz) (va_cwF 0 hts (jgF (jWr_27 _ (List.mem_of_getElem? (i := 22) rfl)) (jWr_27 _ (List.mem_of_getElem? (i := 23) rfl)) (jWr_28 _ (List.mem_of_getElem? (i := 0) rfl)) (jWr_2 _ (List.mem_of_getElem? (i := 13) rfl)) (jWr_28 _ (List.mem_of_getElem? (i := 1) rfl))) rfl rfl rfl hK7.2.2.2.2.2.1.1 ⟨by decide, by decide, by decide +kernel⟩ ⟨by rw [← hR]; exact Nat.le_of_ble_eq_true rfl, by rw [← hR]; exact Nat.le_of_ble_eq_true rfl⟩) ⟨fun a U g mk q => by obtain ⟨q0, q1, q2, qK, q10, q11, q12⟩ := q; exact ⟨q0, q1, q2, jG.calling g mk a qK, q10, q11, q12⟩, hh_53.recv (C := RJx4a65c) (T := TJx4a65c) (N := 3) hB1 rfl (by decide) hg_ch_ hK, fun U hU hW => ⟨rfl, hU, hh_53.2.1, hG.step hW hU hh_53.1, hg_ch_, (hh_53.2.2.1.sub (L1 := [(ch_, 1, 2, .int cz)]) [1] rfl), trivial⟩⟩ rfl rfl hl.1 rfl (lv_room (Nat.le_of_ble_eq_true rfl)) dX11_remember_72 ⟨by rw [hRc]; show _ + 0 ≤ _; omega, by rw [hRs]; show _ + 0 ≤ _; omega⟩) hh_53.1 (fun q _ h => h) (fun q h => h) (fun r_57 u_56 t_56 H_56 locs_56 ht_56 hvm_56 hr_57 hb_56 hz_56 hk_56 hS_56 => ?_)
            rw [ht_56] at hb_56
            obtain ⟨hb_561, hb_562, hb_563, hb_564, hb_565⟩ := hb_56
            have hh_56 : jSt (dC, dI) B base G0 G0 EX11_rememberN s.heap 0 0 [(r0, 13, 9, .ref ch_), (ch_, 1, 2, .int cz)] [] [(jFun, jUN dC dI ca G0 0 us rw), (jFl, jLs dC dI ca G0 3 none wl)] H_56 locs_56 := ((hh_53.call hb_561 hb_562 hb_563 hb_564 hS_56 rfl (L1 := [(r0, 13, 9, .ref ch_), (ch_, 1, 2, .int cz)]) [0, 1] rfl rfl (M1 := []) [] rfl rfl (I1 := [(jFun, jUN dC dI ca G0 0 us rw), (jFl, jLs dC dI ca G0 3 none wl)]) [0, 1] rfl rfl).more hb_565)
            clear hh_53 ht_56 hvm_56 hz_56 hk_56 hS_56 hb_561 hb_562 hb_563 hb_564 hb_565
            refine lv_bipush (v := 24) hx hb dX11_remember_77 (by decide) ?_
            refine lv_icmp_lt (tgt := 93) hx hb dX11_remember_79 (by decide) (fun c_58 => ?_) (fun c_58 => ?_)
            · skip
              have c_58' : r_57.toInt < 24 := jb_lt (rfl) ((by decide)) c_58
              refine lv_aload_n hx hb dX11_remember_93 rfl (lv_at hl 0 rfl) ?_
              refine j7_read hx hb hown hK (C := RX11) (T := TX11) (N := 19) rfl hly_13_9 hlk_68 (hh_56.at 0 rfl) dX11_remember_94 ?_
              refine lv_aload_n hx hb dX11_remember_97 rfl (lv_at hl 1 rfl) ?_
              have hsz_59 := hh_56.2.2.2.2.2.1
              have htt_59 := hh_56.2.2.2.2.2.2.1
              refine W.room (fun hrc_59 hrs_59 => ?_)
              refine va_callFi (A0 := jA base) (H0 := s.heap) (va_runF (hK.1 1 _ rfl).2 (As := [.ref r1]) (rest := []) ⟨hx, hb, hml, hown, hts⟩ (uJx4a65c_add_9ea2dL3 l dC dI ca base B hB hAp hB1 hB11 hB223 G0 H_56 ch_ r1 cz wl LC LS) (va_cwF 1 hts (jgF (jWr_33 _ (List.mem_of_getElem? (i := 7) rfl)) (jWr_33 _ (List.mem_of_getElem? (i := 8) rfl)) (jWr_33 _ (List.mem_of_getElem? (i := 9) rfl)) (jWr_2 _ (List.mem_of_getElem? (i := 13) rfl)) (jWr_33 _ (List.mem_of_getElem? (i := 10) rfl))) rfl rfl rfl hK7.2.2.2.2.2.1.2.2.1 ⟨by decide, by decide, by decide +kernel⟩ ⟨by rw [← hR]; exact Nat.le_of_ble_eq_true rfl, by rw [← hR]; exact Nat.le_of_ble_eq_true rfl⟩) ⟨fun a U g mk q => by obtain ⟨q0, q1, q2, qK, q10, q11, q12, q13, q14, q15⟩ := q; exact ⟨q0, q1, q2, jG.calling g mk a qK, (jK7.calling g mk a q10), q11, q12, q13, q14, q15⟩, hh_56.recv (C := RJx4a65c) (T := TJx4a65c) (N := 3) hB1 rfl (by decide) hg_ch_ hK, fun U hU hW => ⟨rfl, hU, hh_56.2.1, hG.step hW hU hh_56.1, (hK7.step hW hU hh_56.1), hg_ch_, hg_r1, (hh_56.2.2.1.sub (L1 := [(ch_, 1, 2, .int cz)]) [1] rfl), (hh_56.2.2.2.2.2.2.2.2.sub (L1 := [(jFl, jLs dC dI ca G0 3 none wl)]) [1] rfl), by first | omega | (refine ⟨?_, ?_⟩ <;> (first | omega | rfl | assumption | decide | exact Or.inl rfl | exact Or.inr rfl | (simp only; omega)))⟩⟩ rfl rfl hl.1 rfl (lv_room (Nat.le_of_ble_eq_true rfl)) dX11_remember_98 ⟨by rw [hRc]; omega, by rw [hRs]; omega⟩) hh_56.1 (fun q _ h => h) (fun q h => h) (fun r_60 u_59 t_59 H_59 locs_59 ht_59 hvm_59 hr_60 hb_59 hz_59 hk_59 hS_59 => ?_)
              obtain ⟨qz_59, G_59⟩ := u_59
              rw [ht_59] at hb_59
              simp only at hb_59
              obtain ⟨⟨hb_591, hb_592, hb_593, hb_594, hb_595, hb_596⟩, hN_59, hbE_59⟩ := hb_59
              have hW_59 := hN_59
              have hh_59 : jSt (dC, dI) B base G0 G_59 EX11_rememberN s.heap (0 + (1)) (0 + (40)) [(ch_, 1, 2, .int qz_59), (r0, 13, 9, .ref ch_)] [] [(jFun, jUN dC dI ca G0 0 us rw)] H_59 locs_59 := (hh_56.callG hb_591 hb_592 hb_593 hb_594 hb_595 hS_59 rfl (L1 := [(r0, 13, 9, .ref ch_)]) [0] rfl rfl (M1 := []) [] rfl rfl (I1 := [(jFun, jUN dC dI ca G0 0 us rw)]) [0] rfl rfl).more hb_596
              have hNn_59 : (jNk [0, 1, 2, 3, 4, 5, 6, 7, 8, 9, 10, 11, 12, 13, 14, 15, 16, 17, 175]) G0 G_59 := (jNk.rf).tr hN_59
              have hg_61 := hb_592 _ _ hg_r0
              have hg_62 := hb_592 _ _ hg_r1
              have hg_63 := hb_592 _ _ hg_ch_
              have hd_64 := jUN.grow (r := 0) (hh_59.iv 0 rfl) hb_592 hW_59 (by decide) (by decide)
              have hh_65 := hh_59.sub (L1 := [(ch_, 1, 2, .int qz_59), (r0, 13, 9, .ref ch_)]) [0, 1] rfl (M1 := []) [] rfl (I1 := []) [] rfl
              clear hh_59
              have hh_66 := hh_65.addI (jUN.ie hd_64)
              clear hh_65
              have hh_67 := hh_66.addIs hbE_59
              obtain ⟨hr_60b, hr_60p⟩ := hr_60
              try simp only at hr_60p
              have hr_60' := jb_01 hr_60b
              refine lv_pop hx hb dX11_remember_103 rfl ?_
              have hsz_68 := hh_67.2.2.2.2.2.1
              have htt_68 := hh_67.2.2.2.2.2.2.1
              refine W.room (fun hrc_68 hrs_68 => ?_)
              refine W.widen (k := LC - s.heap.size) (n := LS - jTot s.heap) (by omega) (by omega) ?_
              rw [hQ]
              exact W.vret hx hb hr (fun t ht hW => ⟨⟨((wl.s3 (wl.2.2.2 ++ [r1])), G_59), rfl, (by omega : False).elim, ⟨hh_67.ra (by first | (simp only; omega) | omega) (by first | (simp only; omega) | omega) (M1 := []) [] rfl ht, hNn_59, by rw [ht]; exact hh_67.2.2.2.2.2.2.2.2.sub (L1 := [(jFl, jLs dC dI ca G_59 3 none (wl.s3 (wl.2.2.2 ++ [r1]))), (jFun, jUN dC dI ca G_59 0 us rw)]) [0, 1] rfl⟩⟩, by rw [ht]; try exact hh_67.1.1, fun q h9 hq => by rw [ht]; try exact hh_67.1.2.1 q h9 hq⟩) hh_67.1.2.2 dX11_remember_104
            · skip
              have c_58' : r_57.toInt ≥ 24 := jb_lt_n (rfl) ((by decide)) c_58
              refine lv_aload_n hx hb dX11_remember_82 rfl (lv_at hl 0 rfl) ?_
              refine j7_read hx hb hown hK (C := RX11) (T := TX11) (N := 19) rfl hly_13_9 hlk_68 (hh_56.at 0 rfl) dX11_remember_83 ?_
              refine lv_iconst (v := 0) hx hb dX11_remember_86 (by decide) ?_
              have hsz_69 := hh_56.2.2.2.2.2.1
              have htt_69 := hh_56.2.2.2.2.2.2.1
              refine W.room (fun hrc_69 hrs_69 => ?_)
              refine j_callFx (A0 := jA base) (H0 := s.heap) (va_runF (hK.1 1 _ rfl).2 (As := [.int 0]) (rest := []) ⟨hx, hb, hml, hown, hts⟩ (uJx4a65c_remove_915e3L3 l dC dI ca base B hB hAp hB1 hB11 hB223 G0 H_56 ch_ 0 cz wl) (va_cwF 1 hts (jgF (jWr_42 _ (List.mem_of_getElem? (i := 7) rfl)) (jWr_42 _ (List.mem_of_getElem? (i := 8) rfl)) (jWr_42 _ (List.mem_of_getElem? (i := 9) rfl)) (jWr_2 _ (List.mem_of_getElem? (i := 13) rfl)) (jWr_42 _ (List.mem_of_getElem? (i := 10) rfl))) rfl rfl rfl hK7.2.2.2.2.2.1.2.2.2 ⟨by decide, by decide, by decide +kernel⟩ ⟨by rw [← hR]; exact Nat.le_of_ble_eq_true rfl, by rw [← hR]; exact Nat.le_of_ble_eq_true rfl⟩) ⟨fun a U g mk q => by obtain ⟨q0, q1, q2, qK, q10, q11, q12, q13, q14⟩ := q; exact ⟨q0, q1, q2, jG.calling g mk a qK, (jK7.calling g mk a q10), q11, q12, q13, q14⟩, hh_56.recv (C := RJx4a65c) (T := TJx4a65c) (N := 3) hB1 rfl (by decide) hg_ch_ hK, fun U hU hW => ⟨rfl, hU, hh_56.2.1, hG.step hW hU hh_56.1, (hK7.step hW hU hh_56.1), hg_ch_, (hh_56.2.2.1.sub (L1 := [(ch_, 1, 2, .int cz)]) [1] rfl), (hh_56.2.2.2.2.2.2.2.2.sub (L1 := [(jFl, jLs dC dI ca G0 3 none wl)]) [1] rfl), by first | omega | (refine ⟨?_, ?_⟩ <;> (first | omega | rfl | assumption | decide | exact Or.inl rfl | exact Or.inr rfl | (simp only; omega)))⟩⟩ rfl rfl hl.1 rfl (lv_room (Nat.le_of_ble_eq_true rfl)) dX11_remember_87 ⟨by rw [hRc]; show _ + 0 ≤ _; omega, by rw [hRs]; show _ + 0 ≤ _; omega⟩) hh_56.1 (fun q _ h => h) (fun q h => h) (fun r_70 u_69 t_69 H_69 locs_69 ht_69 hvm_69 hr_70 hb_69 hz_69 hk_69 hS_69 => ?_)
              obtain ⟨qz_69, rfl⟩ : ∃ z, z = u_69 := ⟨_, rfl⟩
              rw [ht_69] at hb_69
              obtain ⟨hb_69, hbE_69⟩ := hb_69
              obtain ⟨hb_69, hbO_69⟩ := hb_69
              obtain ⟨hb_691, hb_692, hb_693, hb_694, hb_695⟩ := hb_69
              have hh_69 : jSt (dC, dI) B base G0 G0 EX11_rememberN s.heap 0 0 [(ch_, 1, 2, .int qz_69), (r0, 13, 9, .ref ch_)] [] [(jFl, jLs dC dI ca G0 3 none (wl.s3 (wl.2.2.2.eraseIdx ((0 : Int)).toNat))), (jFun, jUN dC dI ca G0 0 us rw)] H_69 locs_69 := (((hh_56.call hb_691 hb_692 hb_693 hb_694 hS_69 rfl (L1 := [(r0, 13, 9, .ref ch_)]) [0] rfl rfl (M1 := []) [] rfl rfl (I1 := [(jFun, jUN dC dI ca G0 0 us rw)]) [0] rfl rfl).more hb_695)).addIs hbE_69
              clear hh_56 ht_69 hvm_69 hz_69 hk_69 hS_69 hb_691 hb_692 hb_693 hb_694 hb_695
              clear  hbE_69
              obtain ⟨hr_70, hr_70p⟩ := hr_70
              obtain ⟨ret_71, rfl, hg_ret_71⟩ := hr_70
              refine lv_pop hx hb dX11_remember_92 rfl ?_
              refine lv_aload_n hx hb dX11_remember_93 rfl (lv_at hl 0 rfl) ?_
              refine j7_read hx hb hown hK (C := RX11) (T := TX11) (N := 19) rfl hly_13_9 hlk_68 (hh_69.at 1 rfl) dX11_remember_94 ?_
              refine lv_aload_n hx hb dX11_remember_97 rfl (lv_at hl 1 rfl) ?_
              have hsz_72 := hh_69.2.2.2.2.2.1
              have htt_72 := hh_69.2.2.2.2.2.2.1
              refine W.room (fun hrc_72 hrs_72 => ?_)
              refine va_callFi (A0 := jA base) (H0 := s.heap) (va_runF (hK.1 1 _ rfl).2 (As := [.ref r1]) (rest := []) ⟨hx, hb, hml, hown, hts⟩ (uJx4a65c_add_9ea2dL3 l dC dI ca base B hB hAp hB1 hB11 hB223 G0 H_69 ch_ r1 qz_69 (wl.s3 (wl.2.2.2.eraseIdx ((0 : Int)).toNat)) LC LS) (va_cwF 1 hts (jgF (jWr_33 _ (List.mem_of_getElem? (i := 7) rfl)) (jWr_33 _ (List.mem_of_getElem? (i := 8) rfl)) (jWr_33 _ (List.mem_of_getElem? (i := 9) rfl)) (jWr_2 _ (List.mem_of_getElem? (i := 13) rfl)) (jWr_33 _ (List.mem_of_getElem? (i := 10) rfl))) rfl rfl rfl hK7.2.2.2.2.2.1.2.2.1 ⟨by decide, by decide, by decide +kernel⟩ ⟨by rw [← hR]; exact Nat.le_of_ble_eq_true rfl, by rw [← hR]; exact Nat.le_of_ble_eq_true rfl⟩) ⟨fun a U g mk q => by obtain ⟨q0, q1, q2, qK, q10, q11, q12, q13, q14, q15⟩ := q; exact ⟨q0, q1, q2, jG.calling g mk a qK, (jK7.calling g mk a q10), q11, q12, q13, q14, q15⟩, hh_69.recv (C := RJx4a65c) (T := TJx4a65c) (N := 3) hB1 rfl (by decide) hg_ch_ hK, fun U hU hW => ⟨rfl, hU, hh_69.2.1, hG.step hW hU hh_69.1, (hK7.step hW hU hh_69.1), hg_ch_, hg_r1, (hh_69.2.2.1.sub (L1 := [(ch_, 1, 2, .int qz_69)]) [0] rfl), (hh_69.2.2.2.2.2.2.2.2.sub (L1 := [(jFl, jLs dC dI ca G0 3 none (wl.s3 (wl.2.2.2.eraseIdx ((0 : Int)).toNat)))]) [0] rfl), by first | omega | (refine ⟨?_, ?_⟩ <;> (first | omega | rfl | assumption | decide | exact Or.inl rfl | exact Or.inr rfl | (simp only; omega)))⟩⟩ rfl rfl hl.1 rfl (lv_room (Nat.le_of_ble_eq_true rfl)) dX11_remember_98 ⟨by rw [hRc]; omega, by rw [hRs]; omega⟩) hh_69.1 (fun q _ h => h) (fun q h => h) (fun r_73 u_72 t_72 H_72 locs_72 ht_72 hvm_72 hr_73 hb_72 hz_72 hk_72 hS_72 => ?_)
              obtain ⟨qz_72, G_72⟩ := u_72
              rw [ht_72] at hb_72
              simp only at hb_72
              obtain ⟨⟨hb_721, hb_722, hb_723, hb_724, hb_725, hb_726⟩, hN_72, hbE_72⟩ := hb_72
              have hW_72 := hN_72
              have hh_72 : jSt (dC, dI) B base G0 G_72 EX11_rememberN s.heap (0 + (1)) (0 + (40)) [(ch_, 1, 2, .int qz_72), (r0, 13, 9, .ref ch_)] [] [(jFun, jUN dC dI ca G0 0 us rw)] H_72 locs_72 := (hh_69.callG hb_721 hb_722 hb_723 hb_724 hb_725 hS_72 rfl (L1 := [(r0, 13, 9, .ref ch_)]) [1] rfl rfl (M1 := []) [] rfl rfl (I1 := [(jFun, jUN dC dI ca G0 0 us rw)]) [1] rfl rfl).more hb_726
              have hNn_72 : (jNk [0, 1, 2, 3, 4, 5, 6, 7, 8, 9, 10, 11, 12, 13, 14, 15, 16, 17, 175]) G0 G_72 := (jNk.rf).tr hN_72
              have hg_74 := hb_722 _ _ hg_r0
              have hg_75 := hb_722 _ _ hg_r1
              have hg_76 := hb_722 _ _ hg_ch_
              have hd_77 := jUN.grow (r := 0) (hh_72.iv 0 rfl) hb_722 hW_72 (by decide) (by decide)
              have hh_78 := hh_72.sub (L1 := [(ch_, 1, 2, .int qz_72), (r0, 13, 9, .ref ch_)]) [0, 1] rfl (M1 := []) [] rfl (I1 := []) [] rfl
              clear hh_72
              have hh_79 := hh_78.addI (jUN.ie hd_77)
              clear hh_78
              have hh_80 := hh_79.addIs hbE_72
              obtain ⟨hr_73b, hr_73p⟩ := hr_73
              try simp only at hr_73p
              have hr_73' := jb_01 hr_73b
              refine lv_pop hx hb dX11_remember_103 rfl ?_
              have hsz_81 := hh_80.2.2.2.2.2.1
              have htt_81 := hh_80.2.2.2.2.2.2.1
              refine W.room (fun hrc_81 hrs_81 => ?_)
              refine W.widen (k := LC - s.heap.size) (n := LS - jTot s.heap) (by omega) (by omega) ?_
              rw [hQ]
              exact W.vret hx hb hr (fun t ht hW => ⟨⟨(((wl.s3 (wl.2.2.2.eraseIdx ((0 : Int)).toNat)).s3 ((wl.s3 (wl.2.2.2.eraseIdx ((0 : Int)).toNat)).2.2.2 ++ [r1])), G_72), rfl, (by omega : False).elim, ⟨hh_80.ra (by first | (simp only; omega) | omega) (by first | (simp only; omega) | omega) (M1 := []) [] rfl ht, hNn_72, by rw [ht]; exact hh_80.2.2.2.2.2.2.2.2.sub (L1 := [(jFl, jLs dC dI ca G_72 3 none ((wl.s3 (wl.2.2.2.eraseIdx ((0 : Int)).toNat)).s3 ((wl.s3 (wl.2.2.2.eraseIdx ((0 : Int)).toNat)).2.2.2 ++ [r1]))), (jFun, jUN dC dI ca G_72 0 us rw)]) [0, 1] rfl⟩⟩, by rw [ht]; try exact hh_80.1.1, fun q h9 hq => by rw [ht]; try exact hh_80.1.2.1 q h9 hq⟩) hh_80.1.2.2 dX11_remember_104
          · skip
            have c_55' : v2_1.toInt < r_54.toInt := jb_ge_n (rfl) (rfl) c_55
            refine lv_aload_n hx hb dX11_remember_54 rfl (lv_at hl 0 rfl) ?_
            refine j7_read hx hb hown hK (C := RX11) (T := TX11) (N := 19) rfl hly_13_9 hlk_68 (hh_53.at 0 rfl) dX11_remember_55 ?_
            refine lv_iload_n hx hb dX11_remember_58 rfl (lv_at hl 2 rfl) ?_
            have hsz_82 := hh_53.2.2.2.2.2.1
            have htt_82 := hh_53.2.2.2.2.2.2.1
            refine W.room (fun hrc_82 hrs_82 => ?_)
            refine j_callFx (A0 := jA base) (H0 := s.heap) (va_runF (hK.1 1 _ rfl).2 (As := [.int v2_1]) (rest := []) ⟨hx, hb, hml, hown, hts⟩ (uJx4a65c_remove_915e3L3 l dC dI ca base B hB hAp hB1 hB11 hB223 G0 H_53 ch_ v2_1 cz wl) (va_cwF 1 hts (jgF (jWr_42 _ (List.mem_of_getElem? (i := 7) rfl)) (jWr_42 _ (List.mem_of_getElem? (i := 8) rfl)) (jWr_42 _ (List.mem_of_getElem? (i := 9) rfl)) (jWr_2 _ (List.mem_of_getElem? (i := 13) rfl)) (jWr_42 _ (List.mem_of_getElem? (i := 10) rfl))) rfl rfl rfl hK7.2.2.2.2.2.1.2.2.2 ⟨by decide, by decide, by decide +kernel⟩ ⟨by rw [← hR]; exact Nat.le_of_ble_eq_true rfl, by rw [← hR]; exact Nat.le_of_ble_eq_true rfl⟩) ⟨fun a U g mk q => by obtain ⟨q0, q1, q2, qK, q10, q11, q12, q13, q14⟩ := q; exact ⟨q0, q1, q2, jG.calling g mk a qK, (jK7.calling g mk a q10), q11, q12, q13, q14⟩, hh_53.recv (C := RJx4a65c) (T := TJx4a65c) (N := 3) hB1 rfl (by decide) hg_ch_ hK, fun U hU hW => ⟨rfl, hU, hh_53.2.1, hG.step hW hU hh_53.1, (hK7.step hW hU hh_53.1), hg_ch_, (hh_53.2.2.1.sub (L1 := [(ch_, 1, 2, .int cz)]) [1] rfl), (hh_53.2.2.2.2.2.2.2.2.sub (L1 := [(jFl, jLs dC dI ca G0 3 none wl)]) [1] rfl), by first | omega | (refine ⟨?_, ?_⟩ <;> (first | omega | rfl | assumption | decide | exact Or.inl rfl | exact Or.inr rfl | (simp only; omega)))⟩⟩ rfl rfl hl.1 rfl (lv_room (Nat.le_of_ble_eq_true rfl)) dX11_remember_59 ⟨by rw [hRc]; show _ + 0 ≤ _; omega, by rw [hRs]; show _ + 0 ≤ _; omega⟩) hh_53.1 (fun q _ h => h) (fun q h => h) (fun r_83 u_82 t_82 H_82 locs_82 ht_82 hvm_82 hr_83 hb_82 hz_82 hk_82 hS_82 => ?_)
            obtain ⟨qz_82, rfl⟩ : ∃ z, z = u_82 := ⟨_, rfl⟩
            rw [ht_82] at hb_82
            obtain ⟨hb_82, hbE_82⟩ := hb_82
            obtain ⟨hb_82, hbO_82⟩ := hb_82
            obtain ⟨hb_821, hb_822, hb_823, hb_824, hb_825⟩ := hb_82
            have hh_82 : jSt (dC, dI) B base G0 G0 EX11_rememberN s.heap 0 0 [(ch_, 1, 2, .int qz_82), (r0, 13, 9, .ref ch_)] [] [(jFl, jLs dC dI ca G0 3 none (wl.s3 (wl.2.2.2.eraseIdx (v2_1.toInt).toNat))), (jFun, jUN dC dI ca G0 0 us rw)] H_82 locs_82 := (((hh_53.call hb_821 hb_822 hb_823 hb_824 hS_82 rfl (L1 := [(r0, 13, 9, .ref ch_)]) [0] rfl rfl (M1 := []) [] rfl rfl (I1 := [(jFun, jUN dC dI ca G0 0 us rw)]) [0] rfl rfl).more hb_825)).addIs hbE_82
            clear hh_53 ht_82 hvm_82 hz_82 hk_82 hS_82 hb_821 hb_822 hb_823 hb_824 hb_825
            clear  hbE_82
            obtain ⟨hr_83, hr_83p⟩ := hr_83
            obtain ⟨ret_84, rfl, hg_ret_84⟩ := hr_83
            refine lv_pop hx hb dX11_remember_64 rfl ?_
            refine lv_goto (tgt := 93) hx hb dX11_remember_65 (by decide) ?_
            refine lv_aload_n hx hb dX11_remember_93 rfl (lv_at hl 0 rfl) ?_
            refine j7_read hx hb hown hK (C := RX11) (T := TX11) (N := 19) rfl hly_13_9 hlk_68 (hh_82.at 1 rfl) dX11_remember_94 ?_
            refine lv_aload_n hx hb dX11_remember_97 rfl (lv_at hl 1 rfl) ?_
            have hsz_85 := hh_82.2.2.2.2.2.1
            have htt_85 := hh_82.2.2.2.2.2.2.1
            refine W.room (fun hrc_85 hrs_85 => ?_)
            refine va_callFi (A0 := jA base) (H0 := s.heap) (va_runF (hK.1 1 _ rfl).2 (As := [.ref r1]) (rest := []) ⟨hx, hb, hml, hown, hts⟩ (uJx4a65c_add_9ea2dL3 l dC dI ca base B hB hAp hB1 hB11 hB223 G0 H_82 ch_ r1 qz_82 (wl.s3 (wl.2.2.2.eraseIdx (v2_1.toInt).toNat)) LC LS) (va_cwF 1 hts (jgF (jWr_33 _ (List.mem_of_getElem? (i := 7) rfl)) (jWr_33 _ (List.mem_of_getElem? (i := 8) rfl)) (jWr_33 _ (List.mem_of_getElem? (i := 9) rfl)) (jWr_2 _ (List.mem_of_getElem? (i := 13) rfl)) (jWr_33 _ (List.mem_of_getElem? (i := 10) rfl))) rfl rfl rfl hK7.2.2.2.2.2.1.2.2.1 ⟨by decide, by decide, by decide +kernel⟩ ⟨by rw [← hR]; exact Nat.le_of_ble_eq_true rfl, by rw [← hR]; exact Nat.le_of_ble_eq_true rfl⟩) ⟨fun a U g mk q => by obtain ⟨q0, q1, q2, qK, q10, q11, q12, q13, q14, q15⟩ := q; exact ⟨q0, q1, q2, jG.calling g mk a qK, (jK7.calling g mk a q10), q11, q12, q13, q14, q15⟩, hh_82.recv (C := RJx4a65c) (T := TJx4a65c) (N := 3) hB1 rfl (by decide) hg_ch_ hK, fun U hU hW => ⟨rfl, hU, hh_82.2.1, hG.step hW hU hh_82.1, (hK7.step hW hU hh_82.1), hg_ch_, hg_r1, (hh_82.2.2.1.sub (L1 := [(ch_, 1, 2, .int qz_82)]) [0] rfl), (hh_82.2.2.2.2.2.2.2.2.sub (L1 := [(jFl, jLs dC dI ca G0 3 none (wl.s3 (wl.2.2.2.eraseIdx (v2_1.toInt).toNat)))]) [0] rfl), by first | omega | (refine ⟨?_, ?_⟩ <;> (first | omega | rfl | assumption | decide | exact Or.inl rfl | exact Or.inr rfl | (simp only; omega)))⟩⟩ rfl rfl hl.1 rfl (lv_room (Nat.le_of_ble_eq_true rfl)) dX11_remember_98 ⟨by rw [hRc]; omega, by rw [hRs]; omega⟩) hh_82.1 (fun q _ h => h) (fun q h => h) (fun r_86 u_85 t_85 H_85 locs_85 ht_85 hvm_85 hr_86 hb_85 hz_85 hk_85 hS_85 => ?_)
            obtain ⟨qz_85, G_85⟩ := u_85
            rw [ht_85] at hb_85
            simp only at hb_85
            obtain ⟨⟨hb_851, hb_852, hb_853, hb_854, hb_855, hb_856⟩, hN_85, hbE_85⟩ := hb_85
            have hW_85 := hN_85
            have hh_85 : jSt (dC, dI) B base G0 G_85 EX11_rememberN s.heap (0 + (1)) (0 + (40)) [(ch_, 1, 2, .int qz_85), (r0, 13, 9, .ref ch_)] [] [(jFun, jUN dC dI ca G0 0 us rw)] H_85 locs_85 := (hh_82.callG hb_851 hb_852 hb_853 hb_854 hb_855 hS_85 rfl (L1 := [(r0, 13, 9, .ref ch_)]) [1] rfl rfl (M1 := []) [] rfl rfl (I1 := [(jFun, jUN dC dI ca G0 0 us rw)]) [1] rfl rfl).more hb_856
            have hNn_85 : (jNk [0, 1, 2, 3, 4, 5, 6, 7, 8, 9, 10, 11, 12, 13, 14, 15, 16, 17, 175]) G0 G_85 := (jNk.rf).tr hN_85
            have hg_87 := hb_852 _ _ hg_r0
            have hg_88 := hb_852 _ _ hg_r1
            have hg_89 := hb_852 _ _ hg_ch_
            have hd_90 := jUN.grow (r := 0) (hh_85.iv 0 rfl) hb_852 hW_85 (by decide) (by decide)
            have hh_91 := hh_85.sub (L1 := [(ch_, 1, 2, .int qz_85), (r0, 13, 9, .ref ch_)]) [0, 1] rfl (M1 := []) [] rfl (I1 := []) [] rfl
            clear hh_85
            have hh_92 := hh_91.addI (jUN.ie hd_90)
            clear hh_91
            have hh_93 := hh_92.addIs hbE_85
            obtain ⟨hr_86b, hr_86p⟩ := hr_86
            try simp only at hr_86p
            have hr_86' := jb_01 hr_86b
            refine lv_pop hx hb dX11_remember_103 rfl ?_
            have hsz_94 := hh_93.2.2.2.2.2.1
            have htt_94 := hh_93.2.2.2.2.2.2.1
            refine W.room (fun hrc_94 hrs_94 => ?_)
            refine W.widen (k := LC - s.heap.size) (n := LS - jTot s.heap) (by omega) (by omega) ?_
            rw [hQ]
            exact W.vret hx hb hr (fun t ht hW => ⟨⟨(((wl.s3 (wl.2.2.2.eraseIdx (v2_1.toInt).toNat)).s3 ((wl.s3 (wl.2.2.2.eraseIdx (v2_1.toInt).toNat)).2.2.2 ++ [r1])), G_85), rfl, ⟨jzKp.s _ _ _, jzKp.y hi_1_2 (by omega) (jdAt hr_48p) (hsr9.resolve_right (fun q => by have q1 := q.1; omega)).2, fun z hz => jzKp.m hz⟩, ⟨hh_93.ra (by first | (simp only; omega) | omega) (by first | (simp only; omega) | omega) (M1 := []) [] rfl ht, hNn_85, by rw [ht]; exact hh_93.2.2.2.2.2.2.2.2.sub (L1 := [(jFl, jLs dC dI ca G_85 3 none ((wl.s3 (wl.2.2.2.eraseIdx (v2_1.toInt).toNat)).s3 ((wl.s3 (wl.2.2.2.eraseIdx (v2_1.toInt).toNat)).2.2.2 ++ [r1]))), (jFun, jUN dC dI ca G_85 0 us rw)]) [0, 1] rfl⟩⟩, by rw [ht]; try exact hh_93.1.1, fun q h9 hq => by rw [ht]; try exact hh_93.1.2.1 q h9 hq⟩) hh_93.1.2.2 dX11_remember_104
        · skip
          have c_52' : r_51.toInt = 0 := jb_ne_n (rfl) ((by decide)) c_52
          first | (have hr_51pq := hr_51p.resolve_left (by omega); clear hr_51p) | (have hr_51pq := hr_51p.resolve_right (by omega); clear hr_51p) | try clear hr_51p
          obtain ⟨z_95, ez_95⟩ : ∃ y : Int32, y = v2_1 + 1 := ⟨_, rfl⟩
          refine lv_iinc (v := z_95) (lv' := [(2, .int z_95), (0, .ref r0), (1, .ref r1)]) hx hb dX11_remember_35 hl (k := 2) rfl (by rw [ez_95]; rfl) (by decide) rfl (fun ls hl => ?_)
          have hz_95 : z_95.toInt = v2_1.toInt + 1 := by rw [ez_95]; exact jb_iadd2 (rfl) (by decide) (by omega)
          refine lv_goto (tgt := 2) hx hb dX11_remember_38 (by decide) ?_
          refine W.tight (c2 := 0) (n2 := 0) hh_50.2.2.2.2.2.1 hh_50.2.2.2.2.2.2.1 ?_
          exact L2 z_95 _ _ (hh_50.sub (L1 := [(r0, 13, 9, .ref ch_), (ch_, 1, 2, .int cz)]) [0, 1] rfl (M1 := []) [] rfl (I1 := [(jFl, jLs dC dI ca G0 3 none wl), (jFun, jUN dC dI ca G0 0 us rw)]) [1, 0] rfl) (⟨by omega, by omega, fun i x hi hx he => by by_cases q9 : (i : Int) < v2_1.toInt; exact hi_1_2 i x q9 hx he; have e9 : i = v2_1.toInt.toNat := (by omega); have h9 := jdAt hr_48p; rw [← e9, hx] at h9; have h8 := Option.some.inj h9; rw [h8] at he; exact (hsr9.resolve_left (fun q => by have q1 := q.1; omega)).2 he⟩) (by omega) _ (lv_sub hl [1, 2, 0] rfl)
  refine W.tight (c2 := 0) (n2 := 0) hh.2.2.2.2.2.1 hh.2.2.2.2.2.2.1 ?_
  exact L2 (cz.toInt - (0 : Int32).toInt : Int).toNat.succ 0 _ _ hh (⟨by omega, by omega, fun i x hi => by have h9 := hk0; omega⟩) (by omega) _ (lv_sub hl [1, 2, 0] rfl)
end
