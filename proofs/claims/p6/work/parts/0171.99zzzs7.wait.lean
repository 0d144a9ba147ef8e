section
def EX11_answerOrWaitT : List (Nat × Nat) := [(1, 0), (1, 1), (1, 2), (2, 0), (2, 1), (9, 2), (13, 14), (196, 0), (221, 0), (222, 0), (223, 0), (286, 0), (287, 0), (288, 0)]
set_option maxHeartbeats 4000000 in
set_option maxRecDepth 20000 in
theorem uX11_answerOrWaitT (l : Launch) (dC : Nat → ClassId) (dI : Nat → Nat → Nat) (ca : Nat → ClassId) (base : Nat) (B : jF) (hB : jBok B) (hAp : jAp (dC, dI)) (hB1 : ∀ n G a H, B 1 n G a H ↔ jOb (dC, dI) 1 3 (F1 n G) a H) (hB2 : ∀ n G a H, B 2 n G a H ↔ jOb (dC, dI) 2 2 (F2 n G) a H) (hB3 : ∀ n G a H, B 3 n G a H ↔ jOb (dC, dI) 3 17 (F3 n G) a H) (hB4 : ∀ n G a H, B 4 n G a H ↔ jOb (dC, dI) 4 12 (F4 n G) a H) (hB5 : ∀ n G a H, B 5 n G a H ↔ jOb (dC, dI) 5 4 (F5 n G) a H) (hB7 : ∀ n G a H, B 7 n G a H ↔ jOb (dC, dI) 7 11 (F7 n G) a H) (hB8 : ∀ n G a H, B 8 n G a H ↔ jOb (dC, dI) 8 4 (F8 n G) a H) (hB9 : ∀ n G a H, B 9 n G a H ↔ jOb (dC, dI) 9 5 (F9b n G) a H) (hB10 : ∀ n G a H, B 10 n G a H ↔ jOb (dC, dI) 10 5 (F10 n G) a H) (hB11 : ∀ n G a H, B 11 n G a H ↔ jOb (dC, dI) 11 9 (F11 n G) a H) (hB13 : ∀ n G a H, B 13 n G a H ↔ jOb (dC, dI) 13 19 (F13 n G) a H) (hB17 : ∀ n G a H, B 17 n G a H ↔ jOb (dC, dI) 17 2 (F17 n G) a H) (hB101 : ∀ n G a H, B 101 n G a H ↔ jAr (dC, dI) (ca 1) (fun j z => True) n a H) (hB102 : ∀ n G a H, B 102 n G a H ↔ jAl (dC, dI) (ca 2) n a H) (hB132 : ∀ n G a H, B 132 n G a H ↔ jAr (dC, dI) (ca 1) (fun j z => 0 ≤ z.toInt ∧ z.toInt ≤ 10) n a H) (hB171 : ∀ n G a H, B 171 n G a H ↔ jAr (dC, dI) (ca 1) (fun j z => 0 ≤ z.toInt ∧ z.toInt ≤ 1500) n a H) (hB172 : ∀ n G a H, B 172 n G a H ↔ jAr (dC, dI) (ca 1) (fun j z => 0 ≤ z.toInt ∧ z.toInt ≤ 1500) n a H) (hB176 : ∀ n G a H, B 176 n G a H ↔ jAr (dC, dI) (ca 1) (fun j z => True) n a H) (hB196 : ∀ n G a H, B 196 n G a H ↔ jAr (dC, dI) (ca 0) (fun j z => jBf j z) n a H) (hB199 : ∀ n G a H, B 199 n G a H ↔ jAr (dC, dI) (ca 0) (fun j z => jBf j z) n a H) (hB210 : ∀ n G a H, B 210 n G a H ↔ jAq (dC, dI) (ca 6) (jQn 11 0) n G a H) (hB214 : ∀ n G a H, B 214 n G a H ↔ jAq (dC, dI) (ca 7) (jQg) n G a H) (hB222 : ∀ n G a H, B 222 n G a H ↔ jAq (dC, dI) (ca 9) (jQn 10 0) n G a H) (hB280 : ∀ n G a H, B 280 n G a H ↔ jAr (dC, dI) (ca 1) (fun j z => -1 ≤ z.toInt) n a H) (hB286 : ∀ n G a H, B 286 n G a H ↔ jAr (dC, dI) (ca 1) (fun j z => (0 ≤ z.toInt ∨ z.toInt = -3)) n a H) (hB287 : ∀ n G a H, B 287 n G a H ↔ jAr (dC, dI) (ca 1) (fun j z => 0 ≤ z.toInt ∧ z.toInt ≤ 65535) n a H) (hB288 : ∀ n G a H, B 288 n G a H ↔ jAr (dC, dI) (ca 1) (fun j z => 0 ≤ z.toInt ∧ z.toInt ≤ 160) n a H) (hB313 : ∀ n G a H, B 313 n G a H ↔ jAq (dC, dI) (ca 8) (jQk 280 80) n G a H) (G0 : jT) (H0 : Heap) (r0 : Nat) (r1 : Nat) (a2 : Int32) (bo : Nat) (pc : Int32) (pa : Nat) (n_pa : Nat) (ou : Nat) (wt_ : Nat) (wz : Int32) (wl : jWl9) (kq : jKg) (qq : jRqG) (LC LS : Nat) : Met l yX11_answerOrWait (jw yX11_answerOrWait cX11_answerOrWait 3 none) ({ frames := 8, cells := LC - H0.size, slots := LS - jTot H0, locals := 241 }) (va_Pc [.ref r0, .ref r1, .int a2] (fun U => U.heap = H0 ∧ jX B base G0 [] H0 ∧ jG dC dI ca base U ∧ jK2 dC dI ca U ∧ jK5 dC dI ca U ∧ jK7 dC dI ca base U ∧ G0 r0 = some (13, 0) ∧ G0 r1 = some (10, 0) ∧ (a2 = 0 ∨ a2 = 1) ∧ G0 bo = some (2, 0) ∧ G0 pa = some (196, n_pa) ∧ G0 ou = some (2, 20000) ∧ G0 wt_ = some (1, 2) ∧ jP (dC, dI) G0 H0 [(r0, 13, 4, .ref bo), (bo, 2, 1, .int pc), (bo, 2, 0, .ref pa), (r0, 13, 3, .ref ou), (r0, 13, 8, .ref wt_), (wt_, 1, 2, .int wz)] ∧ jIs (dC, dI) G0 H0 [(jFy, jYb dC dI G0), (jFs11, jSef dC dI G0), (jFl, jLs dC dI ca G0 3 none wl), (jFkd, jKD dC dI ca G0 none kq), (jFqd, jQD dC dI ca G0 none qq)] ∧ H0.size + (1048576 - n_pa) / 16 + 2 ≤ LC ∧ jTot H0 + 2 * (1048576 - n_pa) + 40 ≤ LS ∧ 0 ≤ pc.toInt ∧ pc.toInt ≤ n_pa ∧ 16 ≤ n_pa ∧ n_pa ≤ 1048576 ∧ jPw n_pa)) (va_Qv (S := Int32 × Nat × Nat × jWl9 × jT) (fun u => 0 ≤ u.1.toInt ∧ u.1.toInt ≤ u.2.2.1 ∧ n_pa ≤ u.2.2.1 ∧ u.2.2.1 ≤ 1048576 ∧ jPw u.2.2.1 ∧ ((u.2.2.2.1 = wl ∧ (a2.toInt = 0 ∨ jzRd kq qq r1 = true ∨ 12 ≤ wl.2.2.1.length)) ∨ (u.2.2.2.1 = wl.s2 (wl.2.2.1 ++ [r1]) ∧ a2.toInt ≠ 0 ∧ ¬ jzRd kq qq r1 = true ∧ wl.2.2.1.length < 12))) (fun u t => jRa (dC, dI) B base G0 u.2.2.2.2 EX11_answerOrWaitT H0 ((u.2.2.1 - n_pa) / 16 + 1) (2 * (u.2.2.1 - n_pa) + 40) [(bo, 2, 1, .int u.1), (bo, 2, 0, .ref u.2.1)] t.heap ∧ u.2.2.2.2 u.2.1 = some (196, u.2.2.1) ∧ (jNk [0, 1, 2, 3, 4, 5, 6, 7, 8, 9, 10, 11, 12, 13, 14, 15, 16, 17, 175]) G0 u.2.2.2.2 ∧ jOl (dC, dI) G0 2 [bo, ou] H0 t.heap ∧ jIs (dC, dI) u.2.2.2.2 t.heap [(jFy, jYb dC dI u.2.2.2.2), (jFs11, jSef dC dI u.2.2.2.2), (jFl, jLs dC dI ca u.2.2.2.2 3 none (u.2.2.2.1)), (jFkd, jKD dC dI ca u.2.2.2.2 none kq), (jFqd, jQD dC dI ca u.2.2.2.2 none qq)]) (jA base)) (LC - H0.size) (LS - jTot H0) (jA base) := by
  refine Met.ofW (cc := cX11_answerOrWait) (maxL := 3) (ret := none) (by decide) rfl ?_
  intro p e s m args below meth c s₁ Bd hml hv
  obtain ⟨rfl, hH0, hX, hG, hK2, hK5, hK7, hg_r0, hg_r1, hz_a2, hg_bo, hg_pa, hg_ou, hg_wt_, hP0, hI0, hLC0, hLS0, hp0, hp1, hp2, hp3, hp4⟩ := hv
  have hK := hG.1
  have hx := Bd.exec
  have hb := Bd.bytes
  have hr := Bd.returns
  have hts := atoms_spec (ws := (jw yX11_answerOrWait cX11_answerOrWait 3 none)) Bd.pre
  have htw : ∀ w ∈ jWl, w.before _ s = true := fun w h => hts w (List.mem_cons_of_mem _ h)
  have hown : s.vm.findClass RX11 = some m.cls := findClass_of_methodNamed Bd.named
  have hlocks := Bd.notSynchronized
  obtain ⟨Q, hQ⟩ : ∃ Q, Q = MQ below (va_Qv (S := Int32 × Nat × Nat × jWl9 × jT) (fun u => 0 ≤ u.1.toInt ∧ u.1.toInt ≤ u.2.2.1 ∧ n_pa ≤ u.2.2.1 ∧ u.2.2.1 ≤ 1048576 ∧ jPw u.2.2.1 ∧ ((u.2.2.2.1 = wl ∧ (a2.toInt = 0 ∨ jzRd kq qq r1 = true ∨ 12 ≤ wl.2.2.1.length)) ∨ (u.2.2.2.1 = wl.s2 (wl.2.2.1 ++ [r1]) ∧ a2.toInt ≠ 0 ∧ ¬ jzRd kq qq r1 = true ∧ wl.2.2.1.length < 12))) (fun u t => jRa (dC, dI) B base G0 u.2.2.2.2 EX11_answerOrWaitT H0 ((u.2.2.1 - n_pa) / 16 + 1) (2 * (u.2.2.1 - n_pa) + 40) [(bo, 2, 1, .int u.1), (bo, 2, 0, .ref u.2.1)] t.heap ∧ u.2.2.2.2 u.2.1 = some (196, u.2.2.1) ∧ (jNk [0, 1, 2, 3, 4, 5, 6, 7, 8, 9, 10, 11, 12, 13, 14, 15, 16, 17, 175]) G0 u.2.2.2.2 ∧ jOl (dC, dI) G0 2 [bo, ou] H0 t.heap ∧ jIs (dC, dI) u.2.2.2.2 t.heap [(jFy, jYb dC dI u.2.2.2.2), (jFs11, jSef dC dI u.2.2.2.2), (jFl, jLs dC dI ca u.2.2.2.2 3 none (u.2.2.2.1)), (jFkd, jKD dC dI ca u.2.2.2.2 none kq), (jFqd, jQD dC dI ca u.2.2.2.2 none qq)]) (jA base)) ([.ref r0, .ref r1, .int a2] : List Value).toArray s (LC - H0.size) (LS - jTot H0) (jA base) := ⟨_, rfl⟩
  rw [← hQ]
  have hl := lv_entry ([.ref r0, .ref r1, .int a2]) (n := 3) (Nat.le_of_ble_eq_true rfl)
  rw [lg_entry_eq]
  generalize (lg_sl ([.ref r0, .ref r1, .int a2]) ++ List.replicate (3 - (lg_sl ([.ref r0, .ref r1, .int a2])).length) Slot.unset).toArray = ls at hl ⊢
  have hl : lv_has ls 3 [(0, .ref r0), (1, .ref r1), (2, .int a2)] := hl
  generalize hR : (headSpec (jw yX11_answerOrWait cX11_answerOrWait 3 none) ({ frames := 8, cells := LC - H0.size, slots := LS - jTot H0, locals := 241 })).room = R
  subst hH0
  have hh : jSt (dC, dI) B base G0 G0 EX11_answerOrWaitT s.heap 0 0 [(r0, 13, 4, .ref bo), (bo, 2, 1, .int pc), (bo, 2, 0, .ref pa), (r0, 13, 3, .ref ou), (r0, 13, 8, .ref wt_), (wt_, 1, 2, .int wz)] [] [(jFy, jYb dC dI G0), (jFs11, jSef dC dI G0), (jFl, jLs dC dI ca G0 3 none wl), (jFkd, jKD dC dI ca G0 none kq), (jFqd, jQD dC dI ca G0 none qq)] s.heap [] := jSt.start hX hP0 jMc.nil hI0
  clear hX hP0
  have hkm32602 : ((-32602) : Int32).toInt = (-32602) := by decide
  have hkm32600 : ((-32600) : Int32).toInt = (-32600) := by decide
  have hk0 : (0 : Int32).toInt = 0 := by decide
  have hk1 : (1 : Int32).toInt = 1 := by decide
  have hk12 : (12 : Int32).toInt = 12 := by decide
  have hly_13_8 := htw (u_lay RX11 TX11 8) (jWc_wsX110 _ (u_in_lay (by decide)))
  have hlk_65 := (htw (.fieldLink RX11 65 "ProofServer" "waiting" "Ljava/util/List;") (jWr_2 _ (List.mem_of_getElem? (i := 15) rfl)))
  have hrg_a2 := jb_rng a2
  have hbs : base ≤ s.heap.size := Nat.le_of_lt (Nat.lt_of_le_of_lt (hh.ab hg_r0).1 (hh.ab hg_r0).2)
  have hRc : R.cells = LC - s.heap.size := by rw [← hR]; rfl
  have hRs : R.slots = LS - jTot s.heap := by rw [← hR]; rfl
  have hh_1 := hh.addI (jOl.ie (dC := dC) (dI := dI) (G0 := G0) (k := 2) (rs := [bo, ou]) (H0 := s.heap) (F := [(2, 0), (2, 1)]) (C := RX0) (T := TX0) (N := 2) rfl (by decide) hh.2.2.2.2.1 (jOl.rf))
  clear hh
  have hws2 : (wl.2.2.1.length : Int) = wz.toInt ∧ wz.toInt ≤ 12 := jLs.sz2 (hh_1.iv 3 rfl) hg_wt_ (by decide) (hh_1.at 5 rfl)
  refine lv_iload_n hx hb dX11_answerOrWait_0 rfl (lv_at hl 2 rfl) ?_
  refine lv_if_ne (tgt := 15) hx hb dX11_answerOrWait_1 (by decide) (fun c_2 => ?_) (fun c_2 => ?_)
  · skip
    have c_2' : a2.toInt ≠ 0 := jb_ne (rfl) ((by decide)) c_2
    refine lv_aload_n hx hb dX11_answerOrWait_15 rfl (lv_at hl 1 rfl) ?_
    have hsz_3 := hh_1.2.2.2.2.2.1
    have htt_3 := hh_1.2.2.2.2.2.2.1
    refine W.room (fun hrc_3 hrs_3 => ?_)
    refine va_calli (A0 := jA base) (H0 := s.heap) (va_runV (As := []) (rest := []) ⟨hx, hb, hml, hown, hts⟩ (uX8_isReadyT l dC dI ca base B hB hAp hB3 hB10 hB11 hB171 hB172 hB176 hB210 G0 s.heap r1 kq qq) (cwV 0 hts (jgV (jWr_29 _ (List.mem_of_getElem? (i := 19) rfl)) (jWr_29 _ (List.mem_of_getElem? (i := 20) rfl)) (jWr_29 _ (List.mem_of_getElem? (i := 21) rfl)) (jWr_19 _ (List.mem_of_getElem? (i := 5) rfl)) (jWr_29 _ (List.mem_of_getElem? (i := 22) rfl))) rfl rfl rfl (by decide +kernel) ⟨by rw [← hR]; exact Nat.le_of_ble_eq_true rfl, by rw [← hR]; exact Nat.le_of_ble_eq_true rfl⟩) ⟨fun a U g mk q => by obtain ⟨q0, q1, q2, qK, q10, q11, q12, q13⟩ := q; exact ⟨q0, q1, q2, jG.calling g mk a qK, q10, q11, q12, q13⟩, hh_1.recv (C := RX8) (T := TX8) (N := 5) hB10 rfl (by decide) hg_r1 hK, fun U hU hW => ⟨rfl, hU, hh_1.2.1, hG.step hW hU hh_1.1, hg_r1, jP.nil, (hh_1.2.2.2.2.2.2.2.2.sub (L1 := [(jFkd, jKD dC dI ca G0 none kq), (jFqd, jQD dC dI ca G0 none qq)]) [4, 5] rfl), trivial⟩⟩ rfl rfl hl.1 rfl (lv_room (Nat.le_of_ble_eq_true rfl)) dX11_answerOrWait_16 ⟨by rw [hRc]; show _ + 0 ≤ _; omega, by rw [hRs]; show _ + 0 ≤ _; omega⟩) hh_1.1 (fun q _ h => h) (fun q h => h) (fun r_4 u_3 t_3 H_3 locs_3 ht_3 hvm_3 hr_4 hb_3 hz_3 hk_3 hS_3 => ?_)
    rw [ht_3] at hb_3
    obtain ⟨hb_3, hbE_3⟩ := hb_3
    obtain ⟨hb_31, hb_32, hb_33, hb_34, hb_35⟩ := hb_3
    have hh_3 : jSt (dC, dI) B base G0 G0 EX11_answerOrWaitT s.heap 0 0 [(r0, 13, 4, .ref bo), (bo, 2, 1, .int pc), (bo, 2, 0, .ref pa), (r0, 13, 3, .ref ou), (r0, 13, 8, .ref wt_), (wt_, 1, 2, .int wz)] [] [(jFkd, jKD dC dI ca G0 none kq), (jFqd, jQD dC dI ca G0 none qq), ([(2, 0), (2, 1)], jOl (dC, dI) G0 2 [bo, ou] s.heap), (jFy, jYb dC dI G0), (jFs11, jSef dC dI G0), (jFl, jLs dC dI ca G0 3 none wl)] H_3 locs_3 := (((hh_1.call hb_31 hb_32 hb_33 hb_34 hS_3 rfl (L1 := [(r0, 13, 4, .ref bo), (bo, 2, 1, .int pc), (bo, 2, 0, .ref pa), (r0, 13, 3, .ref ou), (r0, 13, 8, .ref wt_), (wt_, 1, 2, .int wz)]) [0, 1, 2, 3, 4, 5] rfl rfl (M1 := []) [] rfl rfl (I1 := [([(2, 0), (2, 1)], jOl (dC, dI) G0 2 [bo, ou] s.heap), (jFy, jYb dC dI G0), (jFs11, jSef dC dI G0), (jFl, jLs dC dI ca G0 3 none wl)]) [0, 1, 2, 3] rfl rfl).more hb_35)).addIs hbE_3
    clear hh_1 ht_3 hvm_3 hz_3 hk_3 hS_3 hb_31 hb_32 hb_33 hb_34 hb_35
    clear  hbE_3
    obtain ⟨hr_4b, hr_4p⟩ := hr_4
    have hrd9 := hr_4p
    have hr_4' := jb_01 hr_4b
    refine lv_if_eq (tgt := 30) hx hb dX11_answerOrWait_19 (by decide) (fun c_5 => ?_) (fun c_5 => ?_)
    · skip
      have c_5' : r_4.toInt = 0 := jb_eq (rfl) ((by decide)) c_5
      first | (have hr_4pq := hr_4p.resolve_left (by omega); clear hr_4p) | (have hr_4pq := hr_4p.resolve_right (by omega); clear hr_4p) | try clear hr_4p
      refine lv_aload_n hx hb dX11_answerOrWait_30 rfl (lv_at hl 0 rfl) ?_
      refine j7_read hx hb hown hK (C := RX11) (T := TX11) (N := 19) rfl hly_13_8 hlk_65 (hh_3.at 4 rfl) dX11_answerOrWait_31 ?_
      have hsz_6 := hh_3.2.2.2.2.2.1
      have htt_6 := hh_3.2.2.2.2.2.2.1
      refine W.room (fun hrc_6 hrs_6 => ?_)
      refine va_callFi (A0 := jA base) (H0 := s.heap) (va_runF (hK.1 1 _ rfl).2 (As := []) (rest := []) ⟨hx, hb, hml, hown, hts⟩ (uJx4a65c_size_8abf5 l dC dI ca base B hB hAp hB1 G0 H_3 wt_ 2 wz) (va_cwF 0 hts (jgF (jWr_27 _ (List.mem_of_getElem? (i := 22) rfl)) (jWr_27 _ (List.mem_of_getElem? (i := 23) rfl)) (jWr_28 _ (List.mem_of_getElem? (i := 0) rfl)) (jWr_2 _ (List.mem_of_getElem? (i := 13) rfl)) (jWr_28 _ (List.mem_of_getElem? (i := 1) rfl))) rfl rfl rfl hK7.2.2.2.2.2.1.1 ⟨by decide, by decide, by decide +kernel⟩ ⟨by rw [← hR]; exact Nat.le_of_ble_eq_true rfl, by rw [← hR]; exact Nat.le_of_ble_eq_true rfl⟩) ⟨fun a U g mk q => by obtain ⟨q0, q1, q2, qK, q10, q11, q12⟩ := q; exact ⟨q0, q1, q2, jG.calling g mk a qK, q10, q11, q12⟩, hh_3.recv (C := RJx4a65c) (T := TJx4a65c) (N := 3) hB1 rfl (by decide) hg_wt_ hK, fun U hU hW => ⟨rfl, hU, hh_3.2.1, hG.step hW hU hh_3.1, hg_wt_, (hh_3.2.2.1.sub (L1 := [(wt_, 1, 2, .int wz)]) [5] rfl), trivial⟩⟩ rfl rfl hl.1 rfl (lv_room (Nat.le_of_ble_eq_true rfl)) dX11_answerOrWait_34 ⟨by rw [hRc]; show _ + 0 ≤ _; omega, by rw [hRs]; show _ + 0 ≤ _; omega⟩) hh_3.1 (fun q _ h => h) (fun q h => h) (fun r_7 u_6 t_6 H_6 locs_6 ht_6 hvm_6 hr_7 hb_6 hz_6 hk_6 hS_6 => ?_)
      rw [ht_6] at hb_6
      obtain ⟨hb_61, hb_62, hb_63, hb_64, hb_65⟩ := hb_6
      have hh_6 : jSt (dC, dI) B base G0 G0 EX11_answerOrWaitT s.heap 0 0 [(r0, 13, 4, .ref bo), (bo, 2, 1, .int pc), (bo, 2, 0, .ref pa), (r0, 13, 3, .ref ou), (r0, 13, 8, .ref wt_), (wt_, 1, 2, .int wz)] [] [(jFkd, jKD dC dI ca G0 none kq), (jFqd, jQD dC dI ca G0 none qq), ([(2, 0), (2, 1)], jOl (dC, dI) G0 2 [bo, ou] s.heap), (jFy, jYb dC dI G0), (jFs11, jSef dC dI G0), (jFl, jLs dC dI ca G0 3 none wl)] H_6 locs_6 := ((hh_3.call hb_61 hb_62 hb_63 hb_64 hS_6 rfl (L1 := [(r0, 13, 4, .ref bo), (bo, 2, 1, .int pc), (bo, 2, 0, .ref pa), (r0, 13, 3, .ref ou), (r0, 13, 8, .ref wt_), (wt_, 1, 2, .int wz)]) [0, 1, 2, 3, 4, 5] rfl rfl (M1 := []) [] rfl rfl (I1 := [(jFkd, jKD dC dI ca G0 none kq), (jFqd, jQD dC dI ca G0 none qq), ([(2, 0), (2, 1)], jOl (dC, dI) G0 2 [bo, ou] s.heap), (jFy, jYb dC dI G0), (jFs11, jSef dC dI G0), (jFl, jLs dC dI ca G0 3 none wl)]) [0, 1, 2, 3, 4, 5] rfl rfl).more hb_65)
      clear hh_3 ht_6 hvm_6 hz_6 hk_6 hS_6 hb_61 hb_62 hb_63 hb_64 hb_65
      refine lv_bipush (v := 12) hx hb dX11_answerOrWait_39 (by decide) ?_
      refine lv_icmp_ge (tgt := 58) hx hb dX11_answerOrWait_41 (by decide) (fun c_8 => ?_) (fun c_8 => ?_)
      · skip
        have c_8' : r_7.toInt ≥ 12 := jb_ge (rfl) ((by decide)) c_8
        refine lv_aload_n hx hb dX11_answerOrWait_58 rfl (lv_at hl 0 rfl) ?_
        refine lv_aload_n hx hb dX11_answerOrWait_59 rfl (lv_at hl 1 rfl) ?_
        refine lv_sipush (v := (-32600)) hx hb dX11_answerOrWait_60 (by decide) ?_
        have hsz_9 := hh_6.2.2.2.2.2.1
        have htt_9 := hh_6.2.2.2.2.2.2.1
        refine W.room (fun hrc_9 hrs_9 => ?_)
        refine va_callv (A0 := jA base) (H0 := s.heap) (va_runV (As := [.ref r1, .int (-32600)]) (rest := []) ⟨hx, hb, hml, hown, hts⟩ (uX11_refuse l dC dI ca base B hB hAp hB2 hB4 hB10 hB13 hB17 hB196 hB199 G0 H_6 r0 r1 (-32600) bo pc pa n_pa ou LC LS) (cwV 2 hts (jgV (jWr_26 _ (List.mem_of_getElem? (i := 3) rfl)) (jWr_26 _ (List.mem_of_getElem? (i := 4) rfl)) (jWr_26 _ (List.mem_of_getElem? (i := 5) rfl)) (jWr_1 _ (List.mem_of_getElem? (i := 2) rfl)) (jWr_26 _ (List.mem_of_getElem? (i := 6) rfl))) rfl rfl rfl (by decide +kernel) ⟨by rw [← hR]; exact Nat.le_of_ble_eq_true rfl, by rw [← hR]; exact Nat.le_of_ble_eq_true rfl⟩) ⟨fun a U g mk q => by obtain ⟨q0, q1, q2, qK, q10, q11, q12, q13, q14, q15, q16, q17⟩ := q; exact ⟨q0, q1, q2, jG.calling g mk a qK, q10, q11, q12, q13, q14, q15, q16, q17⟩, hh_6.recv (C := RX11) (T := TX11) (N := 19) hB13 rfl (by decide) hg_r0 hK, fun U hU hW => ⟨rfl, hU, hh_6.2.1, hG.step hW hU hh_6.1, hg_r1, hg_r0, hg_bo, hg_pa, hg_ou, (hh_6.2.2.1.sub (L1 := [(r0, 13, 4, .ref bo), (bo, 2, 1, .int pc), (bo, 2, 0, .ref pa), (r0, 13, 3, .ref ou)]) [0, 1, 2, 3] rfl), (hh_6.2.2.2.2.2.2.2.2.sub (L1 := [(jFy, jYb dC dI G0)]) [3] rfl), (by omega), (by omega), ⟨(by first | omega | rfl | assumption | fail), (by first | omega | rfl | assumption | fail), (by first | omega | rfl | assumption | fail), (by first | omega | rfl | assumption | fail), (by first | assumption | fail | omega)⟩⟩⟩ rfl rfl hl.1 rfl (lv_room (Nat.le_of_ble_eq_true rfl)) dX11_answerOrWait_63 ⟨by rw [hRc]; omega, by rw [hRs]; omega⟩) hh_6.1 (fun q _ h => h) (fun q h => h) (fun u_9 t_9 H_9 locs_9 ht_9 hvm_9 hr_10 hb_9 hz_9 hk_9 hS_9 => ?_)
        obtain ⟨qc_9, qa_9, m_qa_9, G_9⟩ := u_9
        rw [ht_9] at hb_9
        simp only at hb_9
        obtain ⟨⟨hb_91, hb_92, hb_93, hb_94, hb_95, hb_96⟩, hgq_9_0, hN_9, hbO_9, hbE_9⟩ := hb_9
        have hW_9 := hN_9
        have hh_9 : jSt (dC, dI) B base G0 G_9 EX11_answerOrWaitT s.heap (0 + ((m_qa_9 - n_pa) / 16)) (0 + (2 * (m_qa_9 - n_pa))) [(bo, 2, 1, .int qc_9), (bo, 2, 0, .ref qa_9), (r0, 13, 4, .ref bo), (r0, 13, 3, .ref ou), (r0, 13, 8, .ref wt_), (wt_, 1, 2, .int wz)] [] [(jFkd, jKD dC dI ca G0 none kq), (jFqd, jQD dC dI ca G0 none qq), (jFs11, jSef dC dI G0), (jFl, jLs dC dI ca G0 3 none wl)] H_9 locs_9 := (hh_6.callG hb_91 hb_92 hb_93 hb_94 hb_95 hS_9 rfl (L1 := [(r0, 13, 4, .ref bo), (r0, 13, 3, .ref ou), (r0, 13, 8, .ref wt_), (wt_, 1, 2, .int wz)]) [0, 3, 4, 5] rfl rfl (M1 := []) [] rfl rfl (I1 := [(jFkd, jKD dC dI ca G0 none kq), (jFqd, jQD dC dI ca G0 none qq), (jFs11, jSef dC dI G0), (jFl, jLs dC dI ca G0 3 none wl)]) [0, 1, 4, 5] rfl rfl).more hb_96
        have hNn_9 : (jNk [0, 1, 2, 3, 4, 5, 6, 7, 8, 9, 10, 11, 12, 13, 14, 15, 16, 17, 175]) G0 G_9 := (jNk.rf).tr hN_9
        have hg_11 := hb_92 _ _ hg_r0
        have hg_12 := hb_92 _ _ hg_r1
        have hg_13 := hb_92 _ _ hg_bo
        have hg_14 := hb_92 _ _ hg_ou
        have hg_15 := hb_92 _ _ hg_wt_
        have hd_16 := jKD.grow (ca := ca) (hh_9.iv 0 rfl) hb_92 hW_9 (by decide)
        have hh_17 := hh_9.sub (L1 := [(bo, 2, 1, .int qc_9), (bo, 2, 0, .ref qa_9), (r0, 13, 4, .ref bo), (r0, 13, 3, .ref ou), (r0, 13, 8, .ref wt_), (wt_, 1, 2, .int wz)]) [0, 1, 2, 3, 4, 5] rfl (M1 := []) [] rfl (I1 := [(jFqd, jQD dC dI ca G0 none qq), (jFs11, jSef dC dI G0), (jFl, jLs dC dI ca G0 3 none wl)]) [1, 2, 3] rfl
        clear hh_9
        have hh_18 := hh_17.addI (jKD.ie hd_16)
        clear hh_17
        have hd_19 := jQD.grow (ca := ca) (hh_18.iv 1 rfl) hb_92 hW_9 (by decide)
        have hh_20 := hh_18.sub (L1 := [(bo, 2, 1, .int qc_9), (bo, 2, 0, .ref qa_9), (r0, 13, 4, .ref bo), (r0, 13, 3, .ref ou), (r0, 13, 8, .ref wt_), (wt_, 1, 2, .int wz)]) [0, 1, 2, 3, 4, 5] rfl (M1 := []) [] rfl (I1 := [(jFkd, jKD dC dI ca G_9 none kq), (jFs11, jSef dC dI G0), (jFl, jLs dC dI ca G0 3 none wl)]) [0, 2, 3] rfl
        clear hh_18
        have hh_21 := hh_20.addI (jQD.ie hd_19)
        clear hh_20
        have hd_22 := jSef.grow (hh_21.iv 2 rfl) hb_92 hN_9 (by decide)
        have hh_23 := hh_21.sub (L1 := [(bo, 2, 1, .int qc_9), (bo, 2, 0, .ref qa_9), (r0, 13, 4, .ref bo), (r0, 13, 3, .ref ou), (r0, 13, 8, .ref wt_), (wt_, 1, 2, .int wz)]) [0, 1, 2, 3, 4, 5] rfl (M1 := []) [] rfl (I1 := [(jFqd, jQD dC dI ca G_9 none qq), (jFkd, jKD dC dI ca G_9 none kq), (jFl, jLs dC dI ca G0 3 none wl)]) [0, 1, 3] rfl
        clear hh_21
        have hh_24 := hh_23.addI (jSef.ie hd_22)
        clear hh_23
        have hd_25 := jLs.grow (hh_24.iv 3 rfl) hb_92 hN_9 (by decide)
        have hh_26 := hh_24.sub (L1 := [(bo, 2, 1, .int qc_9), (bo, 2, 0, .ref qa_9), (r0, 13, 4, .ref bo), (r0, 13, 3, .ref ou), (r0, 13, 8, .ref wt_), (wt_, 1, 2, .int wz)]) [0, 1, 2, 3, 4, 5] rfl (M1 := []) [] rfl (I1 := [(jFs11, jSef dC dI G_9), (jFqd, jQD dC dI ca G_9 none qq), (jFkd, jKD dC dI ca G_9 none kq)]) [0, 1, 2] rfl
        clear hh_24
        have hh_27 := hh_26.addI (jLs.ie hd_25)
        clear hh_26
        have hh_28 := hh_27.addIs hbE_9
        have hd_29 := jOl.trL (hh_6.iv 2 rfl) hh_6.2.2.2.2.1 hbO_9 (by simp)
        have hh_30 := hh_28.addI (jOl.ie (dC := dC) (dI := dI) (G0 := G0) (k := 2) (rs := [bo, ou]) (H0 := s.heap) (F := [(2, 0), (2, 1)]) (C := RX0) (T := TX0) (N := 2) rfl (by decide) hh_28.2.2.2.2.1 (hd_29))
        clear hh_28
        try simp only at hr_10
        obtain ⟨hr_10_0, hr_10_1, hr_10_2, hr_10_3, hr_10_4⟩ := hr_10
        have hh_31 := hh_30.wk (zc1 := (m_qa_9 - n_pa) / 16 + 1) (zs1 := 2 * (m_qa_9 - n_pa) + 40) (by omega) (by omega)
        clear hh_30
        try clear hsz_9 htt_9 hrc_9 hrs_9
        try clear hb_94 hb_95
        have hsz_32 := hh_31.2.2.2.2.2.1
        have htt_32 := hh_31.2.2.2.2.2.2.1
        refine W.room (fun hrc_32 hrs_32 => ?_)
        refine W.widen (k := LC - s.heap.size) (n := LS - jTot s.heap) (by omega) (by omega) ?_
        rw [hQ]
        exact W.vret hx hb hr (fun t ht hW => ⟨⟨(qc_9, qa_9, m_qa_9, wl, G_9), rfl, by skip; (try dsimp only); refine ⟨(by first | (with_reducible assumption) | omega), (by first | (with_reducible assumption) | omega), (by first | (with_reducible assumption) | omega), (by first | (with_reducible assumption) | omega), (by first | (with_reducible assumption) | omega), ?_⟩; exact Or.inl ⟨rfl, Or.inr (Or.inr (by have h9 := hws2.1; omega))⟩, ⟨hh_31.ra (by first | (simp only; omega) | omega) (by first | (simp only; omega) | omega) (M1 := [(bo, 2, 1, .int qc_9), (bo, 2, 0, .ref qa_9)]) [0, 1] rfl ht, hgq_9_0, hNn_9, by rw [ht]; exact hh_31.iv 0 rfl, by rw [ht]; exact hh_31.2.2.2.2.2.2.2.2.sub (L1 := [(jFy, jYb dC dI G_9), (jFs11, jSef dC dI G_9), (jFl, jLs dC dI ca G_9 3 none wl), (jFkd, jKD dC dI ca G_9 none kq), (jFqd, jQD dC dI ca G_9 none qq)]) [1, 3, 2, 5, 4] rfl⟩⟩, by rw [ht]; try exact hh_31.1.1, fun q h9 hq => by rw [ht]; try exact hh_31.1.2.1 q h9 hq⟩) hh_31.1.2.2 dX11_answerOrWait_66
      · skip
        have c_8' : r_7.toInt < 12 := jb_ge_n (rfl) ((by decide)) c_8
        refine lv_aload_n hx hb dX11_answerOrWait_44 rfl (lv_at hl 0 rfl) ?_
        refine j7_read hx hb hown hK (C := RX11) (T := TX11) (N := 19) rfl hly_13_8 hlk_65 (hh_6.at 4 rfl) dX11_answerOrWait_45 ?_
        refine lv_aload_n hx hb dX11_answerOrWait_48 rfl (lv_at hl 1 rfl) ?_
        have hsz_33 := hh_6.2.2.2.2.2.1
        have htt_33 := hh_6.2.2.2.2.2.2.1
        refine W.room (fun hrc_33 hrs_33 => ?_)
        refine va_callFi (A0 := jA base) (H0 := s.heap) (va_runF (hK.1 1 _ rfl).2 (As := [.ref r1]) (rest := []) ⟨hx, hb, hml, hown, hts⟩ (uJx4a65c_add_9ea2dL2 l dC dI ca base B hB hAp hB1 hB10 hB222 G0 H_6 wt_ r1 wz wl LC LS) (va_cwF 1 hts (jgF (jWr_33 _ (List.mem_of_getElem? (i := 7) rfl)) (jWr_33 _ (List.mem_of_getElem? (i := 8) rfl)) (jWr_33 _ (List.mem_of_getElem? (i := 9) rfl)) (jWr_2 _ (List.mem_of_getElem? (i := 13) rfl)) (jWr_33 _ (List.mem_of_getElem? (i := 10) rfl))) rfl rfl rfl hK7.2.2.2.2.2.1.2.2.1 ⟨by decide, by decide, by decide +kernel⟩ ⟨by rw [← hR]; exact Nat.le_of_ble_eq_true rfl, by rw [← hR]; exact Nat.le_of_ble_eq_true rfl⟩) ⟨fun a U g mk q => by obtain ⟨q0, q1, q2, qK, q10, q11, q12, q13, q14, q15⟩ := q; exact ⟨q0, q1, q2, jG.calling g mk a qK, (jK7.calling g mk a q10), q11, q12, q13, q14, q15⟩, hh_6.recv (C := RJx4a65c) (T := TJx4a65c) (N := 3) hB1 rfl (by decide) hg_wt_ hK, fun U hU hW => ⟨rfl, hU, hh_6.2.1, hG.step hW hU hh_6.1, (hK7.step hW hU hh_6.1), hg_wt_, hg_r1, (hh_6.2.2.1.sub (L1 := [(wt_, 1, 2, .int wz)]) [5] rfl), (hh_6.2.2.2.2.2.2.2.2.sub (L1 := [(jFl, jLs dC dI ca G0 3 none wl)]) [5] rfl), ⟨(by first | omega | rfl | assumption | fail), (by first | omega | rfl | assumption | fail)⟩⟩⟩ rfl rfl hl.1 rfl (lv_room (Nat.le_of_ble_eq_true rfl)) dX11_answerOrWait_49 ⟨by rw [hRc]; omega, by rw [hRs]; omega⟩) hh_6.1 (fun q _ h => h) (fun q h => h) (fun r_34 u_33 t_33 H_33 locs_33 ht_33 hvm_33 hr_34 hb_33 hz_33 hk_33 hS_33 => ?_)
        obtain ⟨qz_33, G_33⟩ := u_33
        rw [ht_33] at hb_33
        simp only at hb_33
        obtain ⟨⟨hb_331, hb_332, hb_333, hb_334, hb_335, hb_336⟩, hN_33, hbE_33⟩ := hb_33
        have hW_33 := hN_33
        have hh_33 : jSt (dC, dI) B base G0 G_33 EX11_answerOrWaitT s.heap (0 + (1)) (0 + (40)) [(wt_, 1, 2, .int qz_33), (r0, 13, 4, .ref bo), (bo, 2, 1, .int pc), (bo, 2, 0, .ref pa), (r0, 13, 3, .ref ou), (r0, 13, 8, .ref wt_)] [] [(jFkd, jKD dC dI ca G0 none kq), (jFqd, jQD dC dI ca G0 none qq), ([(2, 0), (2, 1)], jOl (dC, dI) G0 2 [bo, ou] s.heap), (jFy, jYb dC dI G0), (jFs11, jSef dC dI G0)] H_33 locs_33 := (hh_6.callG hb_331 hb_332 hb_333 hb_334 hb_335 hS_33 rfl (L1 := [(r0, 13, 4, .ref bo), (bo, 2, 1, .int pc), (bo, 2, 0, .ref pa), (r0, 13, 3, .ref ou), (r0, 13, 8, .ref wt_)]) [0, 1, 2, 3, 4] rfl rfl (M1 := []) [] rfl rfl (I1 := [(jFkd, jKD dC dI ca G0 none kq), (jFqd, jQD dC dI ca G0 none qq), ([(2, 0), (2, 1)], jOl (dC, dI) G0 2 [bo, ou] s.heap), (jFy, jYb dC dI G0), (jFs11, jSef dC dI G0)]) [0, 1, 2, 3, 4] rfl rfl).more hb_336
        have hNn_33 : (jNk [0, 1, 2, 3, 4, 5, 6, 7, 8, 9, 10, 11, 12, 13, 14, 15, 16, 17, 175]) G0 G_33 := (jNk.rf).tr hN_33
        have hg_35 := hb_332 _ _ hg_r0
        have hg_36 := hb_332 _ _ hg_r1
        have hg_37 := hb_332 _ _ hg_bo
        have hg_38 := hb_332 _ _ hg_pa
        have hg_39 := hb_332 _ _ hg_ou
        have hg_40 := hb_332 _ _ hg_wt_
        have hd_41 := jKD.grow (ca := ca) (hh_33.iv 0 rfl) hb_332 hW_33 (by decide)
        have hh_42 := hh_33.sub (L1 := [(wt_, 1, 2, .int qz_33), (r0, 13, 4, .ref bo), (bo, 2, 1, .int pc), (bo, 2, 0, .ref pa), (r0, 13, 3, .ref ou), (r0, 13, 8, .ref wt_)]) [0, 1, 2, 3, 4, 5] rfl (M1 := []) [] rfl (I1 := [(jFqd, jQD dC dI ca G0 none qq), ([(2, 0), (2, 1)], jOl (dC, dI) G0 2 [bo, ou] s.heap), (jFy, jYb dC dI G0), (jFs11, jSef dC dI G0)]) [1, 2, 3, 4] rfl
        clear hh_33
        have hh_43 := hh_42.addI (jKD.ie hd_41)
        clear hh_42
        have hd_44 := jQD.grow (ca := ca) (hh_43.iv 1 rfl) hb_332 hW_33 (by decide)
        have hh_45 := hh_43.sub (L1 := [(wt_, 1, 2, .int qz_33), (r0, 13, 4, .ref bo), (bo, 2, 1, .int pc), (bo, 2, 0, .ref pa), (r0, 13, 3, .ref ou), (r0, 13, 8, .ref wt_)]) [0, 1, 2, 3, 4, 5] rfl (M1 := []) [] rfl (I1 := [(jFkd, jKD dC dI ca G_33 none kq), ([(2, 0), (2, 1)], jOl (dC, dI) G0 2 [bo, ou] s.heap), (jFy, jYb dC dI G0), (jFs11, jSef dC dI G0)]) [0, 2, 3, 4] rfl
        clear hh_43
        have hh_46 := hh_45.addI (jQD.ie hd_44)
        clear hh_45
        have hd_47 := jYb.grow (hh_46.iv 3 rfl) hb_332 hN_33 (by decide)
        have hh_48 := hh_46.sub (L1 := [(wt_, 1, 2, .int qz_33), (r0, 13, 4, .ref bo), (bo, 2, 1, .int pc), (bo, 2, 0, .ref pa), (r0, 13, 3, .ref ou), (r0, 13, 8, .ref wt_)]) [0, 1, 2, 3, 4, 5] rfl (M1 := []) [] rfl (I1 := [(jFqd, jQD dC dI ca G_33 none qq), (jFkd, jKD dC dI ca G_33 none kq), ([(2, 0), (2, 1)], jOl (dC, dI) G0 2 [bo, ou] s.heap), (jFs11, jSef dC dI G0)]) [0, 1, 2, 4] rfl
        clear hh_46
        have hh_49 := hh_48.addI (jYb.ie hd_47)
        clear hh_48
        have hd_50 := jSef.grow (hh_49.iv 4 rfl) hb_332 hN_33 (by decide)
        have hh_51 := hh_49.sub (L1 := [(wt_, 1, 2, .int qz_33), (r0, 13, 4, .ref bo), (bo, 2, 1, .int pc), (bo, 2, 0, .ref pa), (r0, 13, 3, .ref ou), (r0, 13, 8, .ref wt_)]) [0, 1, 2, 3, 4, 5] rfl (M1 := []) [] rfl (I1 := [(jFy, jYb dC dI G_33), (jFqd, jQD dC dI ca G_33 none qq), (jFkd, jKD dC dI ca G_33 none kq), ([(2, 0), (2, 1)], jOl (dC, dI) G0 2 [bo, ou] s.heap)]) [0, 1, 2, 3] rfl
        clear hh_49
        have hh_52 := hh_51.addI (jSef.ie hd_50)
        clear hh_51
        have hh_53 := hh_52.addIs hbE_33
        obtain ⟨hr_34b, hr_34p⟩ := hr_34
        try simp only at hr_34p
        have hh_54 := hh_53.wk (zc1 := (n_pa - n_pa) / 16 + 1) (zs1 := 2 * (n_pa - n_pa) + 40) (by omega) (by omega)
        clear hh_53
        try clear hsz_33 htt_33 hrc_33 hrs_33
        try clear hb_334 hb_335
        have hr_34' := jb_01 hr_34b
        refine lv_pop hx hb dX11_answerOrWait_54 rfl ?_
        refine lv_goto (tgt := 66) hx hb dX11_answerOrWait_55 (by decide) ?_
        have hsz_55 := hh_54.2.2.2.2.2.1
        have htt_55 := hh_54.2.2.2.2.2.2.1
        refine W.room (fun hrc_55 hrs_55 => ?_)
        refine W.widen (k := LC - s.heap.size) (n := LS - jTot s.heap) (by omega) (by omega) ?_
        rw [hQ]
        exact W.vret hx hb hr (fun t ht hW => ⟨⟨(pc, pa, n_pa, (wl.s2 (wl.2.2.1 ++ [r1])), G_33), rfl, by skip; (try dsimp only); refine ⟨(by first | (with_reducible assumption) | omega), (by first | (with_reducible assumption) | omega), (by first | (with_reducible assumption) | omega), (by first | (with_reducible assumption) | omega), (by first | (with_reducible assumption) | omega), ?_⟩; exact Or.inr ⟨rfl, by omega, (hrd9.resolve_left (fun q => by have q1 := q.1; omega)).2, by have h9 := hws2.1; omega⟩, ⟨hh_54.ra (by first | (simp only; omega) | omega) (by first | (simp only; omega) | omega) (M1 := [(bo, 2, 1, .int pc), (bo, 2, 0, .ref pa)]) [2, 3] rfl ht, hg_38, hNn_33, by rw [ht]; exact hh_54.iv 5 rfl, by rw [ht]; exact hh_54.2.2.2.2.2.2.2.2.sub (L1 := [(jFy, jYb dC dI G_33), (jFs11, jSef dC dI G_33), (jFl, jLs dC dI ca G_33 3 none (wl.s2 (wl.2.2.1 ++ [r1]))), (jFkd, jKD dC dI ca G_33 none kq), (jFqd, jQD dC dI ca G_33 none qq)]) [2, 1, 0, 4, 3] rfl⟩⟩, by rw [ht]; try exact hh_54.1.1, fun q h9 hq => by rw [ht]; try exact hh_54.1.2.1 q h9 hq⟩) hh_54.1.2.2 dX11_answerOrWait_66
    · skip
      have c_5' : r_4.toInt ≠ 0 := jb_eq_n (rfl) ((by decide)) c_5
      first | (have hr_4pq := hr_4p.resolve_left (by omega); clear hr_4p) | (have hr_4pq := hr_4p.resolve_right (by omega); clear hr_4p) | try clear hr_4p
      refine lv_aload_n hx hb dX11_answerOrWait_22 rfl (lv_at hl 0 rfl) ?_
      refine lv_aload_n hx hb dX11_answerOrWait_23 rfl (lv_at hl 1 rfl) ?_
      have hsz_56 := hh_3.2.2.2.2.2.1
      have htt_56 := hh_3.2.2.2.2.2.2.1
      refine W.room (fun hrc_56 hrs_56 => ?_)
      refine va_callv (A0 := jA base) (H0 := s.heap) (va_runV (As := [.ref r1]) (rest := []) ⟨hx, hb, hml, hown, hts⟩ (uX11_reply l dC dI ca base B hB hAp hB2 hB3 hB4 hB5 hB7 hB8 hB9 hB10 hB11 hB13 hB17 hB101 hB102 hB132 hB196 hB199 hB210 hB214 hB280 hB286 hB287 hB288 hB313 G0 H_3 r0 r1 bo pc pa n_pa ou LC LS) (cwV 1 hts (jgV (jWr_30 _ (List.mem_of_getElem? (i := 2) rfl)) (jWr_30 _ (List.mem_of_getElem? (i := 3) rfl)) (jWr_30 _ (List.mem_of_getElem? (i := 4) rfl)) (jWr_1 _ (List.mem_of_getElem? (i := 2) rfl)) (jWr_30 _ (List.mem_of_getElem? (i := 5) rfl))) rfl rfl rfl (by decide +kernel) ⟨by rw [← hR]; exact Nat.le_of_ble_eq_true rfl, by rw [← hR]; exact Nat.le_of_ble_eq_true rfl⟩) ⟨fun a U g mk q => by obtain ⟨q0, q1, q2, qK, q10, q11, q12, q13, q14, q15, q16, q17, q18, q19⟩ := q; exact ⟨q0, q1, q2, jG.calling g mk a qK, (va_K.moved (Vm.Alike.refl U.vm) q10), (jK5.moved (Vm.Alike.refl U.vm) q11), q12, q13, q14, q15, q16, q17, q18, q19⟩, hh_3.recv (C := RX11) (T := TX11) (N := 19) hB13 rfl (by decide) hg_r0 hK, fun U hU hW => ⟨rfl, hU, hh_3.2.1, hG.step hW hU hh_3.1, va_K.moved hW.alike hK2, jK5.moved hW.alike hK5, hg_r0, hg_r1, hg_bo, hg_pa, hg_ou, (hh_3.2.2.1.sub (L1 := [(r0, 13, 4, .ref bo), (bo, 2, 1, .int pc), (bo, 2, 0, .ref pa), (r0, 13, 3, .ref ou)]) [0, 1, 2, 3] rfl), (hh_3.2.2.2.2.2.2.2.2.sub (L1 := [(jFy, jYb dC dI G0), (jFs11, jSef dC dI G0)]) [3, 4] rfl), (by omega), (by omega), ⟨(by first | omega | rfl | assumption | fail), (by first | omega | rfl | assumption | fail), (by first | omega | rfl | assumption | fail), (by first | omega | rfl | assumption | fail), (by first | assumption | fail | omega)⟩⟩⟩ rfl rfl hl.1 rfl (lv_room (Nat.le_of_ble_eq_true rfl)) dX11_answerOrWait_24 ⟨by rw [hRc]; omega, by rw [hRs]; omega⟩) hh_3.1 (fun q _ h => h) (fun q h => h) (fun u_56 t_56 H_56 locs_56 ht_56 hvm_56 hr_57 hb_56 hz_56 hk_56 hS_56 => ?_)
      obtain ⟨qc_56, qa_56, m_qa_56, G_56⟩ := u_56
      rw [ht_56] at hb_56
      simp only at hb_56
      obtain ⟨⟨hb_561, hb_562, hb_563, hb_564, hb_565, hb_566⟩, hgq_56_0, hN_56, hbO_56, hbE_56⟩ := hb_56
      have hW_56 := hN_56
      have hh_56 : jSt (dC, dI) B base G0 G_56 EX11_answerOrWaitT s.heap (0 + ((m_qa_56 - n_pa) / 16)) (0 + (2 * (m_qa_56 - n_pa))) [(bo, 2, 1, .int qc_56), (bo, 2, 0, .ref qa_56), (r0, 13, 4, .ref bo), (r0, 13, 3, .ref ou), (r0, 13, 8, .ref wt_), (wt_, 1, 2, .int wz)] [] [(jFkd, jKD dC dI ca G0 none kq), (jFqd, jQD dC dI ca G0 none qq), (jFl, jLs dC dI ca G0 3 none wl)] H_56 locs_56 := (hh_3.callG hb_561 hb_562 hb_563 hb_564 hb_565 hS_56 rfl (L1 := [(r0, 13, 4, .ref bo), (r0, 13, 3, .ref ou), (r0, 13, 8, .ref wt_), (wt_, 1, 2, .int wz)]) [0, 3, 4, 5] rfl rfl (M1 := []) [] rfl rfl (I1 := [(jFkd, jKD dC dI ca G0 none kq), (jFqd, jQD dC dI ca G0 none qq), (jFl, jLs dC dI ca G0 3 none wl)]) [0, 1, 5] rfl rfl).more hb_566
      have hNn_56 : (jNk [0, 1, 2, 3, 4, 5, 6, 7, 8, 9, 10, 11, 12, 13, 14, 15, 16, 17, 175]) G0 G_56 := (jNk.rf).tr hN_56
      have hg_58 := hb_562 _ _ hg_r0
      have hg_59 := hb_562 _ _ hg_r1
      have hg_60 := hb_562 _ _ hg_bo
      have hg_61 := hb_562 _ _ hg_ou
      have hg_62 := hb_562 _ _ hg_wt_
      have hd_63 := jKD.grow (ca := ca) (hh_56.iv 0 rfl) hb_562 hW_56 (by decide)
      have hh_64 := hh_56.sub (L1 := [(bo, 2, 1, .int qc_56), (bo, 2, 0, .ref qa_56), (r0, 13, 4, .ref bo), (r0, 13, 3, .ref ou), (r0, 13, 8, .ref wt_), (wt_, 1, 2, .int wz)]) [0, 1, 2, 3, 4, 5] rfl (M1 := []) [] rfl (I1 := [(jFqd, jQD dC dI ca G0 none qq), (jFl, jLs dC dI ca G0 3 none wl)]) [1, 2] rfl
      clear hh_56
      have hh_65 := hh_64.addI (jKD.ie hd_63)
      clear hh_64
      have hd_66 := jQD.grow (ca := ca) (hh_65.iv 1 rfl) hb_562 hW_56 (by decide)
      have hh_67 := hh_65.sub (L1 := [(bo, 2, 1, .int qc_56), (bo, 2, 0, .ref qa_56), (r0, 13, 4, .ref bo), (r0, 13, 3, .ref ou), (r0, 13, 8, .ref wt_), (wt_, 1, 2, .int wz)]) [0, 1, 2, 3, 4, 5] rfl (M1 := []) [] rfl (I1 := [(jFkd, jKD dC dI ca G_56 none kq), (jFl, jLs dC dI ca G0 3 none wl)]) [0, 2] rfl
      clear hh_65
      have hh_68 := hh_67.addI (jQD.ie hd_66)
      clear hh_67
      have hd_69 := jLs.grow (hh_68.iv 2 rfl) hb_562 hN_56 (by decide)
      have hh_70 := hh_68.sub (L1 := [(bo, 2, 1, .int qc_56), (bo, 2, 0, .ref qa_56), (r0, 13, 4, .ref bo), (r0, 13, 3, .ref ou), (r0, 13, 8, .ref wt_), (wt_, 1, 2, .int wz)]) [0, 1, 2, 3, 4, 5] rfl (M1 := []) [] rfl (I1 := [(jFqd, jQD dC dI ca G_56 none qq), (jFkd, jKD dC dI ca G_56 none kq)]) [0, 1] rfl
      clear hh_68
      have hh_71 := hh_70.addI (jLs.ie hd_69)
      clear hh_70
      have hh_72 := hh_71.addIs hbE_56
      have hd_73 := jOl.trL (hh_3.iv 2 rfl) hh_3.2.2.2.2.1 hbO_56 (by simp)
      have hh_74 := hh_72.addI (jOl.ie (dC := dC) (dI := dI) (G0 := G0) (k := 2) (rs := [bo, ou]) (H0 := s.heap) (F := [(2, 0), (2, 1)]) (C := RX0) (T := TX0) (N := 2) rfl (by decide) hh_72.2.2.2.2.1 (hd_73))
      clear hh_72
      try simp only at hr_57
      obtain ⟨hr_57_0, hr_57_1, hr_57_2, hr_57_3, hr_57_4⟩ := hr_57
      have hh_75 := hh_74.wk (zc1 := (m_qa_56 - n_pa) / 16 + 1) (zs1 := 2 * (m_qa_56 - n_pa) + 40) (by omega) (by omega)
      clear hh_74
      try clear hsz_56 htt_56 hrc_56 hrs_56
      try clear hb_564 hb_565
      refine lv_goto (tgt := 66) hx hb dX11_answerOrWait_27 (by decide) ?_
      have hsz_76 := hh_75.2.2.2.2.2.1
      have htt_76 := hh_75.2.2.2.2.2.2.1
      refine W.room (fun hrc_76 hrs_76 => ?_)
      refine W.widen (k := LC - s.heap.size) (n := LS - jTot s.heap) (by omega) (by omega) ?_
      rw [hQ]
      exact W.vret hx hb hr (fun t ht hW => ⟨⟨(qc_56, qa_56, m_qa_56, wl, G_56), rfl, by skip; (try dsimp only); refine ⟨(by first | (with_reducible assumption) | omega), (by first | (with_reducible assumption) | omega), (by first | (with_reducible assumption) | omega), (by first | (with_reducible assumption) | omega), (by first | (with_reducible assumption) | omega), ?_⟩; exact Or.inl ⟨rfl, Or.inr (Or.inl (hrd9.resolve_right (fun q => by have q1 := q.1; omega)).2)⟩, ⟨hh_75.ra (by first | (simp only; omega) | omega) (by first | (simp only; omega) | omega) (M1 := [(bo, 2, 1, .int qc_56), (bo, 2, 0, .ref qa_56)]) [0, 1] rfl ht, hgq_56_0, hNn_56, by rw [ht]; exact hh_75.iv 0 rfl, by rw [ht]; exact hh_75.2.2.2.2.2.2.2.2.sub (L1 := [(jFy, jYb dC dI G_56), (jFs11, jSef dC dI G_56), (jFl, jLs dC dI ca G_56 3 none wl), (jFkd, jKD dC dI ca G_56 none kq), (jFqd, jQD dC dI ca G_56 none qq)]) [1, 2, 3, 5, 4] rfl⟩⟩, by rw [ht]; try exact hh_75.1.1, fun q h9 hq => by rw [ht]; try exact hh_75.1.2.1 q h9 hq⟩) hh_75.1.2.2 dX11_answerOrWait_66
  · skip
    have c_2' : a2.toInt = 0 := jb_ne_n (rfl) ((by decide)) c_2
    refine lv_aload_n hx hb dX11_answerOrWait_4 rfl (lv_at hl 0 rfl) ?_
    refine lv_aload_n hx hb dX11_answerOrWait_5 rfl (lv_at hl 1 rfl) ?_
    refine lv_sipush (v := (-32602)) hx hb dX11_answerOrWait_6 (by decide) ?_
    have hsz_77 := hh_1.2.2.2.2.2.1
    have htt_77 := hh_1.2.2.2.2.2.2.1
    refine W.room (fun hrc_77 hrs_77 => ?_)
    refine va_callv (A0 := jA base) (H0 := s.heap) (va_runV (As := [.ref r1, .int (-32602)]) (rest := []) ⟨hx, hb, hml, hown, hts⟩ (uX11_refuse l dC dI ca base B hB hAp hB2 hB4 hB10 hB13 hB17 hB196 hB199 G0 s.heap r0 r1 (-32602) bo pc pa n_pa ou LC LS) (cwV 2 hts (jgV (jWr_26 _ (List.mem_of_getElem? (i := 3) rfl)) (jWr_26 _ (List.mem_of_getElem? (i := 4) rfl)) (jWr_26 _ (List.mem_of_getElem? (i := 5) rfl)) (jWr_1 _ (List.mem_of_getElem? (i := 2) rfl)) (jWr_26 _ (List.mem_of_getElem? (i := 6) rfl))) rfl rfl rfl (by decide +kernel) ⟨by rw [← hR]; exact Nat.le_of_ble_eq_true rfl, by rw [← hR]; exact Nat.le_of_ble_eq_true rfl⟩) ⟨fun a U g mk q => by obtain ⟨q0, q1, q2, qK, q10, q11, q12, q13, q14, q15, q16, q17⟩ := q; exact ⟨q0, q1, q2, jG.calling g mk a qK, q10, q11, q12, q13, q14, q15, q16, q17⟩, hh_1.recv (C := RX11) (T := TX11) (N := 19) hB13 rfl (by decide) hg_r0 hK, fun U hU hW => ⟨rfl, hU, hh_1.2.1, hG.step hW hU hh_1.1, hg_r1, hg_r0, hg_bo, hg_pa, hg_ou, (hh_1.2.2.1.sub (L1 := [(r0, 13, 4, .ref bo), (bo, 2, 1, .int pc), (bo, 2, 0, .ref pa), (r0, 13, 3, .ref ou)]) [0, 1, 2, 3] rfl), (hh_1.2.2.2.2.2.2.2.2.sub (L1 := [(jFy, jYb dC dI G0)]) [1] rfl), (by omega), (by omega), ⟨(by first | omega | rfl | assumption | fail), (by first | omega | rfl | assumption | fail), (by first | omega | rfl | assumption | fail), (by first | omega | rfl | assumption | fail), (by first | assumption | fail | omega)⟩⟩⟩ rfl rfl hl.1 rfl (lv_room (Nat.le_of_ble_eq_true rfl)) dX11_answerOrWait_9 ⟨by rw [hRc]; omega, by rw [hRs]; omega⟩) hh_1.1 (fun q _ h => h) (fun q h => h) (fun u_77 t_77 H_77 locs_77 ht_77 hvm_77 hr_78 hb_77 hz_77 hk_77 hS_77 => ?_)
    obtain ⟨qc_77, qa_77, m_qa_77, G_77⟩ := u_77
    rw [ht_77] at hb_77
    simp only at hb_77
    obtain ⟨⟨hb_771, hb_772, hb_773, hb_774, hb_775, hb_776⟩, hgq_77_0, hN_77, hbO_77, hbE_77⟩ := hb_77
    have hW_77 := hN_77
    have hh_77 : jSt (dC, dI) B base G0 G_77 EX11_answerOrWaitT s.heap (0 + ((m_qa_77 - n_pa) / 16)) (0 + (2 * (m_qa_77 - n_pa))) [(bo, 2, 1, .int qc_77), (bo, 2, 0, .ref qa_77), (r0, 13, 4, .ref bo), (r0, 13, 3, .ref ou), (r0, 13, 8, .ref wt_), (wt_, 1, 2, .int wz)] [] [(jFs11, jSef dC dI G0), (jFl, jLs dC dI ca G0 3 none wl), (jFkd, jKD dC dI ca G0 none kq), (jFqd, jQD dC dI ca G0 none qq)] H_77 locs_77 := (hh_1.callG hb_771 hb_772 hb_773 hb_774 hb_775 hS_77 rfl (L1 := [(r0, 13, 4, .ref bo), (r0, 13, 3, .ref ou), (r0, 13, 8, .ref wt_), (wt_, 1, 2, .int wz)]) [0, 3, 4, 5] rfl rfl (M1 := []) [] rfl rfl (I1 := [(jFs11, jSef dC dI G0), (jFl, jLs dC dI ca G0 3 none wl), (jFkd, jKD dC dI ca G0 none kq), (jFqd, jQD dC dI ca G0 none qq)]) [2, 3, 4, 5] rfl rfl).more hb_776
    have hNn_77 : (jNk [0, 1, 2, 3, 4, 5, 6, 7, 8, 9, 10, 11, 12, 13, 14, 15, 16, 17, 175]) G0 G_77 := (jNk.rf).tr hN_77
    have hg_79 := hb_772 _ _ hg_r0
    have hg_80 := hb_772 _ _ hg_r1
    have hg_81 := hb_772 _ _ hg_bo
    have hg_82 := hb_772 _ _ hg_ou
    have hg_83 := hb_772 _ _ hg_wt_
    have hd_84 := jSef.grow (hh_77.iv 0 rfl) hb_772 hN_77 (by decide)
    have hh_85 := hh_77.sub (L1 := [(bo, 2, 1, .int qc_77), (bo, 2, 0, .ref qa_77), (r0, 13, 4, .ref bo), (r0, 13, 3, .ref ou), (r0, 13, 8, .ref wt_), (wt_, 1, 2, .int wz)]) [0, 1, 2, 3, 4, 5] rfl (M1 := []) [] rfl (I1 := [(jFl, jLs dC dI ca G0 3 none wl), (jFkd, jKD dC dI ca G0 none kq), (jFqd, jQD dC dI ca G0 none qq)]) [1, 2, 3] rfl
    clear hh_77
    have hh_86 := hh_85.addI (jSef.ie hd_84)
    clear hh_85
    have hd_87 := jLs.grow (hh_86.iv 1 rfl) hb_772 hN_77 (by decide)
    have hh_88 := hh_86.sub (L1 := [(bo, 2, 1, .int qc_77), (bo, 2, 0, .ref qa_77), (r0, 13, 4, .ref bo), (r0, 13, 3, .ref ou), (r0, 13, 8, .ref wt_), (wt_, 1, 2, .int wz)]) [0, 1, 2, 3, 4, 5] rfl (M1 := []) [] rfl (I1 := [(jFs11, jSef dC dI G_77), (jFkd, jKD dC dI ca G0 none kq), (jFqd, jQD dC dI ca G0 none qq)]) [0, 2, 3] rfl
    clear hh_86
    have hh_89 := hh_88.addI (jLs.ie hd_87)
    clear hh_88
    have hd_90 := jKD.grow (ca := ca) (hh_89.iv 2 rfl) hb_772 hW_77 (by decide)
    have hh_91 := hh_89.sub (L1 := [(bo, 2, 1, .int qc_77), (bo, 2, 0, .ref qa_77), (r0, 13, 4, .ref bo), (r0, 13, 3, .ref ou), (r0, 13, 8, .ref wt_), (wt_, 1, 2, .int wz)]) [0, 1, 2, 3, 4, 5] rfl (M1 := []) [] rfl (I1 := [(jFl, jLs dC dI ca G_77 3 none wl), (jFs11, jSef dC dI G_77), (jFqd, jQD dC dI ca G0 none qq)]) [0, 1, 3] rfl
    clear hh_89
    have hh_92 := hh_91.addI (jKD.ie hd_90)
    clear hh_91
    have hd_93 := jQD.grow (ca := ca) (hh_92.iv 3 rfl) hb_772 hW_77 (by decide)
    have hh_94 := hh_92.sub (L1 := [(bo, 2, 1, .int qc_77), (bo, 2, 0, .ref qa_77), (r0, 13, 4, .ref bo), (r0, 13, 3, .ref ou), (r0, 13, 8, .ref wt_), (wt_, 1, 2, .int wz)]) [0, 1, 2, 3, 4, 5] rfl (M1 := []) [] rfl (I1 := [(jFkd, jKD dC dI ca G_77 none kq), (jFl, jLs dC dI ca G_77 3 none wl), (jFs11, jSef dC dI G_77)]) [0, 1, 2] rfl
    clear hh_92
    have hh_95 := hh_94.addI (jQD.ie hd_93)
    clear hh_94
    have hh_96 := hh_95.addIs hbE_77
    have hd_97 := jOl.trL (hh_1.iv 0 rfl) hh_1.2.2.2.2.1 hbO_77 (by simp)
    have hh_98 := hh_96.addI (jOl.ie (dC := dC) (dI := dI) (G0 := G0) (k := 2) (rs := [bo, ou]) (H0 := s.heap) (F := [(2, 0), (2, 1)]) (C := RX0) (T := TX0) (N := 2) rfl (by decide) hh_96.2.2.2.2.1 (hd_97))
    clear hh_96
    try simp only at hr_78
    obtain ⟨hr_78_0, hr_78_1, hr_78_2, hr_78_3, hr_78_4⟩ := hr_78
    have hh_99 := hh_98.wk (zc1 := (m_qa_77 - n_pa) / 16 + 1) (zs1 := 2 * (m_qa_77 - n_pa) + 40) (by omega) (by omega)
    clear hh_98
    try clear hsz_77 htt_77 hrc_77 hrs_77
    try clear hb_774 hb_775
    refine lv_goto (tgt := 66) hx hb dX11_answerOrWait_12 (by decide) ?_
    have hsz_100 := hh_99.2.2.2.2.2.1
    have htt_100 := hh_99.2.2.2.2.2.2.1
    refine W.room (fun hrc_100 hrs_100 => ?_)
    refine W.widen (k := LC - s.heap.size) (n := LS - jTot s.heap) (by omega) (by omega) ?_
    rw [hQ]
    exact W.vret hx hb hr (fun t ht hW => ⟨⟨(qc_77, qa_77, m_qa_77, wl, G_77), rfl, by skip; (try dsimp only); refine ⟨(by first | (with_reducible assumption) | omega), (by first | (with_reducible assumption) | omega), (by first | (with_reducible assumption) | omega), (by first | (with_reducible assumption) | omega), (by first | (with_reducible assumption) | omega), ?_⟩; exact Or.inl ⟨rfl, Or.inl (by omega)⟩, ⟨hh_99.ra (by first | (simp only; omega) | omega) (by first | (simp only; omega) | omega) (M1 := [(bo, 2, 1, .int qc_77), (bo, 2, 0, .ref qa_77)]) [0, 1] rfl ht, hgq_77_0, hNn_77, by rw [ht]; exact hh_99.iv 0 rfl, by rw [ht]; exact hh_99.2.2.2.2.2.2.2.2.sub (L1 := [(jFy, jYb dC dI G_77), (jFs11, jSef dC dI G_77), (jFl, jLs dC dI ca G_77 3 none wl), (jFkd, jKD dC dI ca G_77 none kq), (jFqd, jQD dC dI ca G_77 none qq)]) [1, 5, 4, 3, 2] rfl⟩⟩, by rw [ht]; try exact hh_99.1.1, fun q h9 hq => by rw [ht]; try exact hh_99.1.2.1 q h9 hq⟩) hh_99.1.2.2 dX11_answerOrWait_66
end
