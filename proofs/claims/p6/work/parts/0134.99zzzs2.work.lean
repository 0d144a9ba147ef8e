section
def EX11_workW : List (Nat × Nat) := [(1, 0), (1, 1), (1, 2), (2, 0), (2, 1), (3, 10), (3, 11), (3, 12), (3, 13), (3, 14), (3, 15), (3, 16), (7, 5), (7, 10), (8, 3), (9, 2), (11, 2), (11, 3), (11, 4), (11, 5), (11, 6), (11, 7), (11, 8), (12, 3), (12, 4), (12, 5), (12, 7), (12, 8), (12, 10), (13, 12), (13, 13), (13, 14), (101, 0), (102, 0), (132, 0), (133, 0), (196, 0), (210, 0), (211, 0), (212, 0), (221, 0), (222, 0), (223, 0), (280, 0), (286, 0), (287, 0), (288, 0), (290, 0), (291, 0), (292, 0), (293, 0)]
set_option maxHeartbeats 4000000 in
set_option maxRecDepth 20000 in
theorem uX11_workW (l : Launch) (dC : Nat → ClassId) (dI : Nat → Nat → Nat) (ca : Nat → ClassId) (base : Nat) (B : jF) (hB : jBok B) (hAp : jAp (dC, dI)) (hB1 : ∀ n G a H, B 1 n G a H ↔ jOb (dC, dI) 1 3 (F1 n G) a H) (hB2 : ∀ n G a H, B 2 n G a H ↔ jOb (dC, dI) 2 2 (F2 n G) a H) (hB3 : ∀ n G a H, B 3 n G a H ↔ jOb (dC, dI) 3 17 (F3 n G) a H) (hB4 : ∀ n G a H, B 4 n G a H ↔ jOb (dC, dI) 4 12 (F4 n G) a H) (hB5 : ∀ n G a H, B 5 n G a H ↔ jOb (dC, dI) 5 4 (F5 n G) a H) (hB7 : ∀ n G a H, B 7 n G a H ↔ jOb (dC, dI) 7 11 (F7 n G) a H) (hB8 : ∀ n G a H, B 8 n G a H ↔ jOb (dC, dI) 8 4 (F8 n G) a H) (hB9 : ∀ n G a H, B 9 n G a H ↔ jOb (dC, dI) 9 5 (F9b n G) a H) (hB10 : ∀ n G a H, B 10 n G a H ↔ jOb (dC, dI) 10 5 (F10 n G) a H) (hB11 : ∀ n G a H, B 11 n G a H ↔ jOb (dC, dI) 11 9 (F11 n G) a H) (hB12 : ∀ n G a H, B 12 n G a H ↔ jOb (dC, dI) 12 11 (F12b n G) a H) (hB13 : ∀ n G a H, B 13 n G a H ↔ jOb (dC, dI) 13 19 (F13 n G) a H) (hB17 : ∀ n G a H, B 17 n G a H ↔ jOb (dC, dI) 17 2 (F17 n G) a H) (hB101 : ∀ n G a H, B 101 n G a H ↔ jAr (dC, dI) (ca 1) (fun j z => True) n a H) (hB102 : ∀ n G a H, B 102 n G a H ↔ jAl (dC, dI) (ca 2) n a H) (hB132 : ∀ n G a H, B 132 n G a H ↔ jAr (dC, dI) (ca 1) (fun j z => 0 ≤ z.toInt ∧ z.toInt ≤ 10) n a H) (hB133 : ∀ n G a H, B 133 n G a H ↔ jAr (dC, dI) (ca 1) (fun j z => 0 ≤ z.toInt ∧ z.toInt ≤ 8192) n a H) (hB171 : ∀ n G a H, B 171 n G a H ↔ jAr (dC, dI) (ca 1) (fun j z => 0 ≤ z.toInt ∧ z.toInt ≤ 1500) n a H) (hB172 : ∀ n G a H, B 172 n G a H ↔ jAr (dC, dI) (ca 1) (fun j z => 0 ≤ z.toInt ∧ z.toInt ≤ 1500) n a H) (hB173 : ∀ n G a H, B 173 n G a H ↔ jAr (dC, dI) (ca 1) (fun j z => True) n a H) (hB174 : ∀ n G a H, B 174 n G a H ↔ jAr (dC, dI) (ca 1) (fun j z => True) n a H) (hB175 : ∀ n G a H, B 175 n G a H ↔ jAr (dC, dI) (ca 1) (fun j z => True) n a H) (hB176 : ∀ n G a H, B 176 n G a H ↔ jAr (dC, dI) (ca 1) (fun j z => True) n a H) (hB177 : ∀ n G a H, B 177 n G a H ↔ jAr (dC, dI) (ca 1) (fun j z => True) n a H) (hB196 : ∀ n G a H, B 196 n G a H ↔ jAr (dC, dI) (ca 0) (fun j z => jBf j z) n a H) (hB199 : ∀ n G a H, B 199 n G a H ↔ jAr (dC, dI) (ca 0) (fun j z => jBf j z) n a H) (hB210 : ∀ n G a H, B 210 n G a H ↔ jAq (dC, dI) (ca 6) (jQn 11 0) n G a H) (hB211 : ∀ n G a H, B 211 n G a H ↔ jAq (dC, dI) (ca 7) (jQh) n G a H) (hB212 : ∀ n G a H, B 212 n G a H ↔ jAq (dC, dI) (ca 5) (jQn 3 0) n G a H) (hB214 : ∀ n G a H, B 214 n G a H ↔ jAq (dC, dI) (ca 7) (jQg) n G a H) (hB221 : ∀ n G a H, B 221 n G a H ↔ jAq (dC, dI) (ca 9) (jQn 3 0) n G a H) (hB222 : ∀ n G a H, B 222 n G a H ↔ jAq (dC, dI) (ca 9) (jQn 10 0) n G a H) (hB223 : ∀ n G a H, B 223 n G a H ↔ jAq (dC, dI) (ca 9) (jQn 11 0) n G a H) (hB280 : ∀ n G a H, B 280 n G a H ↔ jAr (dC, dI) (ca 1) (fun j z => -1 ≤ z.toInt) n a H) (hB286 : ∀ n G a H, B 286 n G a H ↔ jAr (dC, dI) (ca 1) (fun j z => (0 ≤ z.toInt ∨ z.toInt = -3)) n a H) (hB287 : ∀ n G a H, B 287 n G a H ↔ jAr (dC, dI) (ca 1) (fun j z => 0 ≤ z.toInt ∧ z.toInt ≤ 65535) n a H) (hB288 : ∀ n G a H, B 288 n G a H ↔ jAr (dC, dI) (ca 1) (fun j z => 0 ≤ z.toInt ∧ z.toInt ≤ 160) n a H) (hB290 : ∀ n G a H, B 290 n G a H ↔ jAr (dC, dI) (ca 1) (fun j z => 0 ≤ z.toInt ∧ z.toInt ≤ 3000) n a H) (hB291 : ∀ n G a H, B 291 n G a H ↔ jAr (dC, dI) (ca 1) (fun j z => 0 ≤ z.toInt ∧ z.toInt ≤ 3000) n a H) (hB292 : ∀ n G a H, B 292 n G a H ↔ jAr (dC, dI) (ca 1) (fun j z => 0 ≤ z.toInt ∧ z.toInt ≤ 8191) n a H) (hB293 : ∀ n G a H, B 293 n G a H ↔ jAr (dC, dI) (ca 1) (fun j z => -1 ≤ z.toInt ∧ z.toInt ≤ 8191) n a H) (hB313 : ∀ n G a H, B 313 n G a H ↔ jAq (dC, dI) (ca 8) (jQk 280 80) n G a H) (hB315 : ∀ n G a H, B 315 n G a H ↔ jAqZ (dC, dI) (ca 8) n a H) (G0 : jT) (H0 : Heap) (r0 : Nat) (a1 : Int32) (bo : Nat) (pc : Int32) (pa : Nat) (n_pa : Nat) (ou : Nat) (ph : Nat) (S9 : Int × (Int → jdD)) (Z9 : jwSt) (LC LS : Nat) : Met l yX11_work (jw yX11_work cX11_work 4 (some .int)) ({ frames := 72, cells := LC - H0.size, slots := LS - jTot H0, locals := 2306 }) (va_Pc [.ref r0, .int a1] (fun U => U.heap = H0 ∧ jX B base G0 [] H0 ∧ jG dC dI ca base U ∧ jK2 dC dI ca U ∧ jK5 dC dI ca U ∧ jK6 U ∧ jK7 dC dI ca base U ∧ jK8 U ∧ G0 r0 = some (13, 0) ∧ G0 bo = some (2, 0) ∧ G0 pa = some (196, n_pa) ∧ G0 ou = some (2, 20000) ∧ jP (dC, dI) G0 H0 [(r0, 13, 4, .ref bo), (bo, 2, 1, .int pc), (bo, 2, 0, .ref pa), (r0, 13, 3, .ref ou)] ∧ jIs (dC, dI) G0 H0 [(jFy, jYb dC dI G0), (jFs11, jSef dC dI G0), (jFdo, jDcc dC dI ca G0 none ph), (jFCZ, jCZ dC dI ca G0 r0 S9 Z9)] ∧ H0.size + (1048576 - n_pa) / 16 + 40 + ph / 16 ≤ LC ∧ jTot H0 + 2 * (1048576 - n_pa) + 100 + ph ≤ LS ∧ 0 ≤ pc.toInt ∧ pc.toInt ≤ n_pa ∧ 16 ≤ n_pa ∧ n_pa ≤ 1048576 ∧ jPw n_pa ∧ jwOk S9 Z9)) (va_Qi (S := Int32 × Nat × Nat × Nat × jT) (fun r u => (0 ≤ u.1.toInt ∧ u.1.toInt ≤ u.2.2.1 ∧ n_pa ≤ u.2.2.1 ∧ u.2.2.1 ≤ 1048576 ∧ jPw u.2.2.1 ∧ u.2.2.2.1 ≤ ph ∧ r.toInt = (jwWork S9 a1.toInt Z9).1)) (fun u t => jRa (dC, dI) B base G0 u.2.2.2.2 EX11_workW H0 ((u.2.2.1 - n_pa) / 16 + (ph - u.2.2.2.1) / 16) (2 * (u.2.2.1 - n_pa) + (ph - u.2.2.2.1)) [(bo, 2, 1, .int u.1), (bo, 2, 0, .ref u.2.1)] t.heap ∧ u.2.2.2.2 u.2.1 = some (196, u.2.2.1) ∧ (jNk [0, 1, 2, 3, 4, 6, 7, 8, 9, 10, 12, 13, 14, 15, 16, 17]) G0 u.2.2.2.2 ∧ jOl (dC, dI) G0 2 [bo, ou] H0 t.heap ∧ jIs (dC, dI) u.2.2.2.2 t.heap [(jFy, jYb dC dI u.2.2.2.2), (jFs11, jSef dC dI u.2.2.2.2), (jFdo, jDcc dC dI ca u.2.2.2.2 none (u.2.2.2.1)), (jFCZ, jCZ dC dI ca u.2.2.2.2 r0 S9 ((jwWork S9 a1.toInt Z9).2))]) (jA base)) (LC - H0.size) (LS - jTot H0) (jA base) := by
  refine Met.ofW (cc := cX11_work) (maxL := 4) (ret := (some .int)) (by decide) rfl ?_
  intro p e s m args below meth c s₁ Bd hml hv
  obtain ⟨rfl, hH0, hX, hG, hK2, hK5, hK6, hK7, hK8, hg_r0, hg_bo, hg_pa, hg_ou, hP0, hI0, hLC0, hLS0, hp0, hp1, hp2, hp3, hp4, hp5⟩ := hv
  have hK := hG.1
  have hx := Bd.exec
  have hb := Bd.bytes
  have hr := Bd.returns
  have hts := atoms_spec (ws := (jw yX11_work cX11_work 4 (some .int))) Bd.pre
  have htw : ∀ w ∈ jWl, w.before _ s = true := fun w h => hts w (List.mem_cons_of_mem _ h)
  have hown : s.vm.findClass RX11 = some m.cls := findClass_of_methodNamed Bd.named
  have hlocks := Bd.notSynchronized
  obtain ⟨Q, hQ⟩ : ∃ Q, Q = MQ below (va_Qi (S := Int32 × Nat × Nat × Nat × jT) (fun r u => (0 ≤ u.1.toInt ∧ u.1.toInt ≤ u.2.2.1 ∧ n_pa ≤ u.2.2.1 ∧ u.2.2.1 ≤ 1048576 ∧ jPw u.2.2.1 ∧ u.2.2.2.1 ≤ ph ∧ r.toInt = (jwWork S9 a1.toInt Z9).1)) (fun u t => jRa (dC, dI) B base G0 u.2.2.2.2 EX11_workW H0 ((u.2.2.1 - n_pa) / 16 + (ph - u.2.2.2.1) / 16) (2 * (u.2.2.1 - n_pa) + (ph - u.2.2.2.1)) [(bo, 2, 1, .int u.1), (bo, 2, 0, .ref u.2.1)] t.heap ∧ u.2.2.2.2 u.2.1 = some (196, u.2.2.1) ∧ (jNk [0, 1, 2, 3, 4, 6, 7, 8, 9, 10, 12, 13, 14, 15, 16, 17]) G0 u.2.2.2.2 ∧ jOl (dC, dI) G0 2 [bo, ou] H0 t.heap ∧ jIs (dC, dI) u.2.2.2.2 t.heap [(jFy, jYb dC dI u.2.2.2.2), (jFs11, jSef dC dI u.2.2.2.2), (jFdo, jDcc dC dI ca u.2.2.2.2 none (u.2.2.2.1)), (jFCZ, jCZ dC dI ca u.2.2.2.2 r0 S9 ((jwWork S9 a1.toInt Z9).2))]) (jA base)) ([.ref r0, .int a1] : List Value).toArray s (LC - H0.size) (LS - jTot H0) (jA base) := ⟨_, rfl⟩
  rw [← hQ]
  have hl := lv_entry ([.ref r0, .int a1]) (n := 4) (Nat.le_of_ble_eq_true rfl)
  rw [lg_entry_eq]
  generalize (lg_sl ([.ref r0, .int a1]) ++ List.replicate (4 - (lg_sl ([.ref r0, .int a1])).length) Slot.unset).toArray = ls at hl ⊢
  have hl : lv_has ls 4 [(0, .ref r0), (1, .int a1)] := hl
  generalize hR : (headSpec (jw yX11_work cX11_work 4 (some .int)) ({ frames := 72, cells := LC - H0.size, slots := LS - jTot H0, locals := 2306 })).room = R
  subst hH0
  have hh : jSt (dC, dI) B base G0 G0 EX11_workW s.heap 0 0 [(r0, 13, 4, .ref bo), (bo, 2, 1, .int pc), (bo, 2, 0, .ref pa), (r0, 13, 3, .ref ou)] [] [(jFy, jYb dC dI G0), (jFs11, jSef dC dI G0), (jFdo, jDcc dC dI ca G0 none ph), (jFCZ, jCZ dC dI ca G0 r0 S9 Z9)] s.heap [] := jSt.start hX hP0 jMc.nil hI0
  clear hX hP0
  have hkm1 : ((-1) : Int32).toInt = (-1) := by decide
  have hk0 : (0 : Int32).toInt = 0 := by decide
  have hk1 : (1 : Int32).toInt = 1 := by decide
  have hk2 : (2 : Int32).toInt = 2 := by decide
  have hk10000 : (10000 : Int32).toInt = 10000 := by decide
  have hly_13_12 := htw (u_lay RX11 TX11 12) (jWc_wsX110 _ (u_in_lay (by decide)))
  have hlk_133 := (htw (.fieldLink RX11 133 "ProofServer" "steps" "I") (jWr_76 _ (List.mem_of_getElem? (i := 14) rfl)))
  have hrg_a1 := jb_rng a1
  have hbs : base ≤ s.heap.size := Nat.le_of_lt (Nat.lt_of_le_of_lt (hh.ab hg_r0).1 (hh.ab hg_r0).2)
  have hRc : R.cells = LC - s.heap.size := by rw [← hR]; rfl
  have hRs : R.slots = LS - jTot s.heap := by rw [← hR]; rfl
  have hh_1 := hh.addI (jOl.ie (dC := dC) (dI := dI) (G0 := G0) (k := 2) (rs := [bo, ou]) (H0 := s.heap) (F := [(2, 0), (2, 1)]) (C := RX0) (T := TX0) (N := 2) rfl (by decide) hh.2.2.2.2.1 (jOl.rf))
  clear hh
  refine lv_iload_n hx hb dX11_work_0 rfl (lv_at hl 1 rfl) ?_
  refine lv_if_lt (tgt := 11) hx hb dX11_work_1 (by decide) (fun c_2 => ?_) (fun c_2 => ?_)
  · skip
    have c_2' : a1.toInt < 0 := jb_lt (rfl) ((by decide)) c_2
    refine lv_iconst (v := (-1)) hx hb dX11_work_11 (by decide) ?_
    have hA_3 : Z9 = ((jwWork S9 a1.toInt Z9).2) := by unfold jwWork; rw [if_neg (by omega)]
    have hAe_3 : jCZ dC dI ca G0 r0 S9 ((jwWork S9 a1.toInt Z9).2) s.heap := by rw [← hA_3]; exact hh_1.iv 4 rfl
    have hh_4 := hh_1.sub (L1 := [(r0, 13, 4, .ref bo), (bo, 2, 1, .int pc), (bo, 2, 0, .ref pa), (r0, 13, 3, .ref ou)]) [0, 1, 2, 3] rfl (M1 := []) [] rfl (I1 := [([(2, 0), (2, 1)], jOl (dC, dI) G0 2 [bo, ou] s.heap), (jFy, jYb dC dI G0), (jFs11, jSef dC dI G0), (jFdo, jDcc dC dI ca G0 none ph)]) [0, 1, 2, 3] rfl
    clear hh_1
    have hh_5 := hh_4.addI (jCZ.ie hAe_3)
    clear hh_4
    have hsz_6 := hh_5.2.2.2.2.2.1
    have htt_6 := hh_5.2.2.2.2.2.2.1
    refine W.room (fun hrc_6 hrs_6 => ?_)
    refine W.widen (k := LC - s.heap.size) (n := LS - jTot s.heap) (by omega) (by omega) ?_
    rw [hQ]
    exact W.iret (v := (-1)) hx hb hr (fun t ht hW => ⟨⟨(-1), (pc, pa, n_pa, ph, G0), rfl, by skip; (try dsimp only); refine ⟨(by first | (with_reducible assumption) | omega), (by first | (with_reducible assumption) | omega), (by first | (with_reducible assumption) | omega), (by first | (with_reducible assumption) | omega), (by first | (with_reducible assumption) | omega), (by first | (with_reducible assumption) | omega), ?_⟩; unfold jwWork; rw [if_neg (by omega)]; exact hkm1, ⟨hh_5.ra (by first | (simp only; omega) | omega) (by first | (simp only; omega) | omega) (M1 := [(bo, 2, 1, .int pc), (bo, 2, 0, .ref pa)]) [1, 2] rfl ht, hg_pa, jNk.rf, by rw [ht]; exact hh_5.iv 1 rfl, by rw [ht]; exact hh_5.2.2.2.2.2.2.2.2.sub (L1 := [(jFy, jYb dC dI G0), (jFs11, jSef dC dI G0), (jFdo, jDcc dC dI ca G0 none ph), (jFCZ, jCZ dC dI ca G0 r0 S9 ((jwWork S9 a1.toInt Z9).2))]) [2, 3, 4, 0] rfl⟩⟩, by rw [ht]; try exact hh_5.1.1, fun q h9 hq => by rw [ht]; try exact hh_5.1.2.1 q h9 hq⟩) hh_5.1.2.2 dX11_work_12
  · skip
    have c_2' : a1.toInt ≥ 0 := jb_lt_n (rfl) ((by decide)) c_2
    refine lv_iload_n hx hb dX11_work_4 rfl (lv_at hl 1 rfl) ?_
    refine lv_sipush (v := 10000) hx hb dX11_work_5 (by decide) ?_
    refine lv_icmp_le (tgt := 13) hx hb dX11_work_8 (by decide) (fun c_7 => ?_) (fun c_7 => ?_)
    · skip
      have c_7' : a1.toInt ≤ 10000 := jb_le (rfl) ((by decide)) c_7
      refine lv_iconst (v := 0) hx hb dX11_work_13 (by decide) ?_
      refine lv_istore_n (lv' := [(2, .int 0), (0, .ref r0), (1, .int a1)]) hx hb dX11_work_14 rfl hl (by decide) rfl (fun ls hl => ?_)
      have L15 : ∀ (N : Nat) (Gx_8 : jT) (zcx_8 : Nat) (zsx_8 : Nat) (v2_8 : Int32) (wc_8 : Int32) (wr_8 : Nat) (m_wr_8 : Nat) (Z9x_8 : jwSt) (ph_8 : Nat) (H_8 : Heap) (locs_8 : List Loc), jSt (dC, dI) B base G0 Gx_8 EX11_workW s.heap zcx_8 zsx_8 [(bo, 2, 1, .int wc_8), (bo, 2, 0, .ref wr_8), (r0, 13, 4, .ref bo), (r0, 13, 3, .ref ou)] [] [([(2, 0), (2, 1)], jOl (dC, dI) G0 2 [bo, ou] s.heap), (jFy, jYb dC dI Gx_8), (jFs11, jSef dC dI Gx_8), (jFdo, jDcc dC dI ca Gx_8 none ph_8), (jFCZ, jCZ dC dI ca Gx_8 r0 S9 Z9x_8)] H_8 locs_8 → (jNk [0, 1, 2, 3, 4, 6, 7, 8, 9, 10, 12, 13, 14, 15, 16, 17]) G0 Gx_8 → jLe G0 Gx_8 → Gx_8 wr_8 = some (196, m_wr_8) → (0 ≤ wc_8.toInt ∧ wc_8.toInt ≤ m_wr_8 ∧ n_pa ≤ m_wr_8 ∧ m_wr_8 ≤ 1048576 ∧ jPw m_wr_8 ∧ ph_8 ≤ ph ∧ zcx_8 ≤ (m_wr_8 - n_pa) / 16 + (ph - ph_8) / 16 ∧ zsx_8 ≤ 2 * (m_wr_8 - n_pa) + (ph - ph_8) ∧ 0 ≤ v2_8.toInt ∧ v2_8.toInt ≤ a1.toInt ∧ jwWo S9 Z9 a1.toInt v2_8.toInt Z9x_8) → (a1.toInt - v2_8.toInt : Int) < N → ∀ ls : Array Slot, lv_has ls 4 [(0, .ref r0), (1, .int a1), (2, .int v2_8)] → W p l e R s m ([.ref r0, .int a1] : List Value).toArray below meth c H_8 locs_8 zcx_8 zsx_8 Q (F0 m 15 ls []) := by
        intro N
        induction N with
        | zero => intro Gx_8 zcx_8 zsx_8 v2_8 wc_8 wr_8 m_wr_8 Z9x_8 ph_8 H_8 locs_8 hh_8 hN_8 hle_8 hg_wr_8 hi_8 hm; exact absurd hm (by omega)
        | succ N L15 =>
          intro Gx_8 zcx_8 zsx_8 v2_8 wc_8 wr_8 m_wr_8 Z9x_8 ph_8 H_8 locs_8 hh_8 hN_8 hle_8 hg_wr_8 hi_8 hm_8 ls hl
          have hg_9 := hle_8 _ _ hg_r0
          have hg_10 := hle_8 _ _ hg_bo
          have hg_11 := hle_8 _ _ hg_ou
          obtain ⟨hi_8_0, hi_8_1, hi_8_2, hi_8_3, hi_8_4, hi_8_5, hi_8_6, hi_8_7, hi_8_8, hi_8_9, hi_8_10⟩ := hi_8
          refine lv_iload_n hx hb dX11_work_15 rfl (lv_at hl 2 rfl) ?_
          refine lv_iload_n hx hb dX11_work_16 rfl (lv_at hl 1 rfl) ?_
          refine lv_icmp_ge (tgt := 51) hx hb dX11_work_17 (by decide) (fun c_12 => ?_) (fun c_12 => ?_)
          · skip
            have c_12' : v2_8.toInt ≥ a1.toInt := jb_ge (rfl) (rfl) c_12
            have hA_13 : Z9x_8 = ((jwWork S9 a1.toInt Z9).2) := (hi_8_10.e (by omega) (Or.inl (by omega))).2.symm
            have hAe_13 : jCZ dC dI ca Gx_8 r0 S9 ((jwWork S9 a1.toInt Z9).2) H_8 := by rw [← hA_13]; exact hh_8.iv 4 rfl
            have hh_14 := hh_8.sub (L1 := [(bo, 2, 1, .int wc_8), (bo, 2, 0, .ref wr_8), (r0, 13, 4, .ref bo), (r0, 13, 3, .ref ou)]) [0, 1, 2, 3] rfl (M1 := []) [] rfl (I1 := [([(2, 0), (2, 1)], jOl (dC, dI) G0 2 [bo, ou] s.heap), (jFy, jYb dC dI Gx_8), (jFs11, jSef dC dI Gx_8), (jFdo, jDcc dC dI ca Gx_8 none ph_8)]) [0, 1, 2, 3] rfl
            clear hh_8
            have hh_15 := hh_14.addI (jCZ.ie hAe_13)
            clear hh_14
            refine lv_aload_n hx hb dX11_work_51 rfl (lv_at hl 0 rfl) ?_
            refine lv_dup hx hb dX11_work_52 rfl ?_
            obtain ⟨v_16, hv_16, hh_17⟩ := hh_15.pin (C := RX11) (T := TX11) (N := 19) hB13 rfl (by decide) hg_9 (i := 12) (by decide) rfl
            clear hh_15
            obtain ⟨steps_18, rfl⟩ := hv_16
            refine j7_read hx hb hown hK (C := RX11) (T := TX11) (N := 19) rfl hly_13_12 hlk_133 (hh_17.at 0 rfl) dX11_work_53 ?_
            refine lv_iload_n hx hb dX11_work_56 rfl (lv_at hl 2 rfl) ?_
            refine lv_iadd hx hb dX11_work_57 ?_
            refine lv_topi (fun z_19 ez_19 => ?_)
            refine j7_put hx hb hown hK hh_17 hB hAp hB13 (C := RX11) (T := TX11) (N := 19) rfl (by decide) hg_9 (i := 12) (by decide) hly_13_12 rfl hlk_133 rfl (ty := .int) (v := .int z_19) (by decide +kernel) rfl rfl (⟨_, rfl⟩) rfl (L1 := [(bo, 2, 1, .int wc_8), (bo, 2, 0, .ref wr_8), (r0, 13, 4, .ref bo), (r0, 13, 3, .ref ou)]) [1, 2, 3, 4] rfl rfl rfl dX11_work_58 (fun H_20 locs_20 hh_20 => ?_)
            clear hh_17
            refine lv_iload_n hx hb dX11_work_61 rfl (lv_at hl 2 rfl) ?_
            have hsz_21 := hh_20.2.2.2.2.2.1
            have htt_21 := hh_20.2.2.2.2.2.2.1
            refine W.room (fun hrc_21 hrs_21 => ?_)
            refine W.widen (k := LC - s.heap.size) (n := LS - jTot s.heap) (by omega) (by omega) ?_
            rw [hQ]
            exact W.iret (v := v2_8) hx hb hr (fun t ht hW => ⟨⟨v2_8, (wc_8, wr_8, m_wr_8, ph_8, Gx_8), rfl, by skip; (try dsimp only); refine ⟨(by first | (with_reducible assumption) | omega), (by first | (with_reducible assumption) | omega), (by first | (with_reducible assumption) | omega), (by first | (with_reducible assumption) | omega), (by first | (with_reducible assumption) | omega), (by first | (with_reducible assumption) | omega), ?_⟩; exact (hi_8_10.e (by omega) (Or.inl (by omega))).1.symm, ⟨hh_20.ra (by first | (simp only; omega) | omega) (by first | (simp only; omega) | omega) (M1 := [(bo, 2, 1, .int wc_8), (bo, 2, 0, .ref wr_8)]) [1, 2] rfl ht, hg_wr_8, hN_8, by rw [ht]; exact hh_20.iv 1 rfl, by rw [ht]; exact hh_20.2.2.2.2.2.2.2.2.sub (L1 := [(jFy, jYb dC dI Gx_8), (jFs11, jSef dC dI Gx_8), (jFdo, jDcc dC dI ca Gx_8 none ph_8), (jFCZ, jCZ dC dI ca Gx_8 r0 S9 ((jwWork S9 a1.toInt Z9).2))]) [2, 3, 4, 0] rfl⟩⟩, by rw [ht]; try exact hh_20.1.1, fun q h9 hq => by rw [ht]; try exact hh_20.1.2.1 q h9 hq⟩) hh_20.1.2.2 dX11_work_62
          · skip
            have c_12' : v2_8.toInt < a1.toInt := jb_ge_n (rfl) (rfl) c_12
            refine lv_aload_n hx hb dX11_work_20 rfl (lv_at hl 0 rfl) ?_
            obtain ⟨s0_22, tq_22, kq_22, wl_22, ho_22, us_22, rw_22, qq_22, ib_22, hb1_22, hb2_22, hb3_22, hb4_22, hb5_22, hb6_22, hb7_22, hb8_22, hCz_22⟩ := hh_8.iv 4 rfl
            have hh_23 := hh_8.sub (L1 := [(bo, 2, 1, .int wc_8), (bo, 2, 0, .ref wr_8), (r0, 13, 4, .ref bo), (r0, 13, 3, .ref ou)]) [0, 1, 2, 3] rfl (M1 := []) [] rfl (I1 := [([(2, 0), (2, 1)], jOl (dC, dI) G0 2 [bo, ou] s.heap), (jFy, jYb dC dI Gx_8), (jFs11, jSef dC dI Gx_8), (jFdo, jDcc dC dI ca Gx_8 none ph_8)]) [0, 1, 2, 3] rfl
            clear hh_8
            have hh_24 := hh_23.addI (jHst.ie hb8_22)
            clear hh_23
            have hh_25 := hh_24.addI (jIB.ie (r := 0) hb7_22)
            clear hh_24
            have hh_26 := hh_25.addI (jQD.ie (ca := ca) hb6_22)
            clear hh_25
            have hh_27 := hh_26.addI (jUN.ie (r := 0) hb5_22)
            clear hh_26
            have hh_28 := hh_27.addI (jHh.ie hb4_22)
            clear hh_27
            have hh_29 := hh_28.addI (jLs.ie hb3_22)
            clear hh_28
            have hh_30 := hh_29.addI (jKD.ie hb2_22)
            clear hh_29
            have hh_31 := hh_30.addI (jCD.ie hb1_22)
            clear hh_30
            obtain ⟨kr_22, krn_22, -, hgkr_22, hkp1_22, hkp2_22⟩ := hh_31.iv 7 rfl
            have hgs0_22 := hCz_22.2.2.2.2.2.2.2.2.2.1
            have hh_32 := hh_31.more (P1 := [(r0, 13, 5, .ref kr_22), (kr_22, 7, 2, .ref s0_22)]) (jP.cons hg_9 hkp1_22 (jP.cons hgkr_22 hkp2_22 jP.nil))
            clear hh_31
            obtain ⟨v_35, hv_35, hh_36⟩ := hh_32.pin (C := RX11) (T := TX11) (N := 19) hB13 rfl (by decide) hg_9 (i := 7) (by decide) rfl
            obtain ⟨open_37, rfl, hg_open_37⟩ := hv_35
            obtain ⟨v_38, hv_38, hh_39⟩ := hh_36.pin (C := RJx4a65c) (T := TJx4a65c) (N := 3) hB1 rfl (by decide) hg_open_37 (i := 2) (by decide) rfl
            obtain ⟨size_40, rfl, hlosize_40, hhisize_40⟩ := hv_38
            obtain ⟨v_41, hv_41, hh_42⟩ := hh_39.pin (C := RX11) (T := TX11) (N := 19) hB13 rfl (by decide) hg_9 (i := 8) (by decide) rfl
            obtain ⟨waiting_43, rfl, hg_waiting_43⟩ := hv_41
            obtain ⟨v_44, hv_44, hh_45⟩ := hh_42.pin (C := RJx4a65c) (T := TJx4a65c) (N := 3) hB1 rfl (by decide) hg_waiting_43 (i := 2) (by decide) rfl
            obtain ⟨size_46, rfl, hlosize_46, hhisize_46⟩ := hv_44
            have hsz_33 := hh_45.2.2.2.2.2.1
            have htt_33 := hh_45.2.2.2.2.2.2.1
            refine W.room (fun hrc_33 hrs_33 => ?_)
            refine va_calli (A0 := jA base) (H0 := s.heap) (va_runV (As := []) (rest := []) ⟨hx, hb, hml, hown, hts⟩ (uX11_hasWorkT l dC dI ca base B hB hAp hB1 hB3 hB10 hB11 hB13 hB171 hB172 hB175 hB176 hB210 hB212 hB221 hB222 Gx_8 H_8 r0 open_37 size_40 waiting_43 size_46 s0_22 tq_22 kq_22 wl_22 ho_22 us_22 rw_22 qq_22 ib_22 S9 Z9x_8) (cwV 0 hts (jgV (jWr_76 _ (List.mem_of_getElem? (i := 15) rfl)) (jWr_76 _ (List.mem_of_getElem? (i := 16) rfl)) (jWr_76 _ (List.mem_of_getElem? (i := 17) rfl)) (jWr_1 _ (List.mem_of_getElem? (i := 2) rfl)) (jWr_76 _ (List.mem_of_getElem? (i := 18) rfl))) rfl rfl rfl (by decide +kernel) ⟨by rw [← hR]; exact Nat.le_of_ble_eq_true rfl, by rw [← hR]; exact Nat.le_of_ble_eq_true rfl⟩) ⟨fun a U g mk q => by obtain ⟨q0, q1, q2, qK, q10, q11, q12, q13, q14, q15, q16, q17⟩ := q; exact ⟨q0, q1, q2, jG.calling g mk a qK, (va_K.moved (Vm.Alike.refl U.vm) q10), (jK7.calling g mk a q11), q12, q13, q14, q15, q16, q17⟩, hh_45.recv (C := RX11) (T := TX11) (N := 19) hB13 rfl (by decide) hg_9 hK, fun U hU hW => ⟨rfl, hU, hh_45.2.1, hG.step hW hU hh_45.1, va_K.moved hW.alike hK2, (hK7.step hW hU hh_45.1), hg_9, hg_open_37, hg_waiting_43, (hh_45.2.2.1.sub (L1 := [(r0, 13, 7, .ref open_37), (open_37, 1, 2, .int size_40), (r0, 13, 8, .ref waiting_43), (waiting_43, 1, 2, .int size_46)]) [3, 2, 1, 0] rfl), (hh_45.2.2.2.2.2.2.2.2.sub (L1 := [(jFl, jLs dC dI ca Gx_8 3 none wl_22), (jFkd, jKD dC dI ca Gx_8 none kq_22), (jFqd, jQD dC dI ca Gx_8 none qq_22), (jFHh, jHh dC dI ca Gx_8 r0 ho_22)]) [2, 1, 5, 3] rfl), by first | assumption | exact hCz_22 | omega⟩⟩ rfl rfl hl.1 rfl (lv_room (Nat.le_of_ble_eq_true rfl)) dX11_work_21 ⟨by rw [hRc]; show _ + 0 ≤ _; omega, by rw [hRs]; show _ + 0 ≤ _; omega⟩) hh_45.1 (fun q _ h => h) (fun q h => h) (fun r_34 u_33 t_33 H_33 locs_33 ht_33 hvm_33 hr_34 hb_33 hz_33 hk_33 hS_33 => ?_)
            rw [ht_33] at hb_33
            obtain ⟨hb_33, hbE_33⟩ := hb_33
            obtain ⟨hb_331, hb_332, hb_333, hb_334, hb_335⟩ := hb_33
            have hh_33 : jSt (dC, dI) B base G0 Gx_8 EX11_workW s.heap zcx_8 zsx_8 [(waiting_43, 1, 2, .int size_46), (r0, 13, 8, .ref waiting_43), (open_37, 1, 2, .int size_40), (r0, 13, 7, .ref open_37), (r0, 13, 5, .ref kr_22), (kr_22, 7, 2, .ref s0_22), (bo, 2, 1, .int wc_8), (bo, 2, 0, .ref wr_8), (r0, 13, 4, .ref bo), (r0, 13, 3, .ref ou)] [] [(jFl, jLs dC dI ca Gx_8 3 none wl_22), (jFkd, jKD dC dI ca Gx_8 none kq_22), (jFqd, jQD dC dI ca Gx_8 none qq_22), (jFHh, jHh dC dI ca Gx_8 r0 ho_22), (jFcd, jCD dC dI ca Gx_8 none tq_22), (jFun, jUN dC dI ca Gx_8 0 us_22 rw_22), (jFib, jIB dC dI ca Gx_8 0 ib_22), (jFhs, jHst dC dI ca Gx_8 r0 s0_22), ([(2, 0), (2, 1)], jOl (dC, dI) G0 2 [bo, ou] s.heap), (jFy, jYb dC dI Gx_8), (jFs11, jSef dC dI Gx_8), (jFdo, jDcc dC dI ca Gx_8 none ph_8)] H_33 locs_33 := (((hh_45.call hb_331 hb_332 hb_333 hb_334 hS_33 rfl (L1 := [(waiting_43, 1, 2, .int size_46), (r0, 13, 8, .ref waiting_43), (open_37, 1, 2, .int size_40), (r0, 13, 7, .ref open_37), (r0, 13, 5, .ref kr_22), (kr_22, 7, 2, .ref s0_22), (bo, 2, 1, .int wc_8), (bo, 2, 0, .ref wr_8), (r0, 13, 4, .ref bo), (r0, 13, 3, .ref ou)]) [0, 1, 2, 3, 4, 5, 6, 7, 8, 9] rfl rfl (M1 := []) [] rfl rfl (I1 := [(jFcd, jCD dC dI ca Gx_8 none tq_22), (jFun, jUN dC dI ca Gx_8 0 us_22 rw_22), (jFib, jIB dC dI ca Gx_8 0 ib_22), (jFhs, jHst dC dI ca Gx_8 r0 s0_22), ([(2, 0), (2, 1)], jOl (dC, dI) G0 2 [bo, ou] s.heap), (jFy, jYb dC dI Gx_8), (jFs11, jSef dC dI Gx_8), (jFdo, jDcc dC dI ca Gx_8 none ph_8)]) [0, 4, 6, 7, 8, 9, 10, 11] rfl rfl).more hb_335)).addIs hbE_33
            clear hh_45 ht_33 hvm_33 hz_33 hk_33 hS_33 hb_331 hb_332 hb_333 hb_334 hb_335
            clear  hbE_33
            obtain ⟨hr_34b, hr_34p⟩ := hr_34
            have hhw9 := hr_34p
            have hr_34' := jb_01 hr_34b
            have hCf_47 : jCZ dC dI ca Gx_8 r0 S9 Z9x_8 H_33 := ⟨s0_22, tq_22, kq_22, wl_22, ho_22, us_22, rw_22, qq_22, ib_22, hh_33.iv 4 rfl, hh_33.iv 1 rfl, hh_33.iv 0 rfl, hh_33.iv 3 rfl, hh_33.iv 5 rfl, hh_33.iv 2 rfl, hh_33.iv 6 rfl, hh_33.iv 7 rfl, hCz_22⟩
            have hh_48 := hh_33.sub (L1 := [(waiting_43, 1, 2, .int size_46), (r0, 13, 8, .ref waiting_43), (open_37, 1, 2, .int size_40), (r0, 13, 7, .ref open_37), (r0, 13, 5, .ref kr_22), (kr_22, 7, 2, .ref s0_22), (bo, 2, 1, .int wc_8), (bo, 2, 0, .ref wr_8), (r0, 13, 4, .ref bo), (r0, 13, 3, .ref ou)]) [0, 1, 2, 3, 4, 5, 6, 7, 8, 9] rfl (M1 := []) [] rfl (I1 := [([(2, 0), (2, 1)], jOl (dC, dI) G0 2 [bo, ou] s.heap), (jFy, jYb dC dI Gx_8), (jFs11, jSef dC dI Gx_8), (jFdo, jDcc dC dI ca Gx_8 none ph_8)]) [8, 9, 10, 11] rfl
            clear hh_33
            have hh_49 := hh_48.addI (jCZ.ie hCf_47)
            clear hh_48
            refine lv_if_eq (tgt := 51) hx hb dX11_work_24 (by decide) (fun c_50 => ?_) (fun c_50 => ?_)
            · skip
              have c_50' : r_34.toInt = 0 := jb_eq (rfl) ((by decide)) c_50
              first | (have hr_34pq := hr_34p.resolve_left (by omega); clear hr_34p) | (have hr_34pq := hr_34p.resolve_right (by omega); clear hr_34p) | try clear hr_34p
              have hA_51 : Z9x_8 = ((jwWork S9 a1.toInt Z9).2) := (hi_8_10.e (by omega) (Or.inr (hhw9.resolve_left (fun q => by have q1 := q.1; omega)).2)).2.symm
              have hAe_51 : jCZ dC dI ca Gx_8 r0 S9 ((jwWork S9 a1.toInt Z9).2) H_33 := by rw [← hA_51]; exact hh_49.iv 0 rfl
              have hh_52 := hh_49.sub (L1 := [(waiting_43, 1, 2, .int size_46), (r0, 13, 8, .ref waiting_43), (open_37, 1, 2, .int size_40), (r0, 13, 7, .ref open_37), (r0, 13, 5, .ref kr_22), (kr_22, 7, 2, .ref s0_22), (bo, 2, 1, .int wc_8), (bo, 2, 0, .ref wr_8), (r0, 13, 4, .ref bo), (r0, 13, 3, .ref ou)]) [0, 1, 2, 3, 4, 5, 6, 7, 8, 9] rfl (M1 := []) [] rfl (I1 := [([(2, 0), (2, 1)], jOl (dC, dI) G0 2 [bo, ou] s.heap), (jFy, jYb dC dI Gx_8), (jFs11, jSef dC dI Gx_8), (jFdo, jDcc dC dI ca Gx_8 none ph_8)]) [1, 2, 3, 4] rfl
              clear hh_49
              have hh_53 := hh_52.addI (jCZ.ie hAe_51)
              clear hh_52
              refine lv_aload_n hx hb dX11_work_51 rfl (lv_at hl 0 rfl) ?_
              refine lv_dup hx hb dX11_work_52 rfl ?_
              obtain ⟨v_54, hv_54, hh_55⟩ := hh_53.pin (C := RX11) (T := TX11) (N := 19) hB13 rfl (by decide) hg_9 (i := 12) (by decide) rfl
              clear hh_53
              obtain ⟨steps_56, rfl⟩ := hv_54
              refine j7_read hx hb hown hK (C := RX11) (T := TX11) (N := 19) rfl hly_13_12 hlk_133 (hh_55.at 0 rfl) dX11_work_53 ?_
              refine lv_iload_n hx hb dX11_work_56 rfl (lv_at hl 2 rfl) ?_
              refine lv_iadd hx hb dX11_work_57 ?_
              refine lv_topi (fun z_57 ez_57 => ?_)
              refine j7_put hx hb hown hK hh_55 hB hAp hB13 (C := RX11) (T := TX11) (N := 19) rfl (by decide) hg_9 (i := 12) (by decide) hly_13_12 rfl hlk_133 rfl (ty := .int) (v := .int z_57) (by decide +kernel) rfl rfl (⟨_, rfl⟩) rfl (L1 := [(waiting_43, 1, 2, .int size_46), (r0, 13, 8, .ref waiting_43), (open_37, 1, 2, .int size_40), (r0, 13, 7, .ref open_37), (r0, 13, 5, .ref kr_22), (kr_22, 7, 2, .ref s0_22), (bo, 2, 1, .int wc_8), (bo, 2, 0, .ref wr_8), (r0, 13, 4, .ref bo), (r0, 13, 3, .ref ou)]) [1, 2, 3, 4, 5, 6, 7, 8, 9, 10] rfl rfl rfl dX11_work_58 (fun H_58 locs_58 hh_58 => ?_)
              clear hh_55
              refine lv_iload_n hx hb dX11_work_61 rfl (lv_at hl 2 rfl) ?_
              have hsz_59 := hh_58.2.2.2.2.2.1
              have htt_59 := hh_58.2.2.2.2.2.2.1
              refine W.room (fun hrc_59 hrs_59 => ?_)
              refine W.widen (k := LC - s.heap.size) (n := LS - jTot s.heap) (by omega) (by omega) ?_
              rw [hQ]
              exact W.iret (v := v2_8) hx hb hr (fun t ht hW => ⟨⟨v2_8, (wc_8, wr_8, m_wr_8, ph_8, Gx_8), rfl, by skip; (try dsimp only); refine ⟨(by first | (with_reducible assumption) | omega), (by first | (with_reducible assumption) | omega), (by first | (with_reducible assumption) | omega), (by first | (with_reducible assumption) | omega), (by first | (with_reducible assumption) | omega), (by first | (with_reducible assumption) | omega), ?_⟩; exact (hi_8_10.e (by omega) (Or.inr (hhw9.resolve_left (fun q => by have q1 := q.1; omega)).2)).1.symm, ⟨hh_58.ra (by first | (simp only; omega) | omega) (by first | (simp only; omega) | omega) (M1 := [(bo, 2, 1, .int wc_8), (bo, 2, 0, .ref wr_8)]) [7, 8] rfl ht, hg_wr_8, hN_8, by rw [ht]; exact hh_58.iv 1 rfl, by rw [ht]; exact hh_58.2.2.2.2.2.2.2.2.sub (L1 := [(jFy, jYb dC dI Gx_8), (jFs11, jSef dC dI Gx_8), (jFdo, jDcc dC dI ca Gx_8 none ph_8), (jFCZ, jCZ dC dI ca Gx_8 r0 S9 ((jwWork S9 a1.toInt Z9).2))]) [2, 3, 4, 0] rfl⟩⟩, by rw [ht]; try exact hh_58.1.1, fun q h9 hq => by rw [ht]; try exact hh_58.1.2.1 q h9 hq⟩) hh_58.1.2.2 dX11_work_62
            · skip
              have c_50' : r_34.toInt ≠ 0 := jb_eq_n (rfl) ((by decide)) c_50
              first | (have hr_34pq := hr_34p.resolve_left (by omega); clear hr_34p) | (have hr_34pq := hr_34p.resolve_right (by omega); clear hr_34p) | try clear hr_34p
              refine lv_iconst (v := 0) hx hb dX11_work_27 (by decide) ?_
              refine lv_istore_n (lv' := [(3, .int 0), (0, .ref r0), (1, .int a1), (2, .int v2_8)]) hx hb dX11_work_28 rfl hl (by decide) rfl (fun ls hl => ?_)
              have L29 : ∀ (N : Nat) (Gx_60 : jT) (zcx_60 : Nat) (zsx_60 : Nat) (v3_60 : Int32) (wc_60 : Int32) (wr_60 : Nat) (m_wr_60 : Nat) (Z9x_60 : jwSt) (ph_60 : Nat) (H_60 : Heap) (locs_60 : List Loc), jSt (dC, dI) B base G0 Gx_60 EX11_workW s.heap zcx_60 zsx_60 [(bo, 2, 1, .int wc_60), (bo, 2, 0, .ref wr_60), (r0, 13, 8, .ref waiting_43), (r0, 13, 7, .ref open_37), (r0, 13, 5, .ref kr_22), (kr_22, 7, 2, .ref s0_22), (r0, 13, 4, .ref bo), (r0, 13, 3, .ref ou)] [] [(jFCZ, jCZ dC dI ca Gx_60 r0 S9 Z9x_60), ([(2, 0), (2, 1)], jOl (dC, dI) G0 2 [bo, ou] s.heap), (jFy, jYb dC dI Gx_60), (jFs11, jSef dC dI Gx_60), (jFdo, jDcc dC dI ca Gx_60 none ph_60)] H_60 locs_60 → (jNk [0, 1, 2, 3, 4, 6, 7, 8, 9, 10, 12, 13, 14, 15, 16, 17]) G0 Gx_60 → jLe Gx_8 Gx_60 → Gx_60 wr_60 = some (196, m_wr_60) → (0 ≤ wc_60.toInt ∧ wc_60.toInt ≤ m_wr_60 ∧ n_pa ≤ m_wr_60 ∧ m_wr_60 ≤ 1048576 ∧ jPw m_wr_60 ∧ ph_60 ≤ ph ∧ zcx_60 ≤ (m_wr_60 - n_pa) / 16 + (ph - ph_60) / 16 ∧ zsx_60 ≤ 2 * (m_wr_60 - n_pa) + (ph - ph_60) ∧ 0 ≤ v3_60.toInt ∧ v3_60.toInt ≤ 2 ∧ jwWn S9 Z9 a1.toInt v2_8.toInt v3_60.toInt Z9x_60) → (2 - v3_60.toInt : Int) < N → ∀ ls : Array Slot, lv_has ls 4 [(0, .ref r0), (1, .int a1), (2, .int v2_8), (3, .int v3_60)] → W p l e R s m ([.ref r0, .int a1] : List Value).toArray below meth c H_60 locs_60 zcx_60 zsx_60 Q (F0 m 29 ls []) := by
                intro N
                induction N with
                | zero => intro Gx_60 zcx_60 zsx_60 v3_60 wc_60 wr_60 m_wr_60 Z9x_60 ph_60 H_60 locs_60 hh_60 hN_60 hle_60 hg_wr_60 hi_60 hm; exact absurd hm (by omega)
                | succ N L29 =>
                  intro Gx_60 zcx_60 zsx_60 v3_60 wc_60 wr_60 m_wr_60 Z9x_60 ph_60 H_60 locs_60 hh_60 hN_60 hle_60 hg_wr_60 hi_60 hm_60 ls hl
                  have hg_61 := hle_60 _ _ hg_9
                  have hg_62 := hle_60 _ _ hg_waiting_43
                  have hg_63 := hle_60 _ _ hg_open_37
                  have hg_64 := hle_60 _ _ hgkr_22
                  have hg_65 := hle_60 _ _ hgs0_22
                  have hg_66 := hle_60 _ _ hg_10
                  have hg_67 := hle_60 _ _ hg_11
                  obtain ⟨hi_60_0, hi_60_1, hi_60_2, hi_60_3, hi_60_4, hi_60_5, hi_60_6, hi_60_7, hi_60_8, hi_60_9, hi_60_10⟩ := hi_60
                  refine lv_iload_n hx hb dX11_work_29 rfl (lv_at hl 3 rfl) ?_
                  refine lv_iconst (v := 2) hx hb dX11_work_30 (by decide) ?_
                  refine lv_icmp_ge (tgt := 45) hx hb dX11_work_31 (by decide) (fun c_68 => ?_) (fun c_68 => ?_)
                  · skip
                    have c_68' : v3_60.toInt ≥ 2 := jb_ge (rfl) ((by decide)) c_68
                    obtain ⟨z_69, ez_69⟩ : ∃ y : Int32, y = v2_8 + 1 := ⟨_, rfl⟩
                    refine lv_iinc (v := z_69) (lv' := [(2, .int z_69), (0, .ref r0), (1, .int a1), (3, .int v3_60)]) hx hb dX11_work_45 hl (k := 2) rfl (by rw [ez_69]; rfl) (by decide) rfl (fun ls hl => ?_)
                    have hz_69 : z_69.toInt = v2_8.toInt + 1 := by rw [ez_69]; exact jb_iadd2 (rfl) (by decide) (by omega)
                    refine lv_goto (tgt := 15) hx hb dX11_work_48 (by decide) ?_
                    refine W.tight (c2 := zcx_60) (n2 := zsx_60) hh_60.2.2.2.2.2.1 hh_60.2.2.2.2.2.2.1 ?_
                    exact L15 Gx_60 zcx_60 zsx_60 z_69 wc_60 wr_60 m_wr_60 Z9x_60 ph_60 _ _ (hh_60.sub (L1 := [(bo, 2, 1, .int wc_60), (bo, 2, 0, .ref wr_60), (r0, 13, 4, .ref bo), (r0, 13, 3, .ref ou)]) [0, 1, 6, 7] rfl (M1 := []) [] rfl (I1 := [([(2, 0), (2, 1)], jOl (dC, dI) G0 2 [bo, ou] s.heap), (jFy, jYb dC dI Gx_60), (jFs11, jSef dC dI Gx_60), (jFdo, jDcc dC dI ca Gx_60 none ph_60), (jFCZ, jCZ dC dI ca Gx_60 r0 S9 Z9x_60)]) [1, 2, 3, 4, 0] rfl) (hN_60) ((hle_8).tr hle_60) hg_wr_60 (⟨(by first | (with_reducible assumption) | omega), (by first | (with_reducible assumption) | omega), (by first | (with_reducible assumption) | omega), (by first | (with_reducible assumption) | omega), (by first | (with_reducible assumption) | omega), (by first | (with_reducible assumption) | omega), (by first | (with_reducible assumption) | omega), (by first | (with_reducible assumption) | omega), (by first | (with_reducible assumption) | omega), (by first | (with_reducible assumption) | omega), hi_60_10.o (by omega) (by omega) (by omega) (by omega)⟩) (by omega) _ (lv_sub hl [1, 2, 0] rfl)
                  · skip
                    have c_68' : v3_60.toInt < 2 := jb_ge_n (rfl) ((by decide)) c_68
                    refine lv_aload_n hx hb dX11_work_34 rfl (lv_at hl 0 rfl) ?_
                    refine lv_iload_n hx hb dX11_work_35 rfl (lv_at hl 3 rfl) ?_
                    have hsz_70 := hh_60.2.2.2.2.2.1
                    have htt_70 := hh_60.2.2.2.2.2.2.1
                    refine W.room (fun hrc_70 hrs_70 => ?_)
                    refine va_callv (A0 := jA base) (H0 := s.heap) (va_runV (As := [.int v3_60]) (rest := []) ⟨hx, hb, hml, hown, hts⟩ (uX11_advanceW l dC dI ca base B hB hAp hB1 hB2 hB3 hB4 hB5 hB7 hB8 hB9 hB10 hB11 hB12 hB13 hB17 hB101 hB102 hB132 hB133 hB171 hB172 hB173 hB174 hB175 hB176 hB177 hB196 hB199 hB210 hB211 hB212 hB214 hB221 hB222 hB223 hB280 hB286 hB287 hB288 hB290 hB291 hB292 hB293 hB313 hB315 Gx_60 H_60 r0 v3_60 bo wc_60 wr_60 m_wr_60 ou (ph_60) S9 Z9x_60 LC LS) (cwV 1 hts (jgV (jWr_77 _ (List.mem_of_getElem? (i := 3) rfl)) (jWr_77 _ (List.mem_of_getElem? (i := 4) rfl)) (jWr_77 _ (List.mem_of_getElem? (i := 5) rfl)) (jWr_1 _ (List.mem_of_getElem? (i := 2) rfl)) (jWr_77 _ (List.mem_of_getElem? (i := 6) rfl))) rfl rfl rfl (by decide +kernel) ⟨by rw [← hR]; exact Nat.le_of_ble_eq_true rfl, by rw [← hR]; exact Nat.le_of_ble_eq_true rfl⟩) ⟨fun a U g mk q => by obtain ⟨q0, q1, q2, qK, q10, q11, q12, q13, q14, q15, q16, q17, q18, q19, q20, q21⟩ := q; exact ⟨q0, q1, q2, jG.calling g mk a qK, (va_K.moved (Vm.Alike.refl U.vm) q10), (jK5.moved (Vm.Alike.refl U.vm) q11), (jK6.moved (Vm.Alike.refl U.vm) q12), (jK7.calling g mk a q13), (jK8.calling g mk a q14), q15, q16, q17, q18, q19, q20, q21⟩, hh_60.recv (C := RX11) (T := TX11) (N := 19) hB13 rfl (by decide) hg_61 hK, fun U hU hW => ⟨rfl, hU, hh_60.2.1, hG.step hW hU hh_60.1, va_K.moved hW.alike hK2, jK5.moved hW.alike hK5, jK6.moved hW.alike hK6, (hK7.step hW hU hh_60.1), (jK8.warm hW hK8), hg_61, hg_66, hg_wr_60, hg_67, (hh_60.2.2.1.sub (L1 := [(r0, 13, 4, .ref bo), (bo, 2, 1, .int wc_60), (bo, 2, 0, .ref wr_60), (r0, 13, 3, .ref ou)]) [6, 0, 1, 7] rfl), (hh_60.2.2.2.2.2.2.2.2.sub (L1 := [(jFy, jYb dC dI Gx_60), (jFs11, jSef dC dI Gx_60), (jFdo, jDcc dC dI ca Gx_60 none ph_60), (jFCZ, jCZ dC dI ca Gx_60 r0 S9 Z9x_60)]) [2, 3, 4, 0] rfl), (by omega), (by omega), ⟨(by first | (with_reducible assumption) | omega | rfl | exact hi_60_10.ok (by omega) (by omega)), (by first | (with_reducible assumption) | omega | rfl | exact hi_60_10.ok (by omega) (by omega)), (by first | (with_reducible assumption) | omega | rfl | exact hi_60_10.ok (by omega) (by omega)), (by first | (with_reducible assumption) | omega | rfl | exact hi_60_10.ok (by omega) (by omega)), (by first | assumption | exact hi_60_10.ok (by omega) (by omega) | omega), (by first | (with_reducible assumption) | omega | rfl | exact hi_60_10.ok (by omega) (by omega)), (by first | (with_reducible assumption) | omega | rfl | exact hi_60_10.ok (by omega) (by omega)), (by first | assumption | exact hi_60_10.ok (by omega) (by omega) | omega)⟩⟩⟩ rfl rfl hl.1 rfl (lv_room (Nat.le_of_ble_eq_true rfl)) dX11_work_36 ⟨by rw [hRc]; omega, by rw [hRs]; omega⟩) hh_60.1 (fun q _ h => h) (fun q h => h) (fun u_70 t_70 H_70 locs_70 ht_70 hvm_70 hr_71 hb_70 hz_70 hk_70 hS_70 => ?_)
                    obtain ⟨qc_70, qa_70, m_qa_70, qph_70, G_70⟩ := u_70
                    rw [ht_70] at hb_70
                    simp only at hb_70
                    obtain ⟨⟨hb_701, hb_702, hb_703, hb_704, hb_705, hb_706⟩, hgq_70_0, hN_70, hbO_70, hbE_70⟩ := hb_70
                    have hW_70 := hN_70
                    have hh_70 : jSt (dC, dI) B base G0 G_70 EX11_workW s.heap (zcx_60 + ((m_qa_70 - m_wr_60) / 16 + ((ph_60) - qph_70) / 16)) (zsx_60 + (2 * (m_qa_70 - m_wr_60) + ((ph_60) - qph_70))) [(bo, 2, 1, .int qc_70), (bo, 2, 0, .ref qa_70), (r0, 13, 8, .ref waiting_43), (r0, 13, 7, .ref open_37), (r0, 13, 5, .ref kr_22), (kr_22, 7, 2, .ref s0_22), (r0, 13, 4, .ref bo), (r0, 13, 3, .ref ou)] [] [] H_70 locs_70 := (hh_60.callG hb_701 hb_702 hb_703 hb_704 hb_705 hS_70 rfl (L1 := [(r0, 13, 8, .ref waiting_43), (r0, 13, 7, .ref open_37), (r0, 13, 5, .ref kr_22), (kr_22, 7, 2, .ref s0_22), (r0, 13, 4, .ref bo), (r0, 13, 3, .ref ou)]) [2, 3, 4, 5, 6, 7] rfl rfl (M1 := []) [] rfl rfl (I1 := []) [] rfl rfl).more hb_706
                    have hNn_70 : (jNk [0, 1, 2, 3, 4, 6, 7, 8, 9, 10, 12, 13, 14, 15, 16, 17]) G0 G_70 := (hN_60).tr hN_70
                    have hg_72 := hb_702 _ _ hg_61
                    have hg_73 := hb_702 _ _ hg_62
                    have hg_74 := hb_702 _ _ hg_63
                    have hg_75 := hb_702 _ _ hg_64
                    have hg_76 := hb_702 _ _ hg_65
                    have hg_77 := hb_702 _ _ hg_66
                    have hg_78 := hb_702 _ _ hg_67
                    have hh_79 := hh_70.addIs hbE_70
                    have hd_80 := jOl.trL (hh_60.iv 1 rfl) hh_60.2.2.2.2.1 hbO_70 (by simp)
                    have hh_81 := hh_79.addI (jOl.ie (dC := dC) (dI := dI) (G0 := G0) (k := 2) (rs := [bo, ou]) (H0 := s.heap) (F := [(2, 0), (2, 1)]) (C := RX0) (T := TX0) (N := 2) rfl (by decide) hh_79.2.2.2.2.1 (hd_80))
                    clear hh_79
                    try simp only at hr_71
                    obtain ⟨hr_71_0, hr_71_1, hr_71_2, hr_71_3, hr_71_4, hr_71_5⟩ := hr_71
                    obtain ⟨z_82, ez_82⟩ : ∃ y : Int32, y = v3_60 + 1 := ⟨_, rfl⟩
                    refine lv_iinc (v := z_82) (lv' := [(3, .int z_82), (0, .ref r0), (1, .int a1), (2, .int v2_8)]) hx hb dX11_work_39 hl (k := 3) rfl (by rw [ez_82]; rfl) (by decide) rfl (fun ls hl => ?_)
                    have hz_82 : z_82.toInt = v3_60.toInt + 1 := by rw [ez_82]; exact jb_iadd2 (rfl) (by decide) (by omega)
                    refine lv_goto (tgt := 29) hx hb dX11_work_42 (by decide) ?_
                    refine W.tight (c2 := (zcx_60 + ((m_qa_70 - m_wr_60) / 16 + ((ph_60) - qph_70) / 16))) (n2 := (zsx_60 + (2 * (m_qa_70 - m_wr_60) + ((ph_60) - qph_70)))) hh_81.2.2.2.2.2.1 hh_81.2.2.2.2.2.2.1 ?_
                    exact L29 G_70 (zcx_60 + ((m_qa_70 - m_wr_60) / 16 + ((ph_60) - qph_70) / 16)) (zsx_60 + (2 * (m_qa_70 - m_wr_60) + ((ph_60) - qph_70))) z_82 qc_70 qa_70 m_qa_70 (jwAd S9 Z9x_60 v3_60.toInt) qph_70 _ _ (hh_81.sub (L1 := [(bo, 2, 1, .int qc_70), (bo, 2, 0, .ref qa_70), (r0, 13, 8, .ref waiting_43), (r0, 13, 7, .ref open_37), (r0, 13, 5, .ref kr_22), (kr_22, 7, 2, .ref s0_22), (r0, 13, 4, .ref bo), (r0, 13, 3, .ref ou)]) [0, 1, 2, 3, 4, 5, 6, 7] rfl (M1 := []) [] rfl (I1 := [(jFCZ, jCZ dC dI ca G_70 r0 S9 (jwAd S9 Z9x_60 v3_60.toInt)), ([(2, 0), (2, 1)], jOl (dC, dI) G0 2 [bo, ou] s.heap), (jFy, jYb dC dI G_70), (jFs11, jSef dC dI G_70), (jFdo, jDcc dC dI ca G_70 none qph_70)]) [4, 0, 1, 2, 3] rfl) (hNn_70) ((hle_60).tr hb_702) hgq_70_0 (⟨(by first | (with_reducible assumption) | omega), (by first | (with_reducible assumption) | omega), (by first | (with_reducible assumption) | omega), (by first | (with_reducible assumption) | omega), (by first | (with_reducible assumption) | omega), (by first | (with_reducible assumption) | omega), (by first | (with_reducible assumption) | omega), (by first | (with_reducible assumption) | omega), (by first | (with_reducible assumption) | omega), (by first | (with_reducible assumption) | omega), hi_60_10.s (by omega) (by omega)⟩) (by omega) _ (lv_sub hl [1, 2, 3, 0] rfl)
              refine W.tight (c2 := zcx_8) (n2 := zsx_8) hh_49.2.2.2.2.2.1 hh_49.2.2.2.2.2.2.1 ?_
              exact L29 (2 - (0 : Int32).toInt : Int).toNat.succ Gx_8 zcx_8 zsx_8 0 wc_8 wr_8 m_wr_8 Z9x_8 ph_8 _ _ (hh_49.sub (L1 := [(bo, 2, 1, .int wc_8), (bo, 2, 0, .ref wr_8), (r0, 13, 8, .ref waiting_43), (r0, 13, 7, .ref open_37), (r0, 13, 5, .ref kr_22), (kr_22, 7, 2, .ref s0_22), (r0, 13, 4, .ref bo), (r0, 13, 3, .ref ou)]) [6, 7, 1, 3, 4, 5, 8, 9] rfl (M1 := []) [] rfl (I1 := [(jFCZ, jCZ dC dI ca Gx_8 r0 S9 Z9x_8), ([(2, 0), (2, 1)], jOl (dC, dI) G0 2 [bo, ou] s.heap), (jFy, jYb dC dI Gx_8), (jFs11, jSef dC dI Gx_8), (jFdo, jDcc dC dI ca Gx_8 none ph_8)]) [0, 1, 2, 3, 4] rfl) (hN_8) (jLe.rf) hg_wr_8 (⟨(by first | (with_reducible assumption) | omega), (by first | (with_reducible assumption) | omega), (by first | (with_reducible assumption) | omega), (by first | (with_reducible assumption) | omega), (by first | (with_reducible assumption) | omega), (by first | (with_reducible assumption) | omega), (by first | (with_reducible assumption) | omega), (by first | (with_reducible assumption) | omega), (by first | (with_reducible assumption) | omega), (by first | (with_reducible assumption) | omega), hi_8_10.inn (hhw9.resolve_right (fun q => by have q1 := q.1; omega)).2 (by omega)⟩) (by omega) _ (lv_sub hl [1, 2, 3, 0] rfl)
      refine W.tight (c2 := 0) (n2 := 0) hh_1.2.2.2.2.2.1 hh_1.2.2.2.2.2.2.1 ?_
      exact L15 (a1.toInt - (0 : Int32).toInt : Int).toNat.succ G0 0 0 0 pc pa n_pa Z9 ph _ _ (hh_1.sub (L1 := [(bo, 2, 1, .int pc), (bo, 2, 0, .ref pa), (r0, 13, 4, .ref bo), (r0, 13, 3, .ref ou)]) [1, 2, 0, 3] rfl (M1 := []) [] rfl (I1 := [([(2, 0), (2, 1)], jOl (dC, dI) G0 2 [bo, ou] s.heap), (jFy, jYb dC dI G0), (jFs11, jSef dC dI G0), (jFdo, jDcc dC dI ca G0 none ph), (jFCZ, jCZ dC dI ca G0 r0 S9 Z9)]) [0, 1, 2, 3, 4] rfl) (jNk.rf) (jLe.rf) hg_pa (⟨(by first | (with_reducible assumption) | omega), (by first | (with_reducible assumption) | omega), (by first | (with_reducible assumption) | omega), (by first | (with_reducible assumption) | omega), (by first | (with_reducible assumption) | omega), (by first | (with_reducible assumption) | omega), (by first | (with_reducible assumption) | omega), (by first | (with_reducible assumption) | omega), (by first | (with_reducible assumption) | omega), (by first | (with_reducible assumption) | omega), jwWo.st hp5 (by omega)⟩) (by omega) _ (lv_sub hl [1, 2, 0] rfl)
    · skip
      have c_7' : a1.toInt > 10000 := jb_le_n (rfl) ((by decide)) c_7
      refine lv_iconst (v := (-1)) hx hb dX11_work_11 (by decide) ?_
      have hA_83 : Z9 = ((jwWork S9 a1.toInt Z9).2) := by unfold jwWork; rw [if_neg (by omega)]
      have hAe_83 : jCZ dC dI ca G0 r0 S9 ((jwWork S9 a1.toInt Z9).2) s.heap := by rw [← hA_83]; exact hh_1.iv 4 rfl
      have hh_84 := hh_1.sub (L1 := [(r0, 13, 4, .ref bo), (bo, 2, 1, .int pc), (bo, 2, 0, .ref pa), (r0, 13, 3, .ref ou)]) [0, 1, 2, 3] rfl (M1 := []) [] rfl (I1 := [([(2, 0), (2, 1)], jOl (dC, dI) G0 2 [bo, ou] s.heap), (jFy, jYb dC dI G0), (jFs11, jSef dC dI G0), (jFdo, jDcc dC dI ca G0 none ph)]) [0, 1, 2, 3] rfl
      clear hh_1
      have hh_85 := hh_84.addI (jCZ.ie hAe_83)
      clear hh_84
      have hsz_86 := hh_85.2.2.2.2.2.1
      have htt_86 := hh_85.2.2.2.2.2.2.1
      refine W.room (fun hrc_86 hrs_86 => ?_)
      refine W.widen (k := LC - s.heap.size) (n := LS - jTot s.heap) (by omega) (by omega) ?_
      rw [hQ]
      exact W.iret (v := (-1)) hx hb hr (fun t ht hW => ⟨⟨(-1), (pc, pa, n_pa, ph, G0), rfl, by skip; (try dsimp only); refine ⟨(by first | (with_reducible assumption) | omega), (by first | (with_reducible assumption) | omega), (by first | (with_reducible assumption) | omega), (by first | (with_reducible assumption) | omega), (by first | (with_reducible assumption) | omega), (by first | (with_reducible assumption) | omega), ?_⟩; unfold jwWork; rw [if_neg (by omega)]; exact hkm1, ⟨hh_85.ra (by first | (simp only; omega) | omega) (by first | (simp only; omega) | omega) (M1 := [(bo, 2, 1, .int pc), (bo, 2, 0, .ref pa)]) [1, 2] rfl ht, hg_pa, jNk.rf, by rw [ht]; exact hh_85.iv 1 rfl, by rw [ht]; exact hh_85.2.2.2.2.2.2.2.2.sub (L1 := [(jFy, jYb dC dI G0), (jFs11, jSef dC dI G0), (jFdo, jDcc dC dI ca G0 none ph), (jFCZ, jCZ dC dI ca G0 r0 S9 ((jwWork S9 a1.toInt Z9).2))]) [2, 3, 4, 0] rfl⟩⟩, by rw [ht]; try exact hh_85.1.1, fun q h9 hq => by rw [ht]; try exact hh_85.1.2.1 q h9 hq⟩) hh_85.1.2.2 dX11_work_12
end
