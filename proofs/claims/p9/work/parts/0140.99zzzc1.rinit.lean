section
def EX8_initU : List (Nat × Nat) := [(2, 0), (2, 1), (101, 0), (196, 0)]
def EX11_understoodU : List (Nat × Nat) := [(2, 0), (2, 1), (6, 7), (6, 8), (6, 9), (6, 10), (6, 11), (13, 14), (101, 0), (140, 0), (141, 0), (142, 0), (143, 0), (144, 0), (145, 0), (146, 0), (196, 0)]
set_option maxHeartbeats 4000000 in
set_option maxRecDepth 20000 in
theorem uX8_initU (l : Launch) (dC : Nat → ClassId) (dI : Nat → Nat → Nat) (ca : Nat → ClassId) (base : Nat) (B : jF) (hB : jBok B) (hAp : jAp (dC, dI)) (hB2 : ∀ n G a H, B 2 n G a H ↔ jOb (dC, dI) 2 2 (F2 n G) a H) (hB6 : ∀ n G a H, B 6 n G a H ↔ jOb (dC, dI) 6 12 (F6 n G) a H) (hB10 : ∀ n G a H, B 10 n G a H ↔ jOb (dC, dI) 10 5 (F10 n G) a H) (hB101 : ∀ n G a H, B 101 n G a H ↔ jAr (dC, dI) (ca 1) (fun j z => True) n a H) (hB140 : ∀ n G a H, B 140 n G a H ↔ jAr (dC, dI) (ca 1) (fun j z => True) n a H) (hB141 : ∀ n G a H, B 141 n G a H ↔ jAr (dC, dI) (ca 1) (fun j z => True) n a H) (hB142 : ∀ n G a H, B 142 n G a H ↔ jAr (dC, dI) (ca 1) (fun j z => True) n a H) (hB146 : ∀ n G a H, B 146 n G a H ↔ jAr (dC, dI) (ca 1) (fun j z => True) n a H) (hB196 : ∀ n G a H, B 196 n G a H ↔ jAr (dC, dI) (ca 0) (fun j z => jBf j z) n a H) (G0 : jT) (H0 : Heap) (r0 : Nat) (r1 : Nat) (a2 : Int32) (pv : Int32) (pu : Int32) (wk : Nat) (wi : Nat) (wz : Nat) (jnx : Nat) (jkf : Nat) (jks : Nat) (jun : Nat) (T9 : Nat → Int → Int) (fk : Nat → Int32) (fi : Nat → Int32) (fz : Nat → Int32) (fn : Nat → Int32) (fa : Nat → Int32) (fs : Nat → Int32) (fu : Nat → Int32) (LC LS : Nat) : Met l yX8_init (jw yX8_init cX8_init 6 none) ({ frames := 6, cells := LC - H0.size, slots := LS - jTot H0, locals := 189 }) (va_Pc [.ref r0, .ref r1, .int a2] (fun U => U.heap = H0 ∧ jX B base G0 [] H0 ∧ jG dC dI ca base U ∧ G0 r1 = some (6, 0) ∧ va_at (dC, dI) vwCl (r0, .inr (10, [.null, .null, .int 0, .int 0, .int 0])) H0 ∧ (∀ t, G0 r0 ≠ some t) ∧ base ≤ r0 ∧ G0 wk = some (140, 1502) ∧ G0 wi = some (141, 1502) ∧ G0 wz = some (142, 1502) ∧ G0 jnx = some (143, 1502) ∧ G0 jkf = some (144, 1502) ∧ G0 jks = some (145, 1502) ∧ G0 jun = some (146, 3000) ∧ jP (dC, dI) G0 H0 [(r1, 6, 7, .int pv), (r1, 6, 8, .int pu), (r1, 6, 0, .ref wk), (r1, 6, 1, .ref wi), (r1, 6, 2, .ref wz), (r1, 6, 3, .ref jnx), (r1, 6, 4, .ref jkf), (r1, 6, 5, .ref jks), (r1, 6, 6, .ref jun)] ∧ jMc (dC, dI) G0 H0 [(wk, 140, 1502, ca 1, fk), (wi, 141, 1502, ca 1, fi), (wz, 142, 1502, ca 1, fz), (jnx, 143, 1502, ca 1, fn), (jkf, 144, 1502, ca 1, fa), (jks, 145, 1502, ca 1, fs), (jun, 146, 3000, ca 1, fu)] ∧ jIs (dC, dI) G0 H0 [(jFy, jYb dC dI G0)] ∧ H0.size + 12 ≤ LC ∧ jTot H0 + 3300 ≤ LS ∧ 0 ≤ pv.toInt ∧ pv.toInt ≤ 1502 ∧ jJq fk fi fz pv.toInt ∧ 0 ≤ pu.toInt ∧ pu.toInt ≤ 3000 ∧ jjTC T9 pv.toInt pu.toInt fk fi fz fn fa fs fu ∧ jqR fk fi fz fa fs pv.toInt pu.toInt)) (va_Qv (S := jT) (fun u => True) (fun u t => jRa (dC, dI) B base G0 u EX8_initU H0 (10) (262) [] t.heap ∧ (jNk [0, 1, 3, 4, 5, 6, 7, 8, 9, 11, 12, 13, 14, 15, 16]) G0 u ∧ jOl (dC, dI) G0 2 [] H0 t.heap ∧ u r0 = some (10, 0) ∧ jIs (dC, dI) u t.heap [(jFy, jYb dC dI u)] ∧ jRi dC dI u r0 (jqK T9 pv.toInt a2.toInt = 4 ∨ (jqK T9 pv.toInt a2.toInt = 3 ∧ jqZ T9 pv.toInt a2.toInt ≤ 20)) t.heap) (jA base)) (LC - H0.size) (LS - jTot H0) (jA base) := by
  refine Met.ofW (cc := cX8_init) (maxL := 6) (ret := none) (by decide) rfl ?_
  intro p e s m args below meth c s₁ Bd hml hv
  obtain ⟨rfl, hH0, hX, hG, hg_r1, hraw0, hnr0, hbr0, hg_wk, hg_wi, hg_wz, hg_jnx, hg_jkf, hg_jks, hg_jun, hP0, hM0, hI0, hLC0, hLS0, hp0, hp1, hp2, hp3, hp4, hp5, hp6⟩ := hv
  have hK := hG.1
  have hx := Bd.exec
  have hb := Bd.bytes
  have hr := Bd.returns
  have hts := atoms_spec (ws := (jw yX8_init cX8_init 6 none)) Bd.pre
  have htw : ∀ w ∈ jWl, w.before _ s = true := fun w h => hts w (List.mem_cons_of_mem _ h)
  have hown : s.vm.findClass RX8 = some m.cls := findClass_of_methodNamed Bd.named
  have hlocks := Bd.notSynchronized
  obtain ⟨Q, hQ⟩ : ∃ Q, Q = MQ below (va_Qv (S := jT) (fun u => True) (fun u t => jRa (dC, dI) B base G0 u EX8_initU H0 (10) (262) [] t.heap ∧ (jNk [0, 1, 3, 4, 5, 6, 7, 8, 9, 11, 12, 13, 14, 15, 16]) G0 u ∧ jOl (dC, dI) G0 2 [] H0 t.heap ∧ u r0 = some (10, 0) ∧ jIs (dC, dI) u t.heap [(jFy, jYb dC dI u)] ∧ jRi dC dI u r0 (jqK T9 pv.toInt a2.toInt = 4 ∨ (jqK T9 pv.toInt a2.toInt = 3 ∧ jqZ T9 pv.toInt a2.toInt ≤ 20)) t.heap) (jA base)) ([.ref r0, .ref r1, .int a2] : List Value).toArray s (LC - H0.size) (LS - jTot H0) (jA base) := ⟨_, rfl⟩
  rw [← hQ]
  have hl := lv_entry ([.ref r0, .ref r1, .int a2]) (n := 6) (Nat.le_of_ble_eq_true rfl)
  rw [lg_entry_eq]
  generalize (lg_sl ([.ref r0, .ref r1, .int a2]) ++ List.replicate (6 - (lg_sl ([.ref r0, .ref r1, .int a2])).length) Slot.unset).toArray = ls at hl ⊢
  have hl : lv_has ls 6 [(0, .ref r0), (1, .ref r1), (2, .int a2)] := hl
  generalize hR : (headSpec (jw yX8_init cX8_init 6 none) ({ frames := 6, cells := LC - H0.size, slots := LS - jTot H0, locals := 189 })).room = R
  subst hH0
  have hh : jSt (dC, dI) B base G0 G0 EX8_initU s.heap 0 0 [(r1, 6, 7, .int pv), (r1, 6, 8, .int pu), (r1, 6, 0, .ref wk), (r1, 6, 1, .ref wi), (r1, 6, 2, .ref wz), (r1, 6, 3, .ref jnx), (r1, 6, 4, .ref jkf), (r1, 6, 5, .ref jks), (r1, 6, 6, .ref jun)] [(wk, 140, 1502, ca 1, fk), (wi, 141, 1502, ca 1, fi), (wz, 142, 1502, ca 1, fz), (jnx, 143, 1502, ca 1, fn), (jkf, 144, 1502, ca 1, fa), (jks, 145, 1502, ca 1, fs), (jun, 146, 3000, ca 1, fu)] [(jFy, jYb dC dI G0)] s.heap [] := jSt.start hX hP0 hM0 hI0
  clear hX hP0
  have hkm1 : ((-1) : Int32).toInt = (-1) := by decide
  have hk0 : (0 : Int32).toInt = 0 := by decide
  have hk1 : (1 : Int32).toInt = 1 := by decide
  have hk3 : (3 : Int32).toInt = 3 := by decide
  have hk4 : (4 : Int32).toInt = 4 := by decide
  have hk16 : (16 : Int32).toInt = 16 := by decide
  have hk20 : (20 : Int32).toInt = 20 := by decide
  have hly_10_0 := htw (u_lay RX8 TX8 0) (jWc_wsX80 _ (u_in_lay (by decide)))
  have hly_10_4 := htw (u_lay RX8 TX8 4) (jWc_wsX80 _ (u_in_lay (by decide)))
  have hlk_9 := (htw (.fieldLink RX8 9 "ProofServer$Request" "name" "I") (jWr_24 _ (List.mem_of_getElem? (i := 2) rfl)))
  have hlk_29 := (htw (.fieldLink RX8 29 "ProofServer$Request" "id" "LProofServer$Bytes;") (jWr_24 _ (List.mem_of_getElem? (i := 4) rfl)))
  have hrg_a2 := jb_rng a2
  have hbs : base ≤ s.heap.size := Nat.le_of_lt (Nat.lt_of_le_of_lt hbr0 hraw0.lt)
  have hRc : R.cells = LC - s.heap.size := by rw [← hR]; rfl
  have hRs : R.slots = LS - jTot s.heap := by rw [← hR]; rfl
  have hnew0 : ∀ a, s.heap.size ≤ a → ∀ t, G0 a ≠ some t := fun a ha t ht => absurd (hh.ab ht).2 (Nat.not_lt.mpr ha)
  have hh_1 := hh.addI (jOl.ie (dC := dC) (dI := dI) (G0 := G0) (k := 2) (rs := []) (H0 := s.heap) (F := [(2, 0), (2, 1)]) (C := RX0) (T := TX0) (N := 2) rfl (by decide) hh.2.2.2.2.1 (jOl.rf))
  clear hh
  have hin2 : meth.name = "<init>" := (name_of_methodNamed Bd.named Bd.method).1
  refine lv_aload_n hx hb dX8_init_0 rfl (lv_at hl 0 rfl) ?_
  refine W.objInit hx hb hown (htw (.methodLink RX8 3 objectInit) (jWr_24 _ (List.mem_of_getElem? (i := 1) rfl))) (htw (.instanceMethod objectInit) (jWr_1 _ (List.mem_of_getElem? (i := 10) rfl))) (htw (.code objectInit ⟨#[0xb1]⟩ 1 none) (jWr_1 _ (List.mem_of_getElem? (i := 11) rfl))) rfl (by rw [hml]; exact hl.1) rfl dX8_init_1 (by rw [← hR]; exact Nat.le_of_ble_eq_true rfl) (by rw [← hR]; exact Nat.le_of_ble_eq_true rfl) ?_
  refine W.eq (g2 := F0 m 4 ls []) rfl ?_
  refine lv_aload_n hx hb dX8_init_4 rfl (lv_at hl 0 rfl) ?_
  refine lv_iconst (v := (-1)) hx hb dX8_init_5 (by decide) ?_
  refine j7_putR hx hb hown hK hh_1 hB hAp hraw0 hnr0 hbr0 (C := RX8) (T := TX8) (N := 5) rfl (i := 4) (by decide) (Nat.le_of_ble_eq_true rfl) hly_10_4 rfl hlk_9 (ty := .int) (v := .int (-1)) (by decide +kernel) rfl rfl dX8_init_6 (fun H_2 locs_2 hraw_2 hr_2 hh_2 => ?_)
  have hraw_2 : va_at (dC, dI) vwCl (r0, .inr (10, [.null, .null, .int 0, .int 0, .int (-1)])) H_2 := hraw_2
  clear hh_1
  refine lv_aload_n hx hb dX8_init_9 rfl (lv_at hl 1 rfl) ?_
  refine lv_iload_n hx hb dX8_init_10 rfl (lv_at hl 2 rfl) ?_
  have hsz_3 := hh_2.2.2.2.2.2.1
  have htt_3 := hh_2.2.2.2.2.2.2.1
  refine W.room (fun hrc_3 hrs_3 => ?_)
  refine va_calli (A0 := jA base) (H0 := s.heap) (va_runV (As := [.int a2]) (rest := []) ⟨hx, hb, hml, hown, hts⟩ (uX4_kindOfJ l dC dI ca base B hB hAp hB6 hB140 G0 H_2 r1 a2 pv pu wk wi wz jnx jkf jks jun T9 fk fi fz fn fa fs fu) (cwV 1 hts (jgV (jWr_24 _ (List.mem_of_getElem? (i := 5) rfl)) (jWr_23 _ (List.mem_of_getElem? (i := 15) rfl)) (jWr_23 _ (List.mem_of_getElem? (i := 16) rfl)) (jWr_1 _ (List.mem_of_getElem? (i := 22) rfl)) (jWr_23 _ (List.mem_of_getElem? (i := 17) rfl))) rfl rfl rfl (by decide +kernel) ⟨by rw [← hR]; exact Nat.le_of_ble_eq_true rfl, by rw [← hR]; exact Nat.le_of_ble_eq_true rfl⟩) ⟨fun a U g mk q => by obtain ⟨q0, q1, q2, qK, q10, q11, q12, q13, q14, q15, q16, q17, q18, q19, q20⟩ := q; exact ⟨q0, q1, q2, jG.calling g mk a qK, q10, q11, q12, q13, q14, q15, q16, q17, q18, q19, q20⟩, hh_2.recv (C := RX4) (T := TX4) (N := 12) hB6 rfl (by decide) hg_r1 hK, fun U hU hW => ⟨rfl, hU, hh_2.2.1, hG.step hW hU hh_2.1, hg_r1, hg_wk, hg_wi, hg_wz, hg_jnx, hg_jkf, hg_jks, hg_jun, (hh_2.2.2.1.sub (L1 := [(r1, 6, 7, .int pv), (r1, 6, 8, .int pu), (r1, 6, 0, .ref wk), (r1, 6, 1, .ref wi), (r1, 6, 2, .ref wz), (r1, 6, 3, .ref jnx), (r1, 6, 4, .ref jkf), (r1, 6, 5, .ref jks), (r1, 6, 6, .ref jun)]) [0, 1, 2, 3, 4, 5, 6, 7, 8] rfl), (hh_2.2.2.2.2.2.2.2.1.sub (L1 := [(wk, 140, 1502, ca 1, fk), (wi, 141, 1502, ca 1, fi), (wz, 142, 1502, ca 1, fz), (jnx, 143, 1502, ca 1, fn), (jkf, 144, 1502, ca 1, fa), (jks, 145, 1502, ca 1, fs), (jun, 146, 3000, ca 1, fu)]) [0, 1, 2, 3, 4, 5, 6] rfl), by first | omega | (refine ⟨?_, ?_, ?_, ?_, ?_⟩ <;> (first | omega | rfl | assumption | decide | exact Or.inl rfl | exact Or.inr rfl | (simp only; omega)))⟩⟩ rfl rfl hl.1 rfl (lv_room (Nat.le_of_ble_eq_true rfl)) dX8_init_11 ⟨by rw [hRc]; show _ + 0 ≤ _; omega, by rw [hRs]; show _ + 0 ≤ _; omega⟩) hh_2.1 (fun q _ h => h) (fun q h => h) (fun r_4 u_3 t_3 H_3 locs_3 ht_3 hvm_3 hr_4 hb_3 hz_3 hk_3 hS_3 => ?_)
  rw [ht_3] at hb_3
  obtain ⟨hb_3, hbF_3⟩ := hb_3
  obtain ⟨hb_31, hb_32, hb_33, hb_34, hb_35⟩ := hb_3
  have hh_3 : jSt (dC, dI) B base G0 G0 EX8_initU s.heap 0 0 [(r1, 6, 7, .int pv), (r1, 6, 8, .int pu), (r1, 6, 0, .ref wk), (r1, 6, 1, .ref wi), (r1, 6, 2, .ref wz), (r1, 6, 3, .ref jnx), (r1, 6, 4, .ref jkf), (r1, 6, 5, .ref jks), (r1, 6, 6, .ref jun)] [(wk, 140, 1502, ca 1, fk), (wi, 141, 1502, ca 1, fi), (wz, 142, 1502, ca 1, fz), (jnx, 143, 1502, ca 1, fn), (jkf, 144, 1502, ca 1, fa), (jks, 145, 1502, ca 1, fs), (jun, 146, 3000, ca 1, fu)] [([(2, 0), (2, 1)], jOl (dC, dI) G0 2 [] s.heap), (jFy, jYb dC dI G0)] H_3 locs_3 := ((hh_2.call hb_31 hb_32 hb_33 hb_34 hS_3 rfl (L1 := [(r1, 6, 7, .int pv), (r1, 6, 8, .int pu), (r1, 6, 0, .ref wk), (r1, 6, 1, .ref wi), (r1, 6, 2, .ref wz), (r1, 6, 3, .ref jnx), (r1, 6, 4, .ref jkf), (r1, 6, 5, .ref jks), (r1, 6, 6, .ref jun)]) [0, 1, 2, 3, 4, 5, 6, 7, 8] rfl rfl (M1 := [(wk, 140, 1502, ca 1, fk), (wi, 141, 1502, ca 1, fi), (wz, 142, 1502, ca 1, fz), (jnx, 143, 1502, ca 1, fn), (jkf, 144, 1502, ca 1, fa), (jks, 145, 1502, ca 1, fs), (jun, 146, 3000, ca 1, fu)]) [0, 1, 2, 3, 4, 5, 6] rfl rfl (I1 := [([(2, 0), (2, 1)], jOl (dC, dI) G0 2 [] s.heap), (jFy, jYb dC dI G0)]) [0, 1] rfl rfl).more hb_35)
  clear hh_2 ht_3 hvm_3 hz_3 hk_3 hS_3 hb_31 hb_32 hb_33 hb_34 hb_35
  have hraw_5 := hraw_2.kept (hbF_3 _ (by simp))
  obtain ⟨hr_4_0, hr_4_1⟩ := hr_4
  have hk14 := hr_4_1
  refine lv_iconst (v := 4) hx hb dX8_init_14 (by decide) ?_
  refine lv_icmp_ne (tgt := 22) hx hb dX8_init_15 (by decide) (fun c_6 => ?_) (fun c_6 => ?_)
  · skip
    have c_6' : r_4.toInt ≠ 4 := jb_ne (rfl) ((by decide)) c_6
    try clear hr_4_0
    refine lv_iconst (v := 0) hx hb dX8_init_22 (by decide) ?_
    refine lv_istore_n (lv' := [(3, .int 0), (0, .ref r0), (1, .ref r1), (2, .int a2)]) hx hb dX8_init_23 rfl hl (by decide) rfl (fun ls hl => ?_)
    refine lv_aload_n hx hb dX8_init_24 rfl (lv_at hl 2 rfl) ?_
    refine lv_iload_n hx hb dX8_init_25 rfl (lv_at hl 3 rfl) ?_
    have hsz_7 := hh_3.2.2.2.2.2.1
    have htt_7 := hh_3.2.2.2.2.2.2.1
    refine W.room (fun hrc_7 hrs_7 => ?_)
    refine va_calli (A0 := jA base) (H0 := s.heap) (va_runV (As := [.int a2]) (rest := []) ⟨hx, hb, hml, hown, hts⟩ (uX4_kindOfJ l dC dI ca base B hB hAp hB6 hB140 G0 H_3 r1 a2 pv pu wk wi wz jnx jkf jks jun T9 fk fi fz fn fa fs fu) (cwV 1 hts (jgV (jWr_24 _ (List.mem_of_getElem? (i := 5) rfl)) (jWr_23 _ (List.mem_of_getElem? (i := 15) rfl)) (jWr_23 _ (List.mem_of_getElem? (i := 16) rfl)) (jWr_1 _ (List.mem_of_getElem? (i := 22) rfl)) (jWr_23 _ (List.mem_of_getElem? (i := 17) rfl))) rfl rfl rfl (by decide +kernel) ⟨by rw [← hR]; exact Nat.le_of_ble_eq_true rfl, by rw [← hR]; exact Nat.le_of_ble_eq_true rfl⟩) ⟨fun a U g mk q => by obtain ⟨q0, q1, q2, qK, q10, q11, q12, q13, q14, q15, q16, q17, q18, q19, q20⟩ := q; exact ⟨q0, q1, q2, jG.calling g mk a qK, q10, q11, q12, q13, q14, q15, q16, q17, q18, q19, q20⟩, hh_3.recv (C := RX4) (T := TX4) (N := 12) hB6 rfl (by decide) hg_r1 hK, fun U hU hW => ⟨rfl, hU, hh_3.2.1, hG.step hW hU hh_3.1, hg_r1, hg_wk, hg_wi, hg_wz, hg_jnx, hg_jkf, hg_jks, hg_jun, (hh_3.2.2.1.sub (L1 := [(r1, 6, 7, .int pv), (r1, 6, 8, .int pu), (r1, 6, 0, .ref wk), (r1, 6, 1, .ref wi), (r1, 6, 2, .ref wz), (r1, 6, 3, .ref jnx), (r1, 6, 4, .ref jkf), (r1, 6, 5, .ref jks), (r1, 6, 6, .ref jun)]) [0, 1, 2, 3, 4, 5, 6, 7, 8] rfl), (hh_3.2.2.2.2.2.2.2.1.sub (L1 := [(wk, 140, 1502, ca 1, fk), (wi, 141, 1502, ca 1, fi), (wz, 142, 1502, ca 1, fz), (jnx, 143, 1502, ca 1, fn), (jkf, 144, 1502, ca 1, fa), (jks, 145, 1502, ca 1, fs), (jun, 146, 3000, ca 1, fu)]) [0, 1, 2, 3, 4, 5, 6] rfl), by first | omega | (refine ⟨?_, ?_, ?_, ?_, ?_⟩ <;> (first | omega | rfl | assumption | decide | exact Or.inl rfl | exact Or.inr rfl | (simp only; omega)))⟩⟩ rfl rfl hl.1 rfl (lv_room (Nat.le_of_ble_eq_true rfl)) dX8_init_26 ⟨by rw [hRc]; show _ + 0 ≤ _; omega, by rw [hRs]; show _ + 0 ≤ _; omega⟩) hh_3.1 (fun q _ h => h) (fun q h => h) (fun r_8 u_7 t_7 H_7 locs_7 ht_7 hvm_7 hr_8 hb_7 hz_7 hk_7 hS_7 => ?_)
    rw [ht_7] at hb_7
    obtain ⟨hb_7, hbF_7⟩ := hb_7
    obtain ⟨hb_71, hb_72, hb_73, hb_74, hb_75⟩ := hb_7
    have hh_7 : jSt (dC, dI) B base G0 G0 EX8_initU s.heap 0 0 [(r1, 6, 7, .int pv), (r1, 6, 8, .int pu), (r1, 6, 0, .ref wk), (r1, 6, 1, .ref wi), (r1, 6, 2, .ref wz), (r1, 6, 3, .ref jnx), (r1, 6, 4, .ref jkf), (r1, 6, 5, .ref jks), (r1, 6, 6, .ref jun)] [(wk, 140, 1502, ca 1, fk), (wi, 141, 1502, ca 1, fi), (wz, 142, 1502, ca 1, fz), (jnx, 143, 1502, ca 1, fn), (jkf, 144, 1502, ca 1, fa), (jks, 145, 1502, ca 1, fs), (jun, 146, 3000, ca 1, fu)] [([(2, 0), (2, 1)], jOl (dC, dI) G0 2 [] s.heap), (jFy, jYb dC dI G0)] H_7 locs_7 := ((hh_3.call hb_71 hb_72 hb_73 hb_74 hS_7 rfl (L1 := [(r1, 6, 7, .int pv), (r1, 6, 8, .int pu), (r1, 6, 0, .ref wk), (r1, 6, 1, .ref wi), (r1, 6, 2, .ref wz), (r1, 6, 3, .ref jnx), (r1, 6, 4, .ref jkf), (r1, 6, 5, .ref jks), (r1, 6, 6, .ref jun)]) [0, 1, 2, 3, 4, 5, 6, 7, 8] rfl rfl (M1 := [(wk, 140, 1502, ca 1, fk), (wi, 141, 1502, ca 1, fi), (wz, 142, 1502, ca 1, fz), (jnx, 143, 1502, ca 1, fn), (jkf, 144, 1502, ca 1, fa), (jks, 145, 1502, ca 1, fs), (jun, 146, 3000, ca 1, fu)]) [0, 1, 2, 3, 4, 5, 6] rfl rfl (I1 := [([(2, 0), (2, 1)], jOl (dC, dI) G0 2 [] s.heap), (jFy, jYb dC dI G0)]) [0, 1] rfl rfl).more hb_75)
    clear hh_3 ht_7 hvm_7 hz_7 hk_7 hS_7 hb_71 hb_72 hb_73 hb_74 hb_75
    have hraw_9 := hraw_5.kept (hbF_7 _ (by simp))
    obtain ⟨hr_8_0, hr_8_1⟩ := hr_8
    have hk26 := hr_8_1
    refine lv_iconst (v := 3) hx hb dX8_init_29 (by decide) ?_
    refine lv_icmp_ne (tgt := 47) hx hb dX8_init_30 (by decide) (fun c_10 => ?_) (fun c_10 => ?_)
    · skip
      have c_10' : r_8.toInt ≠ 3 := jb_ne (rfl) ((by decide)) c_10
      try clear hr_8_0
      refine lv_iconst (v := 0) hx hb dX8_init_47 (by decide) ?_
      refine lv_istore (lv' := [(4, .int 0), (3, .int 0), (0, .ref r0), (1, .ref r1), (2, .int a2)]) hx hb dX8_init_48 hl (by decide) rfl (fun ls hl => ?_)
      refine lv_aload_n hx hb dX8_init_50 rfl (lv_at hl 2 rfl) ?_
      refine lv_iload_n hx hb dX8_init_51 rfl (lv_at hl 1 rfl) ?_
      refine lv_if_ne (tgt := 60) hx hb dX8_init_52 (by decide) (fun c_11 => ?_) (fun c_11 => ?_)
      · skip
        exact absurd c_11 (by decide)
      · skip
        refine lv_iload hx hb dX8_init_55 (lv_at hl 0 rfl) ?_
        refine lv_if_eq (tgt := 72) hx hb dX8_init_57 (by decide) (fun c_12 => ?_) (fun c_12 => ?_)
        · skip
          refine lv_null hx hb dX8_init_72 ?_
          refine j7_putRF hx hb hown hK hh_7 hB hAp hraw_9 hnr0 hbr0 (C := RX8) (T := TX8) (N := 5) rfl (i := 0) (by decide) (Nat.le_of_ble_eq_true rfl) hly_10_0 rfl hin2 rfl hlk_29 (ty := (.object "ProofServer$Bytes")) (v := .null) (by decide +kernel) rfl rfl dX8_init_73 (fun H_13 locs_13 hraw_13 hr_13 hh_13 => ?_)
          have hraw_13 : va_at (dC, dI) vwCl (r0, .inr (10, [.null, .null, .int 0, .int 0, .int (-1)])) H_13 := hraw_13
          clear hh_7
          have hle_14 : jLe G0 (va_up G0 r0 (some (10, 0))) := jLe.typ hnr0
          have hg_15 := hle_14 _ _ hg_r1
          have hg_16 := hle_14 _ _ hg_wk
          have hg_17 := hle_14 _ _ hg_wi
          have hg_18 := hle_14 _ _ hg_wz
          have hg_19 := hle_14 _ _ hg_jnx
          have hg_20 := hle_14 _ _ hg_jkf
          have hg_21 := hle_14 _ _ hg_jks
          have hg_22 := hle_14 _ _ hg_jun
          have hfa_14 : jRn (va_up G0 r0 (some (10, 0))) 2 0 (.null) ∧ jRn (va_up G0 r0 (some (10, 0))) 3 0 (.null) ∧ jIa (.int 0) ∧ jZb (.int 0) ∧ jIa (.int (-1)) ∧ True := ⟨Or.inl rfl, Or.inl rfl, ⟨_, rfl⟩, ⟨_, rfl, Or.inl rfl⟩, ⟨_, rfl⟩, trivial⟩
          have hh_14 := hh_13.typ (k := 10) (n := 0) hB hnr0 hbr0 hraw_13.lt (jOb.of (C := RX8) (T := TX8) (N := 5) (F := F10) hB10 rfl hraw_13 (show jFx (F10 0 (va_up G0 r0 (some (10, 0)))) [.null, .null, .int 0, .int 0, .int (-1)] from hfa_14))
          have hgn_14 : (va_up G0 r0 (some (10, 0))) r0 = some (10, 0) := jUp_self
          have hN_14 : (jNk [0, 1, 3, 4, 5, 6, 7, 8, 9, 11, 12, 13, 14, 15, 16]) G0 (va_up G0 r0 (some (10, 0))) := jNk.new (by decide)
          have hNn_14 : (jNk [0, 1, 3, 4, 5, 6, 7, 8, 9, 11, 12, 13, 14, 15, 16]) G0 (va_up G0 r0 (some (10, 0))) := (jNk.rf).tr hN_14
          have hh_23 := hh_14.more (P1 := [(r0, 10, 0, .null), (r0, 10, 1, .null), (r0, 10, 2, .int 0), (r0, 10, 3, .int 0), (r0, 10, 4, .int (-1))]) (jP.cons hgn_14 (jf.raw (C := RX8) (T := TX8) (N := 5) rfl hraw_13 (i := 0) (by decide)) (jP.cons hgn_14 (jf.raw (C := RX8) (T := TX8) (N := 5) rfl hraw_13 (i := 1) (by decide)) (jP.cons hgn_14 (jf.raw (C := RX8) (T := TX8) (N := 5) rfl hraw_13 (i := 2) (by decide)) (jP.cons hgn_14 (jf.raw (C := RX8) (T := TX8) (N := 5) rfl hraw_13 (i := 3) (by decide)) (jP.cons hgn_14 (jf.raw (C := RX8) (T := TX8) (N := 5) rfl hraw_13 (i := 4) (by decide)) jP.nil)))))
          have hM_14 : jNk [1, 2, 11] G0 (va_up G0 r0 (some (10, 0))) := jNk.new (by decide)
          have hd_24 := jYb.grow (hh_23.iv 1 rfl) hle_14 hM_14 (by decide)
          have hh_25 := hh_23.sub (L1 := [(r0, 10, 0, .null), (r0, 10, 1, .null), (r0, 10, 2, .int 0), (r0, 10, 3, .int 0), (r0, 10, 4, .int (-1)), (r1, 6, 7, .int pv), (r1, 6, 8, .int pu), (r1, 6, 0, .ref wk), (r1, 6, 1, .ref wi), (r1, 6, 2, .ref wz), (r1, 6, 3, .ref jnx), (r1, 6, 4, .ref jkf), (r1, 6, 5, .ref jks), (r1, 6, 6, .ref jun)]) [0, 1, 2, 3, 4, 5, 6, 7, 8, 9, 10, 11, 12, 13] rfl (M1 := [(wk, 140, 1502, ca 1, fk), (wi, 141, 1502, ca 1, fi), (wz, 142, 1502, ca 1, fz), (jnx, 143, 1502, ca 1, fn), (jkf, 144, 1502, ca 1, fa), (jks, 145, 1502, ca 1, fs), (jun, 146, 3000, ca 1, fu)]) [0, 1, 2, 3, 4, 5, 6] rfl (I1 := [([(2, 0), (2, 1)], jOl (dC, dI) G0 2 [] s.heap)]) [0] rfl
          clear hh_23
          have hh_26 := hh_25.addI (jYb.ie hd_24)
          clear hh_25
          refine lv_iload_n hx hb dX8_init_76 rfl (lv_at hl 1 rfl) ?_
          refine lv_if_eq (tgt := 95) hx hb dX8_init_77 (by decide) (fun c_27 => ?_) (fun c_27 => ?_)
          · skip
            refine lv_iload hx hb dX8_init_95 (lv_at hl 0 rfl) ?_
            refine lv_if_eq (tgt := 120) hx hb dX8_init_97 (by decide) (fun c_28 => ?_) (fun c_28 => ?_)
            · skip
              have hsz_29 := hh_26.2.2.2.2.2.1
              have htt_29 := hh_26.2.2.2.2.2.2.1
              refine W.room (fun hrc_29 hrs_29 => ?_)
              refine W.widen (k := LC - s.heap.size) (n := LS - jTot s.heap) (by omega) (by omega) ?_
              rw [hQ]
              exact W.vret hx hb hr (fun t ht hW => ⟨⟨(va_up G0 r0 (some (10, 0))), rfl, trivial, ⟨hh_26.ra (by first | (simp only; omega) | omega) (by first | (simp only; omega) | omega) (M1 := []) [] rfl ht, hNn_14, by rw [ht]; exact hh_26.iv 1 rfl, hgn_14, by rw [ht]; exact hh_26.2.2.2.2.2.2.2.2.sub (L1 := [(jFy, jYb dC dI (va_up G0 r0 (some (10, 0))))]) [0] rfl, by rw [ht]; exact Or.inr ⟨fun q => by have h9 := hk14; have h8 := hk26; omega, hh_26.at 0 rfl⟩⟩⟩, by rw [ht]; try exact hh_26.1.1, fun q h9 hq => by rw [ht]; try exact hh_26.1.2.1 q h9 hq⟩) hh_26.1.2.2 dX8_init_120
            · skip
              exact absurd c_28 (by decide)
          · skip
            exact absurd c_27 (by decide)
        · skip
          exact absurd c_12 (by decide)
    · skip
      have c_10' : r_8.toInt = 3 := jb_ne_n (rfl) ((by decide)) c_10
      first | (have hr_8_0q := hr_8_0.resolve_left (by omega); clear hr_8_0) | (have hr_8_0q := hr_8_0.resolve_right (by omega); clear hr_8_0) | try clear hr_8_0
      refine lv_aload_n hx hb dX8_init_33 rfl (lv_at hl 2 rfl) ?_
      refine lv_iload_n hx hb dX8_init_34 rfl (lv_at hl 3 rfl) ?_
      have hsz_30 := hh_7.2.2.2.2.2.1
      have htt_30 := hh_7.2.2.2.2.2.2.1
      refine W.room (fun hrc_30 hrs_30 => ?_)
      refine va_calli (A0 := jA base) (H0 := s.heap) (va_runV (As := [.int a2]) (rest := []) ⟨hx, hb, hml, hown, hts⟩ (uX4_sizeOfJ l dC dI ca base B hB hAp hB6 hB142 G0 H_7 r1 a2 pv pu wk wi wz jnx jkf jks jun T9 fk fi fz fn fa fs fu) (cwV 1 hts (jgV (jWr_24 _ (List.mem_of_getElem? (i := 6) rfl)) (jWr_24 _ (List.mem_of_getElem? (i := 7) rfl)) (jWr_24 _ (List.mem_of_getElem? (i := 8) rfl)) (jWr_1 _ (List.mem_of_getElem? (i := 22) rfl)) (jWr_24 _ (List.mem_of_getElem? (i := 9) rfl))) rfl rfl rfl (by decide +kernel) ⟨by rw [← hR]; exact Nat.le_of_ble_eq_true rfl, by rw [← hR]; exact Nat.le_of_ble_eq_true rfl⟩) ⟨fun a U g mk q => by obtain ⟨q0, q1, q2, qK, q10, q11, q12, q13, q14, q15, q16, q17, q18, q19, q20⟩ := q; exact ⟨q0, q1, q2, jG.calling g mk a qK, q10, q11, q12, q13, q14, q15, q16, q17, q18, q19, q20⟩, hh_7.recv (C := RX4) (T := TX4) (N := 12) hB6 rfl (by decide) hg_r1 hK, fun U hU hW => ⟨rfl, hU, hh_7.2.1, hG.step hW hU hh_7.1, hg_r1, hg_wk, hg_wi, hg_wz, hg_jnx, hg_jkf, hg_jks, hg_jun, (hh_7.2.2.1.sub (L1 := [(r1, 6, 7, .int pv), (r1, 6, 8, .int pu), (r1, 6, 0, .ref wk), (r1, 6, 1, .ref wi), (r1, 6, 2, .ref wz), (r1, 6, 3, .ref jnx), (r1, 6, 4, .ref jkf), (r1, 6, 5, .ref jks), (r1, 6, 6, .ref jun)]) [0, 1, 2, 3, 4, 5, 6, 7, 8] rfl), (hh_7.2.2.2.2.2.2.2.1.sub (L1 := [(wk, 140, 1502, ca 1, fk), (wi, 141, 1502, ca 1, fi), (wz, 142, 1502, ca 1, fz), (jnx, 143, 1502, ca 1, fn), (jkf, 144, 1502, ca 1, fa), (jks, 145, 1502, ca 1, fs), (jun, 146, 3000, ca 1, fu)]) [0, 1, 2, 3, 4, 5, 6] rfl), by first | omega | (refine ⟨?_, ?_, ?_, ?_, ?_⟩ <;> (first | omega | rfl | assumption | decide | exact Or.inl rfl | exact Or.inr rfl | (simp only; omega)))⟩⟩ rfl rfl hl.1 rfl (lv_room (Nat.le_of_ble_eq_true rfl)) dX8_init_35 ⟨by rw [hRc]; show _ + 0 ≤ _; omega, by rw [hRs]; show _ + 0 ≤ _; omega⟩) hh_7.1 (fun q _ h => h) (fun q h => h) (fun r_31 u_30 t_30 H_30 locs_30 ht_30 hvm_30 hr_31 hb_30 hz_30 hk_30 hS_30 => ?_)
      rw [ht_30] at hb_30
      obtain ⟨hb_30, hbF_30⟩ := hb_30
      obtain ⟨hb_301, hb_302, hb_303, hb_304, hb_305⟩ := hb_30
      have hh_30 : jSt (dC, dI) B base G0 G0 EX8_initU s.heap 0 0 [(r1, 6, 7, .int pv), (r1, 6, 8, .int pu), (r1, 6, 0, .ref wk), (r1, 6, 1, .ref wi), (r1, 6, 2, .ref wz), (r1, 6, 3, .ref jnx), (r1, 6, 4, .ref jkf), (r1, 6, 5, .ref jks), (r1, 6, 6, .ref jun)] [(wk, 140, 1502, ca 1, fk), (wi, 141, 1502, ca 1, fi), (wz, 142, 1502, ca 1, fz), (jnx, 143, 1502, ca 1, fn), (jkf, 144, 1502, ca 1, fa), (jks, 145, 1502, ca 1, fs), (jun, 146, 3000, ca 1, fu)] [([(2, 0), (2, 1)], jOl (dC, dI) G0 2 [] s.heap), (jFy, jYb dC dI G0)] H_30 locs_30 := ((hh_7.call hb_301 hb_302 hb_303 hb_304 hS_30 rfl (L1 := [(r1, 6, 7, .int pv), (r1, 6, 8, .int pu), (r1, 6, 0, .ref wk), (r1, 6, 1, .ref wi), (r1, 6, 2, .ref wz), (r1, 6, 3, .ref jnx), (r1, 6, 4, .ref jkf), (r1, 6, 5, .ref jks), (r1, 6, 6, .ref jun)]) [0, 1, 2, 3, 4, 5, 6, 7, 8] rfl rfl (M1 := [(wk, 140, 1502, ca 1, fk), (wi, 141, 1502, ca 1, fi), (wz, 142, 1502, ca 1, fz), (jnx, 143, 1502, ca 1, fn), (jkf, 144, 1502, ca 1, fa), (jks, 145, 1502, ca 1, fs), (jun, 146, 3000, ca 1, fu)]) [0, 1, 2, 3, 4, 5, 6] rfl rfl (I1 := [([(2, 0), (2, 1)], jOl (dC, dI) G0 2 [] s.heap), (jFy, jYb dC dI G0)]) [0, 1] rfl rfl).more hb_305)
      clear hh_7 ht_30 hvm_30 hz_30 hk_30 hS_30 hb_301 hb_302 hb_303 hb_304 hb_305
      have hraw_32 := hraw_9.kept (hbF_30 _ (by simp))
      obtain ⟨hr_31_0, hr_31_1⟩ := hr_31
      have hz35 := hr_31_1
      refine lv_bipush (v := 20) hx hb dX8_init_38 (by decide) ?_
      refine lv_icmp_gt (tgt := 47) hx hb dX8_init_40 (by decide) (fun c_33 => ?_) (fun c_33 => ?_)
      · skip
        have c_33' : r_31.toInt > 20 := jb_gt (rfl) ((by decide)) c_33
        first | (have hr_31_0q := hr_31_0.resolve_left (by omega); clear hr_31_0) | (have hr_31_0q := hr_31_0.resolve_right (by omega); clear hr_31_0) | try clear hr_31_0
        refine lv_iconst (v := 0) hx hb dX8_init_47 (by decide) ?_
        refine lv_istore (lv' := [(4, .int 0), (3, .int 0), (0, .ref r0), (1, .ref r1), (2, .int a2)]) hx hb dX8_init_48 hl (by decide) rfl (fun ls hl => ?_)
        refine lv_aload_n hx hb dX8_init_50 rfl (lv_at hl 2 rfl) ?_
        refine lv_iload_n hx hb dX8_init_51 rfl (lv_at hl 1 rfl) ?_
        refine lv_if_ne (tgt := 60) hx hb dX8_init_52 (by decide) (fun c_34 => ?_) (fun c_34 => ?_)
        · skip
          exact absurd c_34 (by decide)
        · skip
          refine lv_iload hx hb dX8_init_55 (lv_at hl 0 rfl) ?_
          refine lv_if_eq (tgt := 72) hx hb dX8_init_57 (by decide) (fun c_35 => ?_) (fun c_35 => ?_)
          · skip
            refine lv_null hx hb dX8_init_72 ?_
            refine j7_putRF hx hb hown hK hh_30 hB hAp hraw_32 hnr0 hbr0 (C := RX8) (T := TX8) (N := 5) rfl (i := 0) (by decide) (Nat.le_of_ble_eq_true rfl) hly_10_0 rfl hin2 rfl hlk_29 (ty := (.object "ProofServer$Bytes")) (v := .null) (by decide +kernel) rfl rfl dX8_init_73 (fun H_36 locs_36 hraw_36 hr_36 hh_36 => ?_)
            have hraw_36 : va_at (dC, dI) vwCl (r0, .inr (10, [.null, .null, .int 0, .int 0, .int (-1)])) H_36 := hraw_36
            clear hh_30
            have hle_37 : jLe G0 (va_up G0 r0 (some (10, 0))) := jLe.typ hnr0
            have hg_38 := hle_37 _ _ hg_r1
            have hg_39 := hle_37 _ _ hg_wk
            have hg_40 := hle_37 _ _ hg_wi
            have hg_41 := hle_37 _ _ hg_wz
            have hg_42 := hle_37 _ _ hg_jnx
            have hg_43 := hle_37 _ _ hg_jkf
            have hg_44 := hle_37 _ _ hg_jks
            have hg_45 := hle_37 _ _ hg_jun
            have hfa_37 : jRn (va_up G0 r0 (some (10, 0))) 2 0 (.null) ∧ jRn (va_up G0 r0 (some (10, 0))) 3 0 (.null) ∧ jIa (.int 0) ∧ jZb (.int 0) ∧ jIa (.int (-1)) ∧ True := ⟨Or.inl rfl, Or.inl rfl, ⟨_, rfl⟩, ⟨_, rfl, Or.inl rfl⟩, ⟨_, rfl⟩, trivial⟩
            have hh_37 := hh_36.typ (k := 10) (n := 0) hB hnr0 hbr0 hraw_36.lt (jOb.of (C := RX8) (T := TX8) (N := 5) (F := F10) hB10 rfl hraw_36 (show jFx (F10 0 (va_up G0 r0 (some (10, 0)))) [.null, .null, .int 0, .int 0, .int (-1)] from hfa_37))
            have hgn_37 : (va_up G0 r0 (some (10, 0))) r0 = some (10, 0) := jUp_self
            have hN_37 : (jNk [0, 1, 3, 4, 5, 6, 7, 8, 9, 11, 12, 13, 14, 15, 16]) G0 (va_up G0 r0 (some (10, 0))) := jNk.new (by decide)
            have hNn_37 : (jNk [0, 1, 3, 4, 5, 6, 7, 8, 9, 11, 12, 13, 14, 15, 16]) G0 (va_up G0 r0 (some (10, 0))) := (jNk.rf).tr hN_37
            have hh_46 := hh_37.more (P1 := [(r0, 10, 0, .null), (r0, 10, 1, .null), (r0, 10, 2, .int 0), (r0, 10, 3, .int 0), (r0, 10, 4, .int (-1))]) (jP.cons hgn_37 (jf.raw (C := RX8) (T := TX8) (N := 5) rfl hraw_36 (i := 0) (by decide)) (jP.cons hgn_37 (jf.raw (C := RX8) (T := TX8) (N := 5) rfl hraw_36 (i := 1) (by decide)) (jP.cons hgn_37 (jf.raw (C := RX8) (T := TX8) (N := 5) rfl hraw_36 (i := 2) (by decide)) (jP.cons hgn_37 (jf.raw (C := RX8) (T := TX8) (N := 5) rfl hraw_36 (i := 3) (by decide)) (jP.cons hgn_37 (jf.raw (C := RX8) (T := TX8) (N := 5) rfl hraw_36 (i := 4) (by decide)) jP.nil)))))
            have hM_37 : jNk [1, 2, 11] G0 (va_up G0 r0 (some (10, 0))) := jNk.new (by decide)
            have hd_47 := jYb.grow (hh_46.iv 1 rfl) hle_37 hM_37 (by decide)
            have hh_48 := hh_46.sub (L1 := [(r0, 10, 0, .null), (r0, 10, 1, .null), (r0, 10, 2, .int 0), (r0, 10, 3, .int 0), (r0, 10, 4, .int (-1)), (r1, 6, 7, .int pv), (r1, 6, 8, .int pu), (r1, 6, 0, .ref wk), (r1, 6, 1, .ref wi), (r1, 6, 2, .ref wz), (r1, 6, 3, .ref jnx), (r1, 6, 4, .ref jkf), (r1, 6, 5, .ref jks), (r1, 6, 6, .ref jun)]) [0, 1, 2, 3, 4, 5, 6, 7, 8, 9, 10, 11, 12, 13] rfl (M1 := [(wk, 140, 1502, ca 1, fk), (wi, 141, 1502, ca 1, fi), (wz, 142, 1502, ca 1, fz), (jnx, 143, 1502, ca 1, fn), (jkf, 144, 1502, ca 1, fa), (jks, 145, 1502, ca 1, fs), (jun, 146, 3000, ca 1, fu)]) [0, 1, 2, 3, 4, 5, 6] rfl (I1 := [([(2, 0), (2, 1)], jOl (dC, dI) G0 2 [] s.heap)]) [0] rfl
            clear hh_46
            have hh_49 := hh_48.addI (jYb.ie hd_47)
            clear hh_48
            refine lv_iload_n hx hb dX8_init_76 rfl (lv_at hl 1 rfl) ?_
            refine lv_if_eq (tgt := 95) hx hb dX8_init_77 (by decide) (fun c_50 => ?_) (fun c_50 => ?_)
            · skip
              refine lv_iload hx hb dX8_init_95 (lv_at hl 0 rfl) ?_
              refine lv_if_eq (tgt := 120) hx hb dX8_init_97 (by decide) (fun c_51 => ?_) (fun c_51 => ?_)
              · skip
                have hsz_52 := hh_49.2.2.2.2.2.1
                have htt_52 := hh_49.2.2.2.2.2.2.1
                refine W.room (fun hrc_52 hrs_52 => ?_)
                refine W.widen (k := LC - s.heap.size) (n := LS - jTot s.heap) (by omega) (by omega) ?_
                rw [hQ]
                exact W.vret hx hb hr (fun t ht hW => ⟨⟨(va_up G0 r0 (some (10, 0))), rfl, trivial, ⟨hh_49.ra (by first | (simp only; omega) | omega) (by first | (simp only; omega) | omega) (M1 := []) [] rfl ht, hNn_37, by rw [ht]; exact hh_49.iv 1 rfl, hgn_37, by rw [ht]; exact hh_49.2.2.2.2.2.2.2.2.sub (L1 := [(jFy, jYb dC dI (va_up G0 r0 (some (10, 0))))]) [0] rfl, by rw [ht]; exact Or.inr ⟨fun q => by have h9 := hk14; have h8 := hk26; have h7 := hz35; omega, hh_49.at 0 rfl⟩⟩⟩, by rw [ht]; try exact hh_49.1.1, fun q h9 hq => by rw [ht]; try exact hh_49.1.2.1 q h9 hq⟩) hh_49.1.2.2 dX8_init_120
              · skip
                exact absurd c_51 (by decide)
            · skip
              exact absurd c_50 (by decide)
          · skip
            exact absurd c_35 (by decide)
      · skip
        have c_33' : r_31.toInt ≤ 20 := jb_gt_n (rfl) ((by decide)) c_33
        first | (have hr_31_0q := hr_31_0.resolve_left (by omega); clear hr_31_0) | (have hr_31_0q := hr_31_0.resolve_right (by omega); clear hr_31_0) | try clear hr_31_0
        refine lv_iconst (v := 1) hx hb dX8_init_43 (by decide) ?_
        refine lv_goto (tgt := 48) hx hb dX8_init_44 (by decide) ?_
        refine lv_istore (lv' := [(4, .int 1), (3, .int 0), (0, .ref r0), (1, .ref r1), (2, .int a2)]) hx hb dX8_init_48 hl (by decide) rfl (fun ls hl => ?_)
        refine lv_aload_n hx hb dX8_init_50 rfl (lv_at hl 2 rfl) ?_
        refine lv_iload_n hx hb dX8_init_51 rfl (lv_at hl 1 rfl) ?_
        refine lv_if_ne (tgt := 60) hx hb dX8_init_52 (by decide) (fun c_53 => ?_) (fun c_53 => ?_)
        · skip
          exact absurd c_53 (by decide)
        · skip
          refine lv_iload hx hb dX8_init_55 (lv_at hl 0 rfl) ?_
          refine lv_if_eq (tgt := 72) hx hb dX8_init_57 (by decide) (fun c_54 => ?_) (fun c_54 => ?_)
          · skip
            exact absurd c_54 (by decide)
          · skip
            have hsz_55 := hh_30.2.2.2.2.2.1
            have htt_55 := hh_30.2.2.2.2.2.2.1
            refine j7_newo (k := 2) (C := RX0) (T := TX0) (N := 2) (fs := [.null, .int 0]) hx hb htw jWc_wsX00 (fun k => ([(.array .byte), .int] : List FieldType).getD k .int) (by decide +kernel) hown (htw (.classLink RX8 24 RX0) (jWr_24 _ (List.mem_of_getElem? (i := 3) rfl))) (htw (.instantiable RX0 2) (jWr_1 _ (List.mem_of_getElem? (i := 13) rfl))) (htw (.initialized RX0) (jWr_1 _ (List.mem_of_getElem? (i := 14) rfl))) hK rfl (fun j hj => by rcases (by omega : j = 0 ∨ j = 1) with rfl | rfl <;> rfl) hh_30 hB (by rw [hRc]; omega) (by rw [hRs]; omega) dX8_init_60 (fun H_55 hraw_55 hfr_55 hnr_55 hh_55 => ?_)
            have hlt_56 := hraw_32.lt
            have hke_55 : jKe G0 G0 H_30 H_55 := jKe.raw hfr_55
            have hbr_55 : base ≤ H_30.size := Nat.le_trans hbs hh_30.1.1
            have hsy_55 : s.heap.size ≤ H_30.size := hh_30.1.1
            clear hh_30
            have hraw_57n := hke_55.nr hraw_32.lt hnr0
            have hraw_57 := hraw_32.kept (hke_55.1 _ hraw_32.lt)
            have hne_58 : r0 ≠ H_30.size := Nat.ne_of_lt hlt_56
            refine lv_dup hx hb dX8_init_63 rfl ?_
            refine lv_bipush (v := 16) hx hb dX8_init_64 (by decide) ?_
            have hsz_59 := hh_55.2.2.2.2.2.1
            have htt_59 := hh_55.2.2.2.2.2.2.1
            refine W.room (fun hrc_59 hrs_59 => ?_)
            refine va_callv (A0 := jA base) (H0 := s.heap) (va_runI (As := [.int 16]) (rest := [.ref H_30.size, .ref r0]) ⟨hx, hb, hml, hown, hts⟩ (uX0_initY l dC dI ca base B hB hAp hB2 hB196 G0 H_55 H_30.size 16 0 LC LS) (cwI 1 hts (jgW (jWr_3 _ (List.mem_of_getElem? (i := 3) rfl))) rfl rfl rfl (htw (.initialized RX0) (jWr_1 _ (List.mem_of_getElem? (i := 14) rfl))) (htw (.methodLink RX8 26 yX0_init) (jWr_24 _ (List.mem_of_getElem? (i := 10) rfl))) (htw (.instanceMethod yX0_init) (jWr_3 _ (List.mem_of_getElem? (i := 2) rfl))) rfl (by decide +kernel) ⟨by rw [← hR]; exact Nat.le_of_ble_eq_true rfl, by rw [← hR]; exact Nat.le_of_ble_eq_true rfl⟩) ⟨fun a U g mk q => by obtain ⟨q0, q1, q2, qK, q10, q11, q12, q13, q14, q15⟩ := q; exact ⟨q0, q1, q2, jG.calling g mk a qK, q10, q11, q12, q13, q14, q15⟩, fun U hU hW => ⟨rfl, hU, hh_55.2.1, hG.step hW hU hh_55.1, hraw_55, hnr_55, hbr_55, jP.nil, (hh_55.2.2.2.2.2.2.2.2.sub (L1 := [(jFy, jYb dC dI G0)]) [1] rfl), (by omega), (by omega), ⟨(by first | omega | rfl | assumption | exact fun _ => jPw.z16), (by first | omega | rfl | assumption | exact fun _ => jPw.z16), (by first | omega | rfl | assumption | exact fun _ => jPw.z16), (by first | assumption | exact fun _ => jPw.z16 | omega), (by first | omega | rfl | assumption | exact fun _ => jPw.z16)⟩⟩⟩ rfl rfl hl.1 rfl (lv_room (Nat.le_of_ble_eq_true rfl)) dX8_init_66 ⟨by rw [hRc]; omega, by rw [hRs]; omega⟩) hh_55.1 (fun q _ h => h) (fun q h => h) (fun u_59 t_59 H_59 locs_59 ht_59 hvm_59 hr_60 hb_59 hz_59 hk_59 hS_59 => ?_)
            obtain ⟨qc_59, qa_59, m_qa_59, G_59⟩ := u_59
            rw [ht_59] at hb_59
            simp only at hb_59
            obtain ⟨⟨hb_591, hb_592, hb_593, hb_594, hb_595, hb_596⟩, hgq_59_0, hN_59, hgc_59, hbX_59, hbE_59⟩ := hb_59
            have hN_59 : (jNk [0, 1, 3, 4, 5, 6, 7, 8, 9, 11, 12, 13, 14, 15, 16]) G0 G_59 := hN_59.sub (by decide)
            have hh_59 : jSt (dC, dI) B base G0 G_59 EX8_initU s.heap ((0 + 1) + (1)) ((0 + 2) + ((16 : Int).toNat)) [(H_30.size, 2, 1, .int qc_59), (H_30.size, 2, 0, .ref qa_59), (r1, 6, 7, .int pv), (r1, 6, 8, .int pu), (r1, 6, 0, .ref wk), (r1, 6, 1, .ref wi), (r1, 6, 2, .ref wz), (r1, 6, 3, .ref jnx), (r1, 6, 4, .ref jkf), (r1, 6, 5, .ref jks), (r1, 6, 6, .ref jun)] [(wk, 140, 1502, ca 1, fk), (wi, 141, 1502, ca 1, fi), (wz, 142, 1502, ca 1, fz), (jnx, 143, 1502, ca 1, fn), (jkf, 144, 1502, ca 1, fa), (jks, 145, 1502, ca 1, fs), (jun, 146, 3000, ca 1, fu)] [([(2, 0), (2, 1)], jOl (dC, dI) G0 2 [] s.heap)] H_59 locs_59 := (hh_55.callG hb_591 hb_592 hb_593 hb_594 hb_595 hS_59 rfl (L1 := [(r1, 6, 7, .int pv), (r1, 6, 8, .int pu), (r1, 6, 0, .ref wk), (r1, 6, 1, .ref wi), (r1, 6, 2, .ref wz), (r1, 6, 3, .ref jnx), (r1, 6, 4, .ref jkf), (r1, 6, 5, .ref jks), (r1, 6, 6, .ref jun)]) [0, 1, 2, 3, 4, 5, 6, 7, 8] rfl rfl (M1 := [(wk, 140, 1502, ca 1, fk), (wi, 141, 1502, ca 1, fi), (wz, 142, 1502, ca 1, fz), (jnx, 143, 1502, ca 1, fn), (jkf, 144, 1502, ca 1, fa), (jks, 145, 1502, ca 1, fs), (jun, 146, 3000, ca 1, fu)]) [0, 1, 2, 3, 4, 5, 6] rfl rfl (I1 := [([(2, 0), (2, 1)], jOl (dC, dI) G0 2 [] s.heap)]) [0] rfl rfl).more hb_596
            have hNn_59 : (jNk [0, 1, 3, 4, 5, 6, 7, 8, 9, 11, 12, 13, 14, 15, 16]) G0 G_59 := (jNk.rf).tr hN_59
            have hg_61 := hb_592 _ _ hg_r1
            have hg_62 := hb_592 _ _ hg_wk
            have hg_63 := hb_592 _ _ hg_wi
            have hg_64 := hb_592 _ _ hg_wz
            have hg_65 := hb_592 _ _ hg_jnx
            have hg_66 := hb_592 _ _ hg_jkf
            have hg_67 := hb_592 _ _ hg_jks
            have hg_68 := hb_592 _ _ hg_jun
            have hh_69 := hh_59.addIs hbE_59
            try simp only at hr_60
            obtain ⟨hr_60_0, hr_60_1⟩ := hr_60
            have hraw_70x := hbX_59.ke hraw_57.lt hne_58 hraw_57n
            have hraw_70 := hraw_57.kept hraw_70x.1
            refine lv_goto (tgt := 73) hx hb dX8_init_69 (by decide) ?_
            refine j7_putRF hx hb hown hK hh_69 hB hAp hraw_70 hraw_70x.2 hbr0 (C := RX8) (T := TX8) (N := 5) rfl (i := 0) (by decide) (Nat.le_of_ble_eq_true rfl) hly_10_0 rfl hin2 rfl hlk_29 (ty := (.object "ProofServer$Bytes")) (v := .ref H_30.size) (by decide +kernel) rfl rfl dX8_init_73 (fun H_71 locs_71 hraw_71 hr_71 hh_71 => ?_)
            have hraw_71 : va_at (dC, dI) vwCl (r0, .inr (10, [.ref H_30.size, .null, .int 0, .int 0, .int (-1)])) H_71 := hraw_71
            clear hh_69
            have hle_72 : jLe G_59 (va_up G_59 r0 (some (10, 0))) := jLe.typ hraw_70x.2
            have hg_73 := hle_72 _ _ hg_61
            have hg_74 := hle_72 _ _ hgq_59_0
            have hg_75 := hle_72 _ _ hg_62
            have hg_76 := hle_72 _ _ hg_63
            have hg_77 := hle_72 _ _ hg_64
            have hg_78 := hle_72 _ _ hg_65
            have hg_79 := hle_72 _ _ hg_66
            have hg_80 := hle_72 _ _ hg_67
            have hg_81 := hle_72 _ _ hg_68
            have hg_82 := (jLe.rf).tr hle_72 _ _ hgc_59
            have hfa_72 : jRn (va_up G_59 r0 (some (10, 0))) 2 0 (.ref H_30.size) ∧ jRn (va_up G_59 r0 (some (10, 0))) 3 0 (.null) ∧ jIa (.int 0) ∧ jZb (.int 0) ∧ jIa (.int (-1)) ∧ True := ⟨Or.inr ⟨_, rfl, hg_82⟩, Or.inl rfl, ⟨_, rfl⟩, ⟨_, rfl, Or.inl rfl⟩, ⟨_, rfl⟩, trivial⟩
            have hh_72 := hh_71.typ (k := 10) (n := 0) hB hraw_70x.2 hbr0 hraw_71.lt (jOb.of (C := RX8) (T := TX8) (N := 5) (F := F10) hB10 rfl hraw_71 (show jFx (F10 0 (va_up G_59 r0 (some (10, 0)))) [.ref H_30.size, .null, .int 0, .int 0, .int (-1)] from hfa_72))
            have hgn_72 : (va_up G_59 r0 (some (10, 0))) r0 = some (10, 0) := jUp_self
            have hN_72 : (jNk [0, 1, 3, 4, 5, 6, 7, 8, 9, 11, 12, 13, 14, 15, 16]) G_59 (va_up G_59 r0 (some (10, 0))) := jNk.new (by decide)
            have hNn_72 : (jNk [0, 1, 3, 4, 5, 6, 7, 8, 9, 11, 12, 13, 14, 15, 16]) G0 (va_up G_59 r0 (some (10, 0))) := (hNn_59).tr hN_72
            have hg_83 := (hle_72) _ _ hgc_59
            have hh_84 := hh_72.more (P1 := [(r0, 10, 0, .ref H_30.size), (r0, 10, 1, .null), (r0, 10, 2, .int 0), (r0, 10, 3, .int 0), (r0, 10, 4, .int (-1))]) (jP.cons hgn_72 (jf.raw (C := RX8) (T := TX8) (N := 5) rfl hraw_71 (i := 0) (by decide)) (jP.cons hgn_72 (jf.raw (C := RX8) (T := TX8) (N := 5) rfl hraw_71 (i := 1) (by decide)) (jP.cons hgn_72 (jf.raw (C := RX8) (T := TX8) (N := 5) rfl hraw_71 (i := 2) (by decide)) (jP.cons hgn_72 (jf.raw (C := RX8) (T := TX8) (N := 5) rfl hraw_71 (i := 3) (by decide)) (jP.cons hgn_72 (jf.raw (C := RX8) (T := TX8) (N := 5) rfl hraw_71 (i := 4) (by decide)) jP.nil)))))
            have hM_72 : jNk [1, 2, 11] G_59 (va_up G_59 r0 (some (10, 0))) := jNk.new (by decide)
            have hd_85 := jYb.grow (hh_84.iv 0 rfl) hle_72 hM_72 (by decide)
            have hh_86 := hh_84.sub (L1 := [(r0, 10, 0, .ref H_30.size), (r0, 10, 1, .null), (r0, 10, 2, .int 0), (r0, 10, 3, .int 0), (r0, 10, 4, .int (-1)), (H_30.size, 2, 1, .int qc_59), (H_30.size, 2, 0, .ref qa_59), (r1, 6, 7, .int pv), (r1, 6, 8, .int pu), (r1, 6, 0, .ref wk), (r1, 6, 1, .ref wi), (r1, 6, 2, .ref wz), (r1, 6, 3, .ref jnx), (r1, 6, 4, .ref jkf), (r1, 6, 5, .ref jks), (r1, 6, 6, .ref jun)]) [0, 1, 2, 3, 4, 5, 6, 7, 8, 9, 10, 11, 12, 13, 14, 15] rfl (M1 := [(wk, 140, 1502, ca 1, fk), (wi, 141, 1502, ca 1, fi), (wz, 142, 1502, ca 1, fz), (jnx, 143, 1502, ca 1, fn), (jkf, 144, 1502, ca 1, fa), (jks, 145, 1502, ca 1, fs), (jun, 146, 3000, ca 1, fu)]) [0, 1, 2, 3, 4, 5, 6] rfl (I1 := [([(2, 0), (2, 1)], jOl (dC, dI) G0 2 [] s.heap)]) [1] rfl
            clear hh_84
            have hh_87 := hh_86.addI (jYb.ie hd_85)
            clear hh_86
            refine lv_iload_n hx hb dX8_init_76 rfl (lv_at hl 1 rfl) ?_
            refine lv_if_eq (tgt := 95) hx hb dX8_init_77 (by decide) (fun c_88 => ?_) (fun c_88 => ?_)
            · skip
              refine lv_iload hx hb dX8_init_95 (lv_at hl 0 rfl) ?_
              refine lv_if_eq (tgt := 120) hx hb dX8_init_97 (by decide) (fun c_89 => ?_) (fun c_89 => ?_)
              · skip
                exact absurd c_89 (by decide)
              · skip
                refine lv_aload_n hx hb dX8_init_100 rfl (lv_at hl 3 rfl) ?_
                refine lv_iload_n hx hb dX8_init_101 rfl (lv_at hl 4 rfl) ?_
                have hsz_90 := hh_87.2.2.2.2.2.1
                have htt_90 := hh_87.2.2.2.2.2.2.1
                refine W.room (fun hrc_90 hrs_90 => ?_)
                refine j_callx (A0 := jA base) (H0 := s.heap) (va_runV (As := [.int a2]) (rest := []) ⟨hx, hb, hml, hown, hts⟩ (uX4_unitsOfS l dC dI ca base B hB hAp hB6 hB101 hB140 hB141 hB142 hB146 (va_up G_59 r0 (some (10, 0))) H_71 r1 a2 pv wk wi wz fk fi fz LC LS) (cwV 1 hts (jgV (jWr_24 _ (List.mem_of_getElem? (i := 23) rfl)) (jWr_25 _ (List.mem_of_getElem? (i := 0) rfl)) (jWr_25 _ (List.mem_of_getElem? (i := 1) rfl)) (jWr_1 _ (List.mem_of_getElem? (i := 22) rfl)) (jWr_25 _ (List.mem_of_getElem? (i := 2) rfl))) rfl rfl rfl (by decide +kernel) ⟨by rw [← hR]; exact Nat.le_of_ble_eq_true rfl, by rw [← hR]; exact Nat.le_of_ble_eq_true rfl⟩) ⟨fun a U g mk q => by obtain ⟨q0, q1, q2, qK, q10, q11, q12, q13, q14, q15, q16⟩ := q; exact ⟨q0, q1, q2, jG.calling g mk a qK, q10, q11, q12, q13, q14, q15, q16⟩, hh_87.recv (C := RX4) (T := TX4) (N := 12) hB6 rfl (by decide) hg_73 hK, fun U hU hW => ⟨rfl, hU, hh_87.2.1, hG.step hW hU hh_87.1, hg_73, hg_75, hg_76, hg_77, (hh_87.2.2.1.sub (L1 := [(r1, 6, 7, .int pv), (r1, 6, 0, .ref wk), (r1, 6, 1, .ref wi), (r1, 6, 2, .ref wz)]) [7, 9, 10, 11] rfl), (hh_87.2.2.2.2.2.2.2.1.sub (L1 := [(wk, 140, 1502, ca 1, fk), (wi, 141, 1502, ca 1, fi), (wz, 142, 1502, ca 1, fz)]) [0, 1, 2] rfl), (by omega), (by omega), by first | omega | (refine ⟨?_, ?_, ?_⟩ <;> (first | omega | rfl | assumption | decide | exact Or.inl rfl | exact Or.inr rfl | (simp only; omega)))⟩⟩ rfl rfl hl.1 rfl (lv_room (Nat.le_of_ble_eq_true rfl)) dX8_init_102 ⟨by rw [hRc]; omega, by rw [hRs]; omega⟩) hh_87.1 (fun q _ h => h) (fun q h => h) (fun r_91 u_90 t_90 H_90 locs_90 ht_90 hvm_90 hr_91 hb_90 hz_90 hk_90 hS_90 => ?_)
                rw [ht_90] at hb_90
                obtain ⟨m_ret_90, G_90⟩ := u_90
                simp only at hb_90
                obtain ⟨⟨hb_901, hb_902, hb_903, hb_904, hb_905, hb_906⟩, hN_90⟩ := hb_90
                have hY_90 := hN_90
                have hN_90 : (jNk [0, 1, 3, 4, 5, 6, 7, 8, 9, 11, 12, 13, 14, 15, 16]) (va_up G_59 r0 (some (10, 0))) G_90 := hN_90.sub (by decide)
                have hh_90 : jSt (dC, dI) B base G0 G_90 EX8_initU s.heap (((0 + 1) + (1)) + (1)) (((0 + 2) + ((16 : Int).toNat)) + (m_ret_90)) [(r0, 10, 0, .ref H_30.size), (r0, 10, 1, .null), (r0, 10, 2, .int 0), (r0, 10, 3, .int 0), (r0, 10, 4, .int (-1)), (H_30.size, 2, 1, .int qc_59), (H_30.size, 2, 0, .ref qa_59), (r1, 6, 7, .int pv), (r1, 6, 8, .int pu), (r1, 6, 0, .ref wk), (r1, 6, 1, .ref wi), (r1, 6, 2, .ref wz), (r1, 6, 3, .ref jnx), (r1, 6, 4, .ref jkf), (r1, 6, 5, .ref jks), (r1, 6, 6, .ref jun)] [(wk, 140, 1502, ca 1, fk), (wi, 141, 1502, ca 1, fi), (wz, 142, 1502, ca 1, fz), (jnx, 143, 1502, ca 1, fn), (jkf, 144, 1502, ca 1, fa), (jks, 145, 1502, ca 1, fs), (jun, 146, 3000, ca 1, fu)] [(jFy, jYb dC dI (va_up G_59 r0 (some (10, 0)))), ([(2, 0), (2, 1)], jOl (dC, dI) G0 2 [] s.heap)] H_90 locs_90 := (hh_87.callG hb_901 hb_902 hb_903 hb_904 hb_905 hS_90 rfl (L1 := [(r0, 10, 0, .ref H_30.size), (r0, 10, 1, .null), (r0, 10, 2, .int 0), (r0, 10, 3, .int 0), (r0, 10, 4, .int (-1)), (H_30.size, 2, 1, .int qc_59), (H_30.size, 2, 0, .ref qa_59), (r1, 6, 7, .int pv), (r1, 6, 8, .int pu), (r1, 6, 0, .ref wk), (r1, 6, 1, .ref wi), (r1, 6, 2, .ref wz), (r1, 6, 3, .ref jnx), (r1, 6, 4, .ref jkf), (r1, 6, 5, .ref jks), (r1, 6, 6, .ref jun)]) [0, 1, 2, 3, 4, 5, 6, 7, 8, 9, 10, 11, 12, 13, 14, 15] rfl rfl (M1 := [(wk, 140, 1502, ca 1, fk), (wi, 141, 1502, ca 1, fi), (wz, 142, 1502, ca 1, fz), (jnx, 143, 1502, ca 1, fn), (jkf, 144, 1502, ca 1, fa), (jks, 145, 1502, ca 1, fs), (jun, 146, 3000, ca 1, fu)]) [0, 1, 2, 3, 4, 5, 6] rfl rfl (I1 := [(jFy, jYb dC dI (va_up G_59 r0 (some (10, 0)))), ([(2, 0), (2, 1)], jOl (dC, dI) G0 2 [] s.heap)]) [0, 1] rfl rfl).more hb_906
                have hNn_90 : (jNk [0, 1, 3, 4, 5, 6, 7, 8, 9, 11, 12, 13, 14, 15, 16]) G0 G_90 := (hNn_72).tr hN_90
                have hg_92 := hb_902 _ _ hgn_72
                have hg_93 := hb_902 _ _ hg_73
                have hg_94 := hb_902 _ _ hg_83
                have hg_95 := hb_902 _ _ hg_74
                have hg_96 := hb_902 _ _ hg_75
                have hg_97 := hb_902 _ _ hg_76
                have hg_98 := hb_902 _ _ hg_77
                have hg_99 := hb_902 _ _ hg_78
                have hg_100 := hb_902 _ _ hg_79
                have hg_101 := hb_902 _ _ hg_80
                have hg_102 := hb_902 _ _ hg_81
                have hd_103 := jYb.grow (hh_90.iv 0 rfl) hb_902 hY_90 (by decide)
                have hh_104 := hh_90.sub (L1 := [(r0, 10, 0, .ref H_30.size), (r0, 10, 1, .null), (r0, 10, 2, .int 0), (r0, 10, 3, .int 0), (r0, 10, 4, .int (-1)), (H_30.size, 2, 1, .int qc_59), (H_30.size, 2, 0, .ref qa_59), (r1, 6, 7, .int pv), (r1, 6, 8, .int pu), (r1, 6, 0, .ref wk), (r1, 6, 1, .ref wi), (r1, 6, 2, .ref wz), (r1, 6, 3, .ref jnx), (r1, 6, 4, .ref jkf), (r1, 6, 5, .ref jks), (r1, 6, 6, .ref jun)]) [0, 1, 2, 3, 4, 5, 6, 7, 8, 9, 10, 11, 12, 13, 14, 15] rfl (M1 := [(wk, 140, 1502, ca 1, fk), (wi, 141, 1502, ca 1, fi), (wz, 142, 1502, ca 1, fz), (jnx, 143, 1502, ca 1, fn), (jkf, 144, 1502, ca 1, fa), (jks, 145, 1502, ca 1, fs), (jun, 146, 3000, ca 1, fu)]) [0, 1, 2, 3, 4, 5, 6] rfl (I1 := [([(2, 0), (2, 1)], jOl (dC, dI) G0 2 [] s.heap)]) [1] rfl
                clear hh_90
                have hh_105 := hh_104.addI (jYb.ie hd_103)
                clear hh_104
                obtain ⟨hr_91, hr_91n, hr_91p⟩ := hr_91
                try simp only at hr_91p
                obtain ⟨hr_91p_0, hr_91p_1⟩ := hr_91p
                obtain ⟨ret_106, rfl, hg_ret_106⟩ := hr_91
                have hsy_90 : s.heap.size ≤ ret_106 := Nat.le_trans hh_87.1.1 hr_91n.le
                refine lv_astore (lv' := [(5, .ref ret_106), (4, .int 1), (3, .int 0), (0, .ref r0), (1, .ref r1), (2, .int a2)]) hx hb dX8_init_105 hl (by decide) rfl (fun ls hl => ?_)
                refine lv_aload_n hx hb dX8_init_107 rfl (lv_at hl 3 rfl) ?_
                refine j7_read hx hb hown hK (C := RX8) (T := TX8) (N := 5) rfl hly_10_0 hlk_29 (hh_105.at 0 rfl) dX8_init_108 ?_
                refine lv_aload hx hb dX8_init_111 (lv_at hl 0 rfl) ?_
                refine lv_iconst (v := 0) hx hb dX8_init_113 (by decide) ?_
                refine lv_aload hx hb dX8_init_114 (lv_at hl 0 rfl) ?_
                refine j7_len hx hb hK hh_105 hB101 1 rfl (by decide) hg_ret_106 (by omega) dX8_init_116 (fun z_107 hz_107 => ?_)
                have hsz_108 := hh_105.2.2.2.2.2.1
                have htt_108 := hh_105.2.2.2.2.2.2.1
                refine W.room (fun hrc_108 hrs_108 => ?_)
                refine va_callv (A0 := jA base) (H0 := s.heap) (va_runV (As := [.ref ret_106, .int 0, .int z_107]) (rest := []) ⟨hx, hb, hml, hown, hts⟩ (uX0_quotedS l dC dI ca base B hB hAp hB2 hB101 hB196 G_90 H_90 H_30.size ret_106 0 z_107 m_ret_90 qc_59 qa_59 m_qa_59 LC LS) (cwV 3 hts (jgV (jWr_25 _ (List.mem_of_getElem? (i := 9) rfl)) (jWr_25 _ (List.mem_of_getElem? (i := 10) rfl)) (jWr_25 _ (List.mem_of_getElem? (i := 11) rfl)) (jWr_1 _ (List.mem_of_getElem? (i := 14) rfl)) (jWr_25 _ (List.mem_of_getElem? (i := 12) rfl))) rfl rfl rfl (by decide +kernel) ⟨by rw [← hR]; exact Nat.le_of_ble_eq_true rfl, by rw [← hR]; exact Nat.le_of_ble_eq_true rfl⟩) ⟨fun a U g mk q => by obtain ⟨q0, q1, q2, qK, q10, q11, q12, q13, q14⟩ := q; exact ⟨q0, q1, q2, jG.calling g mk a qK, q10, q11, q12, q13, q14⟩, hh_105.recv (C := RX0) (T := TX0) (N := 2) hB2 rfl (by decide) hg_94 hK, fun U hU hW => ⟨rfl, hU, hh_105.2.1, hG.step hW hU hh_105.1, hg_94, hg_ret_106, hg_95, (hh_105.2.2.1.sub (L1 := [(H_30.size, 2, 1, .int qc_59), (H_30.size, 2, 0, .ref qa_59)]) [5, 6] rfl), (by omega), (by omega), ⟨(by first | omega | rfl | assumption | exact jPw.z16.cg (by omega)), (by first | omega | rfl | assumption | exact jPw.z16.cg (by omega)), (by first | omega | rfl | assumption | exact jPw.z16.cg (by omega)), (by first | omega | rfl | assumption | exact jPw.z16.cg (by omega)), (by first | assumption | exact jPw.z16.cg (by omega) | omega), (by first | omega | rfl | assumption | exact jPw.z16.cg (by omega)), (by first | omega | rfl | assumption | exact jPw.z16.cg (by omega)), (by first | omega | rfl | assumption | exact jPw.z16.cg (by omega)), (by first | omega | rfl | assumption | exact jPw.z16.cg (by omega))⟩⟩⟩ rfl rfl hl.1 rfl (lv_room (Nat.le_of_ble_eq_true rfl)) dX8_init_117 ⟨by rw [hRc]; omega, by rw [hRs]; omega⟩) hh_105.1 (fun q _ h => h) (fun q h => h) (fun u_108 t_108 H_108 locs_108 ht_108 hvm_108 hr_109 hb_108 hz_108 hk_108 hS_108 => ?_)
                obtain ⟨qc_108, qa_108, m_qa_108, G_108⟩ := u_108
                rw [ht_108] at hb_108
                simp only at hb_108
                obtain ⟨⟨hb_1081, hb_1082, hb_1083, hb_1084, hb_1085, hb_1086⟩, hgq_108_0, hN_108, hbO_108⟩ := hb_108
                have hY_108 := hN_108
                have hN_108 : (jNk [0, 1, 3, 4, 5, 6, 7, 8, 9, 11, 12, 13, 14, 15, 16]) G_90 G_108 := hN_108.sub (by decide)
                have hy_110 := hh_105.iv 0 rfl
                have hh_108 : jSt (dC, dI) B base G0 G_108 EX8_initU s.heap ((((0 + 1) + (1)) + (1)) + ((m_qa_108 - m_qa_59) / 16)) ((((0 + 2) + ((16 : Int).toNat)) + (m_ret_90)) + (2 * (m_qa_108 - m_qa_59))) [(H_30.size, 2, 1, .int qc_108), (H_30.size, 2, 0, .ref qa_108), (r0, 10, 0, .ref H_30.size), (r0, 10, 1, .null), (r0, 10, 2, .int 0), (r0, 10, 3, .int 0), (r0, 10, 4, .int (-1)), (r1, 6, 7, .int pv), (r1, 6, 8, .int pu), (r1, 6, 0, .ref wk), (r1, 6, 1, .ref wi), (r1, 6, 2, .ref wz), (r1, 6, 3, .ref jnx), (r1, 6, 4, .ref jkf), (r1, 6, 5, .ref jks), (r1, 6, 6, .ref jun)] [(wk, 140, 1502, ca 1, fk), (wi, 141, 1502, ca 1, fi), (wz, 142, 1502, ca 1, fz), (jnx, 143, 1502, ca 1, fn), (jkf, 144, 1502, ca 1, fa), (jks, 145, 1502, ca 1, fs), (jun, 146, 3000, ca 1, fu)] [] H_108 locs_108 := (hh_105.callG hb_1081 hb_1082 hb_1083 hb_1084 hb_1085 hS_108 rfl (L1 := [(r0, 10, 0, .ref H_30.size), (r0, 10, 1, .null), (r0, 10, 2, .int 0), (r0, 10, 3, .int 0), (r0, 10, 4, .int (-1)), (r1, 6, 7, .int pv), (r1, 6, 8, .int pu), (r1, 6, 0, .ref wk), (r1, 6, 1, .ref wi), (r1, 6, 2, .ref wz), (r1, 6, 3, .ref jnx), (r1, 6, 4, .ref jkf), (r1, 6, 5, .ref jks), (r1, 6, 6, .ref jun)]) [0, 1, 2, 3, 4, 7, 8, 9, 10, 11, 12, 13, 14, 15] rfl rfl (M1 := [(wk, 140, 1502, ca 1, fk), (wi, 141, 1502, ca 1, fi), (wz, 142, 1502, ca 1, fz), (jnx, 143, 1502, ca 1, fn), (jkf, 144, 1502, ca 1, fa), (jks, 145, 1502, ca 1, fs), (jun, 146, 3000, ca 1, fu)]) [0, 1, 2, 3, 4, 5, 6] rfl rfl (I1 := []) [] rfl rfl).more hb_1086
                have hNn_108 : (jNk [0, 1, 3, 4, 5, 6, 7, 8, 9, 11, 12, 13, 14, 15, 16]) G0 G_108 := (hNn_90).tr hN_108
                have hg_111 := hb_1082 _ _ hg_ret_106
                have hg_112 := hb_1082 _ _ hg_92
                have hg_113 := hb_1082 _ _ hg_93
                have hg_114 := hb_1082 _ _ hg_94
                have hg_115 := hb_1082 _ _ hg_96
                have hg_116 := hb_1082 _ _ hg_97
                have hg_117 := hb_1082 _ _ hg_98
                have hg_118 := hb_1082 _ _ hg_99
                have hg_119 := hb_1082 _ _ hg_100
                have hg_120 := hb_1082 _ _ hg_101
                have hg_121 := hb_1082 _ _ hg_102
                have hd_122 := jOl.trN (hh_105.iv 1 rfl) hh_105.2.2.2.2.1 hbO_108 (hnew0 _ hsy_55)
                have hh_123 := hh_108.addI (jOl.ie (dC := dC) (dI := dI) (G0 := G0) (k := 2) (rs := []) (H0 := s.heap) (F := [(2, 0), (2, 1)]) (C := RX0) (T := TX0) (N := 2) rfl (by decide) hh_108.2.2.2.2.1 (hd_122))
                clear hh_108
                have hyp_108 : qc_108.toInt ≤ (m_qa_108 : Nat) ∧ m_qa_108 ≤ 1048576 := by (try simp only at hr_109); omega
                have hy_124 := jYb.own hy_110 hbO_108 hb_1082 hY_108 (by decide) (fun _ => ⟨_, _, _, hh_123.at 0 rfl, hh_123.at 1 rfl, hgq_108_0, hyp_108⟩)
                have hh_125 := hh_123.addI (jYb.ie hy_124)
                clear hh_123
                try simp only at hr_109
                obtain ⟨hr_109_0, hr_109_1, hr_109_2, hr_109_3, hr_109_4, hr_109_5⟩ := hr_109
                have hsz_126 := hh_125.2.2.2.2.2.1
                have htt_126 := hh_125.2.2.2.2.2.2.1
                refine W.room (fun hrc_126 hrs_126 => ?_)
                refine W.widen (k := LC - s.heap.size) (n := LS - jTot s.heap) (by omega) (by omega) ?_
                rw [hQ]
                exact W.vret hx hb hr (fun t ht hW => ⟨⟨G_108, rfl, trivial, ⟨hh_125.ra (by first | (simp only; omega) | omega) (by first | (simp only; omega) | omega) (M1 := []) [] rfl ht, hNn_108, by rw [ht]; exact hh_125.iv 1 rfl, hg_112, by rw [ht]; exact hh_125.2.2.2.2.2.2.2.2.sub (L1 := [(jFy, jYb dC dI G_108)]) [0] rfl, by rw [ht]; exact Or.inl ⟨Or.inr ⟨by rw [← hk26]; omega, by rw [← hz35]; omega⟩, H_30.size, hg_114, hh_125.at 2 rfl⟩⟩⟩, by rw [ht]; try exact hh_125.1.1, fun q h9 hq => by rw [ht]; try exact hh_125.1.2.1 q h9 hq⟩) hh_125.1.2.2 dX8_init_120
            · skip
              exact absurd c_88 (by decide)
  · skip
    have c_6' : r_4.toInt = 4 := jb_ne_n (rfl) ((by decide)) c_6
    first | (have hr_4_0q := hr_4_0.resolve_left (by omega); clear hr_4_0) | (have hr_4_0q := hr_4_0.resolve_right (by omega); clear hr_4_0) | try clear hr_4_0
    refine lv_iconst (v := 1) hx hb dX8_init_18 (by decide) ?_
    refine lv_goto (tgt := 23) hx hb dX8_init_19 (by decide) ?_
    refine lv_istore_n (lv' := [(3, .int 1), (0, .ref r0), (1, .ref r1), (2, .int a2)]) hx hb dX8_init_23 rfl hl (by decide) rfl (fun ls hl => ?_)
    refine lv_aload_n hx hb dX8_init_24 rfl (lv_at hl 2 rfl) ?_
    refine lv_iload_n hx hb dX8_init_25 rfl (lv_at hl 3 rfl) ?_
    have hsz_127 := hh_3.2.2.2.2.2.1
    have htt_127 := hh_3.2.2.2.2.2.2.1
    refine W.room (fun hrc_127 hrs_127 => ?_)
    refine va_calli (A0 := jA base) (H0 := s.heap) (va_runV (As := [.int a2]) (rest := []) ⟨hx, hb, hml, hown, hts⟩ (uX4_kindOfJ l dC dI ca base B hB hAp hB6 hB140 G0 H_3 r1 a2 pv pu wk wi wz jnx jkf jks jun T9 fk fi fz fn fa fs fu) (cwV 1 hts (jgV (jWr_24 _ (List.mem_of_getElem? (i := 5) rfl)) (jWr_23 _ (List.mem_of_getElem? (i := 15) rfl)) (jWr_23 _ (List.mem_of_getElem? (i := 16) rfl)) (jWr_1 _ (List.mem_of_getElem? (i := 22) rfl)) (jWr_23 _ (List.mem_of_getElem? (i := 17) rfl))) rfl rfl rfl (by decide +kernel) ⟨by rw [← hR]; exact Nat.le_of_ble_eq_true rfl, by rw [← hR]; exact Nat.le_of_ble_eq_true rfl⟩) ⟨fun a U g mk q => by obtain ⟨q0, q1, q2, qK, q10, q11, q12, q13, q14, q15, q16, q17, q18, q19, q20⟩ := q; exact ⟨q0, q1, q2, jG.calling g mk a qK, q10, q11, q12, q13, q14, q15, q16, q17, q18, q19, q20⟩, hh_3.recv (C := RX4) (T := TX4) (N := 12) hB6 rfl (by decide) hg_r1 hK, fun U hU hW => ⟨rfl, hU, hh_3.2.1, hG.step hW hU hh_3.1, hg_r1, hg_wk, hg_wi, hg_wz, hg_jnx, hg_jkf, hg_jks, hg_jun, (hh_3.2.2.1.sub (L1 := [(r1, 6, 7, .int pv), (r1, 6, 8, .int pu), (r1, 6, 0, .ref wk), (r1, 6, 1, .ref wi), (r1, 6, 2, .ref wz), (r1, 6, 3, .ref jnx), (r1, 6, 4, .ref jkf), (r1, 6, 5, .ref jks), (r1, 6, 6, .ref jun)]) [0, 1, 2, 3, 4, 5, 6, 7, 8] rfl), (hh_3.2.2.2.2.2.2.2.1.sub (L1 := [(wk, 140, 1502, ca 1, fk), (wi, 141, 1502, ca 1, fi), (wz, 142, 1502, ca 1, fz), (jnx, 143, 1502, ca 1, fn), (jkf, 144, 1502, ca 1, fa), (jks, 145, 1502, ca 1, fs), (jun, 146, 3000, ca 1, fu)]) [0, 1, 2, 3, 4, 5, 6] rfl), by first | omega | (refine ⟨?_, ?_, ?_, ?_, ?_⟩ <;> (first | omega | rfl | assumption | decide | exact Or.inl rfl | exact Or.inr rfl | (simp only; omega)))⟩⟩ rfl rfl hl.1 rfl (lv_room (Nat.le_of_ble_eq_true rfl)) dX8_init_26 ⟨by rw [hRc]; show _ + 0 ≤ _; omega, by rw [hRs]; show _ + 0 ≤ _; omega⟩) hh_3.1 (fun q _ h => h) (fun q h => h) (fun r_128 u_127 t_127 H_127 locs_127 ht_127 hvm_127 hr_128 hb_127 hz_127 hk_127 hS_127 => ?_)
    rw [ht_127] at hb_127
    obtain ⟨hb_127, hbF_127⟩ := hb_127
    obtain ⟨hb_1271, hb_1272, hb_1273, hb_1274, hb_1275⟩ := hb_127
    have hh_127 : jSt (dC, dI) B base G0 G0 EX8_initU s.heap 0 0 [(r1, 6, 7, .int pv), (r1, 6, 8, .int pu), (r1, 6, 0, .ref wk), (r1, 6, 1, .ref wi), (r1, 6, 2, .ref wz), (r1, 6, 3, .ref jnx), (r1, 6, 4, .ref jkf), (r1, 6, 5, .ref jks), (r1, 6, 6, .ref jun)] [(wk, 140, 1502, ca 1, fk), (wi, 141, 1502, ca 1, fi), (wz, 142, 1502, ca 1, fz), (jnx, 143, 1502, ca 1, fn), (jkf, 144, 1502, ca 1, fa), (jks, 145, 1502, ca 1, fs), (jun, 146, 3000, ca 1, fu)] [([(2, 0), (2, 1)], jOl (dC, dI) G0 2 [] s.heap), (jFy, jYb dC dI G0)] H_127 locs_127 := ((hh_3.call hb_1271 hb_1272 hb_1273 hb_1274 hS_127 rfl (L1 := [(r1, 6, 7, .int pv), (r1, 6, 8, .int pu), (r1, 6, 0, .ref wk), (r1, 6, 1, .ref wi), (r1, 6, 2, .ref wz), (r1, 6, 3, .ref jnx), (r1, 6, 4, .ref jkf), (r1, 6, 5, .ref jks), (r1, 6, 6, .ref jun)]) [0, 1, 2, 3, 4, 5, 6, 7, 8] rfl rfl (M1 := [(wk, 140, 1502, ca 1, fk), (wi, 141, 1502, ca 1, fi), (wz, 142, 1502, ca 1, fz), (jnx, 143, 1502, ca 1, fn), (jkf, 144, 1502, ca 1, fa), (jks, 145, 1502, ca 1, fs), (jun, 146, 3000, ca 1, fu)]) [0, 1, 2, 3, 4, 5, 6] rfl rfl (I1 := [([(2, 0), (2, 1)], jOl (dC, dI) G0 2 [] s.heap), (jFy, jYb dC dI G0)]) [0, 1] rfl rfl).more hb_1275)
    clear hh_3 ht_127 hvm_127 hz_127 hk_127 hS_127 hb_1271 hb_1272 hb_1273 hb_1274 hb_1275
    have hraw_129 := hraw_5.kept (hbF_127 _ (by simp))
    obtain ⟨hr_128_0, hr_128_1⟩ := hr_128
    have hk26 := hr_128_1
    refine lv_iconst (v := 3) hx hb dX8_init_29 (by decide) ?_
    refine lv_icmp_ne (tgt := 47) hx hb dX8_init_30 (by decide) (fun c_130 => ?_) (fun c_130 => ?_)
    · skip
      have c_130' : r_128.toInt ≠ 3 := jb_ne (rfl) ((by decide)) c_130
      try clear hr_128_0
      refine lv_iconst (v := 0) hx hb dX8_init_47 (by decide) ?_
      refine lv_istore (lv' := [(4, .int 0), (3, .int 1), (0, .ref r0), (1, .ref r1), (2, .int a2)]) hx hb dX8_init_48 hl (by decide) rfl (fun ls hl => ?_)
      refine lv_aload_n hx hb dX8_init_50 rfl (lv_at hl 2 rfl) ?_
      refine lv_iload_n hx hb dX8_init_51 rfl (lv_at hl 1 rfl) ?_
      refine lv_if_ne (tgt := 60) hx hb dX8_init_52 (by decide) (fun c_131 => ?_) (fun c_131 => ?_)
      · skip
        have hsz_132 := hh_127.2.2.2.2.2.1
        have htt_132 := hh_127.2.2.2.2.2.2.1
        refine j7_newo (k := 2) (C := RX0) (T := TX0) (N := 2) (fs := [.null, .int 0]) hx hb htw jWc_wsX00 (fun k => ([(.array .byte), .int] : List FieldType).getD k .int) (by decide +kernel) hown (htw (.classLink RX8 24 RX0) (jWr_24 _ (List.mem_of_getElem? (i := 3) rfl))) (htw (.instantiable RX0 2) (jWr_1 _ (List.mem_of_getElem? (i := 13) rfl))) (htw (.initialized RX0) (jWr_1 _ (List.mem_of_getElem? (i := 14) rfl))) hK rfl (fun j hj => by rcases (by omega : j = 0 ∨ j = 1) with rfl | rfl <;> rfl) hh_127 hB (by rw [hRc]; omega) (by rw [hRs]; omega) dX8_init_60 (fun H_132 hraw_132 hfr_132 hnr_132 hh_132 => ?_)
        have hlt_133 := hraw_129.lt
        have hke_132 : jKe G0 G0 H_127 H_132 := jKe.raw hfr_132
        have hbr_132 : base ≤ H_127.size := Nat.le_trans hbs hh_127.1.1
        have hsy_132 : s.heap.size ≤ H_127.size := hh_127.1.1
        clear hh_127
        have hraw_134n := hke_132.nr hraw_129.lt hnr0
        have hraw_134 := hraw_129.kept (hke_132.1 _ hraw_129.lt)
        have hne_135 : r0 ≠ H_127.size := Nat.ne_of_lt hlt_133
        refine lv_dup hx hb dX8_init_63 rfl ?_
        refine lv_bipush (v := 16) hx hb dX8_init_64 (by decide) ?_
        have hsz_136 := hh_132.2.2.2.2.2.1
        have htt_136 := hh_132.2.2.2.2.2.2.1
        refine W.room (fun hrc_136 hrs_136 => ?_)
        refine va_callv (A0 := jA base) (H0 := s.heap) (va_runI (As := [.int 16]) (rest := [.ref H_127.size, .ref r0]) ⟨hx, hb, hml, hown, hts⟩ (uX0_initY l dC dI ca base B hB hAp hB2 hB196 G0 H_132 H_127.size 16 0 LC LS) (cwI 1 hts (jgW (jWr_3 _ (List.mem_of_getElem? (i := 3) rfl))) rfl rfl rfl (htw (.initialized RX0) (jWr_1 _ (List.mem_of_getElem? (i := 14) rfl))) (htw (.methodLink RX8 26 yX0_init) (jWr_24 _ (List.mem_of_getElem? (i := 10) rfl))) (htw (.instanceMethod yX0_init) (jWr_3 _ (List.mem_of_getElem? (i := 2) rfl))) rfl (by decide +kernel) ⟨by rw [← hR]; exact Nat.le_of_ble_eq_true rfl, by rw [← hR]; exact Nat.le_of_ble_eq_true rfl⟩) ⟨fun a U g mk q => by obtain ⟨q0, q1, q2, qK, q10, q11, q12, q13, q14, q15⟩ := q; exact ⟨q0, q1, q2, jG.calling g mk a qK, q10, q11, q12, q13, q14, q15⟩, fun U hU hW => ⟨rfl, hU, hh_132.2.1, hG.step hW hU hh_132.1, hraw_132, hnr_132, hbr_132, jP.nil, (hh_132.2.2.2.2.2.2.2.2.sub (L1 := [(jFy, jYb dC dI G0)]) [1] rfl), (by omega), (by omega), ⟨(by first | omega | rfl | assumption | exact fun _ => jPw.z16), (by first | omega | rfl | assumption | exact fun _ => jPw.z16), (by first | omega | rfl | assumption | exact fun _ => jPw.z16), (by first | assumption | exact fun _ => jPw.z16 | omega), (by first | omega | rfl | assumption | exact fun _ => jPw.z16)⟩⟩⟩ rfl rfl hl.1 rfl (lv_room (Nat.le_of_ble_eq_true rfl)) dX8_init_66 ⟨by rw [hRc]; omega, by rw [hRs]; omega⟩) hh_132.1 (fun q _ h => h) (fun q h => h) (fun u_136 t_136 H_136 locs_136 ht_136 hvm_136 hr_137 hb_136 hz_136 hk_136 hS_136 => ?_)
        obtain ⟨qc_136, qa_136, m_qa_136, G_136⟩ := u_136
        rw [ht_136] at hb_136
        simp only at hb_136
        obtain ⟨⟨hb_1361, hb_1362, hb_1363, hb_1364, hb_1365, hb_1366⟩, hgq_136_0, hN_136, hgc_136, hbX_136, hbE_136⟩ := hb_136
        have hN_136 : (jNk [0, 1, 3, 4, 5, 6, 7, 8, 9, 11, 12, 13, 14, 15, 16]) G0 G_136 := hN_136.sub (by decide)
        have hh_136 : jSt (dC, dI) B base G0 G_136 EX8_initU s.heap ((0 + 1) + (1)) ((0 + 2) + ((16 : Int).toNat)) [(H_127.size, 2, 1, .int qc_136), (H_127.size, 2, 0, .ref qa_136), (r1, 6, 7, .int pv), (r1, 6, 8, .int pu), (r1, 6, 0, .ref wk), (r1, 6, 1, .ref wi), (r1, 6, 2, .ref wz), (r1, 6, 3, .ref jnx), (r1, 6, 4, .ref jkf), (r1, 6, 5, .ref jks), (r1, 6, 6, .ref jun)] [(wk, 140, 1502, ca 1, fk), (wi, 141, 1502, ca 1, fi), (wz, 142, 1502, ca 1, fz), (jnx, 143, 1502, ca 1, fn), (jkf, 144, 1502, ca 1, fa), (jks, 145, 1502, ca 1, fs), (jun, 146, 3000, ca 1, fu)] [([(2, 0), (2, 1)], jOl (dC, dI) G0 2 [] s.heap)] H_136 locs_136 := (hh_132.callG hb_1361 hb_1362 hb_1363 hb_1364 hb_1365 hS_136 rfl (L1 := [(r1, 6, 7, .int pv), (r1, 6, 8, .int pu), (r1, 6, 0, .ref wk), (r1, 6, 1, .ref wi), (r1, 6, 2, .ref wz), (r1, 6, 3, .ref jnx), (r1, 6, 4, .ref jkf), (r1, 6, 5, .ref jks), (r1, 6, 6, .ref jun)]) [0, 1, 2, 3, 4, 5, 6, 7, 8] rfl rfl (M1 := [(wk, 140, 1502, ca 1, fk), (wi, 141, 1502, ca 1, fi), (wz, 142, 1502, ca 1, fz), (jnx, 143, 1502, ca 1, fn), (jkf, 144, 1502, ca 1, fa), (jks, 145, 1502, ca 1, fs), (jun, 146, 3000, ca 1, fu)]) [0, 1, 2, 3, 4, 5, 6] rfl rfl (I1 := [([(2, 0), (2, 1)], jOl (dC, dI) G0 2 [] s.heap)]) [0] rfl rfl).more hb_1366
        have hNn_136 : (jNk [0, 1, 3, 4, 5, 6, 7, 8, 9, 11, 12, 13, 14, 15, 16]) G0 G_136 := (jNk.rf).tr hN_136
        have hg_138 := hb_1362 _ _ hg_r1
        have hg_139 := hb_1362 _ _ hg_wk
        have hg_140 := hb_1362 _ _ hg_wi
        have hg_141 := hb_1362 _ _ hg_wz
        have hg_142 := hb_1362 _ _ hg_jnx
        have hg_143 := hb_1362 _ _ hg_jkf
        have hg_144 := hb_1362 _ _ hg_jks
        have hg_145 := hb_1362 _ _ hg_jun
        have hh_146 := hh_136.addIs hbE_136
        try simp only at hr_137
        obtain ⟨hr_137_0, hr_137_1⟩ := hr_137
        have hraw_147x := hbX_136.ke hraw_134.lt hne_135 hraw_134n
        have hraw_147 := hraw_134.kept hraw_147x.1
        refine lv_goto (tgt := 73) hx hb dX8_init_69 (by decide) ?_
        refine j7_putRF hx hb hown hK hh_146 hB hAp hraw_147 hraw_147x.2 hbr0 (C := RX8) (T := TX8) (N := 5) rfl (i := 0) (by decide) (Nat.le_of_ble_eq_true rfl) hly_10_0 rfl hin2 rfl hlk_29 (ty := (.object "ProofServer$Bytes")) (v := .ref H_127.size) (by decide +kernel) rfl rfl dX8_init_73 (fun H_148 locs_148 hraw_148 hr_148 hh_148 => ?_)
        have hraw_148 : va_at (dC, dI) vwCl (r0, .inr (10, [.ref H_127.size, .null, .int 0, .int 0, .int (-1)])) H_148 := hraw_148
        clear hh_146
        have hle_149 : jLe G_136 (va_up G_136 r0 (some (10, 0))) := jLe.typ hraw_147x.2
        have hg_150 := hle_149 _ _ hg_138
        have hg_151 := hle_149 _ _ hgq_136_0
        have hg_152 := hle_149 _ _ hg_139
        have hg_153 := hle_149 _ _ hg_140
        have hg_154 := hle_149 _ _ hg_141
        have hg_155 := hle_149 _ _ hg_142
        have hg_156 := hle_149 _ _ hg_143
        have hg_157 := hle_149 _ _ hg_144
        have hg_158 := hle_149 _ _ hg_145
        have hg_159 := (jLe.rf).tr hle_149 _ _ hgc_136
        have hfa_149 : jRn (va_up G_136 r0 (some (10, 0))) 2 0 (.ref H_127.size) ∧ jRn (va_up G_136 r0 (some (10, 0))) 3 0 (.null) ∧ jIa (.int 0) ∧ jZb (.int 0) ∧ jIa (.int (-1)) ∧ True := ⟨Or.inr ⟨_, rfl, hg_159⟩, Or.inl rfl, ⟨_, rfl⟩, ⟨_, rfl, Or.inl rfl⟩, ⟨_, rfl⟩, trivial⟩
        have hh_149 := hh_148.typ (k := 10) (n := 0) hB hraw_147x.2 hbr0 hraw_148.lt (jOb.of (C := RX8) (T := TX8) (N := 5) (F := F10) hB10 rfl hraw_148 (show jFx (F10 0 (va_up G_136 r0 (some (10, 0)))) [.ref H_127.size, .null, .int 0, .int 0, .int (-1)] from hfa_149))
        have hgn_149 : (va_up G_136 r0 (some (10, 0))) r0 = some (10, 0) := jUp_self
        have hN_149 : (jNk [0, 1, 3, 4, 5, 6, 7, 8, 9, 11, 12, 13, 14, 15, 16]) G_136 (va_up G_136 r0 (some (10, 0))) := jNk.new (by decide)
        have hNn_149 : (jNk [0, 1, 3, 4, 5, 6, 7, 8, 9, 11, 12, 13, 14, 15, 16]) G0 (va_up G_136 r0 (some (10, 0))) := (hNn_136).tr hN_149
        have hg_160 := (hle_149) _ _ hgc_136
        have hh_161 := hh_149.more (P1 := [(r0, 10, 0, .ref H_127.size), (r0, 10, 1, .null), (r0, 10, 2, .int 0), (r0, 10, 3, .int 0), (r0, 10, 4, .int (-1))]) (jP.cons hgn_149 (jf.raw (C := RX8) (T := TX8) (N := 5) rfl hraw_148 (i := 0) (by decide)) (jP.cons hgn_149 (jf.raw (C := RX8) (T := TX8) (N := 5) rfl hraw_148 (i := 1) (by decide)) (jP.cons hgn_149 (jf.raw (C := RX8) (T := TX8) (N := 5) rfl hraw_148 (i := 2) (by decide)) (jP.cons hgn_149 (jf.raw (C := RX8) (T := TX8) (N := 5) rfl hraw_148 (i := 3) (by decide)) (jP.cons hgn_149 (jf.raw (C := RX8) (T := TX8) (N := 5) rfl hraw_148 (i := 4) (by decide)) jP.nil)))))
        have hM_149 : jNk [1, 2, 11] G_136 (va_up G_136 r0 (some (10, 0))) := jNk.new (by decide)
        have hd_162 := jYb.grow (hh_161.iv 0 rfl) hle_149 hM_149 (by decide)
        have hh_163 := hh_161.sub (L1 := [(r0, 10, 0, .ref H_127.size), (r0, 10, 1, .null), (r0, 10, 2, .int 0), (r0, 10, 3, .int 0), (r0, 10, 4, .int (-1)), (H_127.size, 2, 1, .int qc_136), (H_127.size, 2, 0, .ref qa_136), (r1, 6, 7, .int pv), (r1, 6, 8, .int pu), (r1, 6, 0, .ref wk), (r1, 6, 1, .ref wi), (r1, 6, 2, .ref wz), (r1, 6, 3, .ref jnx), (r1, 6, 4, .ref jkf), (r1, 6, 5, .ref jks), (r1, 6, 6, .ref jun)]) [0, 1, 2, 3, 4, 5, 6, 7, 8, 9, 10, 11, 12, 13, 14, 15] rfl (M1 := [(wk, 140, 1502, ca 1, fk), (wi, 141, 1502, ca 1, fi), (wz, 142, 1502, ca 1, fz), (jnx, 143, 1502, ca 1, fn), (jkf, 144, 1502, ca 1, fa), (jks, 145, 1502, ca 1, fs), (jun, 146, 3000, ca 1, fu)]) [0, 1, 2, 3, 4, 5, 6] rfl (I1 := [([(2, 0), (2, 1)], jOl (dC, dI) G0 2 [] s.heap)]) [1] rfl
        clear hh_161
        have hh_164 := hh_163.addI (jYb.ie hd_162)
        clear hh_163
        refine lv_iload_n hx hb dX8_init_76 rfl (lv_at hl 1 rfl) ?_
        refine lv_if_eq (tgt := 95) hx hb dX8_init_77 (by decide) (fun c_165 => ?_) (fun c_165 => ?_)
        · skip
          exact absurd c_165 (by decide)
        · skip
          refine lv_aload_n hx hb dX8_init_80 rfl (lv_at hl 2 rfl) ?_
          refine j7_read hx hb hown hK (C := RX8) (T := TX8) (N := 5) rfl hly_10_0 hlk_29 (hh_164.at 0 rfl) dX8_init_81 ?_
          refine lv_aload_n hx hb dX8_init_84 rfl (lv_at hl 3 rfl) ?_
          refine lv_iload_n hx hb dX8_init_85 rfl (lv_at hl 4 rfl) ?_
          have hsz_166 := hh_164.2.2.2.2.2.1
          have htt_166 := hh_164.2.2.2.2.2.2.1
          refine W.room (fun hrc_166 hrs_166 => ?_)
          refine va_calli (A0 := jA base) (H0 := s.heap) (va_runV (As := [.int a2]) (rest := [.ref H_127.size]) ⟨hx, hb, hml, hown, hts⟩ (uX4_valueOf l dC dI ca base B hB hAp hB6 hB141 (va_up G_136 r0 (some (10, 0))) H_148 r1 a2) (cwV 1 hts (jgV (jWr_24 _ (List.mem_of_getElem? (i := 11) rfl)) (jWr_24 _ (List.mem_of_getElem? (i := 12) rfl)) (jWr_24 _ (List.mem_of_getElem? (i := 13) rfl)) (jWr_1 _ (List.mem_of_getElem? (i := 22) rfl)) (jWr_24 _ (List.mem_of_getElem? (i := 14) rfl))) rfl rfl rfl (by decide +kernel) ⟨by rw [← hR]; exact Nat.le_of_ble_eq_true rfl, by rw [← hR]; exact Nat.le_of_ble_eq_true rfl⟩) ⟨fun a U g mk q => by obtain ⟨q0, q1, q2, qK, q10, q11, q12⟩ := q; exact ⟨q0, q1, q2, jG.calling g mk a qK, q10, q11, q12⟩, hh_164.recv (C := RX4) (T := TX4) (N := 12) hB6 rfl (by decide) hg_150 hK, fun U hU hW => ⟨rfl, hU, hh_164.2.1, hG.step hW hU hh_164.1, hg_150, jP.nil, trivial⟩⟩ rfl rfl hl.1 rfl (lv_room (Nat.le_of_ble_eq_true rfl)) dX8_init_86 ⟨by rw [hRc]; show _ + 0 ≤ _; omega, by rw [hRs]; show _ + 0 ≤ _; omega⟩) hh_164.1 (fun q _ h => h) (fun q h => h) (fun r_167 u_166 t_166 H_166 locs_166 ht_166 hvm_166 hr_167 hb_166 hz_166 hk_166 hS_166 => ?_)
          rw [ht_166] at hb_166
          obtain ⟨hb_1661, hb_1662, hb_1663, hb_1664, hb_1665⟩ := hb_166
          have hh_166 : jSt (dC, dI) B base G0 (va_up G_136 r0 (some (10, 0))) EX8_initU s.heap ((0 + 1) + (1)) ((0 + 2) + ((16 : Int).toNat)) [(r0, 10, 0, .ref H_127.size), (r0, 10, 1, .null), (r0, 10, 2, .int 0), (r0, 10, 3, .int 0), (r0, 10, 4, .int (-1)), (H_127.size, 2, 1, .int qc_136), (H_127.size, 2, 0, .ref qa_136), (r1, 6, 7, .int pv), (r1, 6, 8, .int pu), (r1, 6, 0, .ref wk), (r1, 6, 1, .ref wi), (r1, 6, 2, .ref wz), (r1, 6, 3, .ref jnx), (r1, 6, 4, .ref jkf), (r1, 6, 5, .ref jks), (r1, 6, 6, .ref jun)] [(wk, 140, 1502, ca 1, fk), (wi, 141, 1502, ca 1, fi), (wz, 142, 1502, ca 1, fz), (jnx, 143, 1502, ca 1, fn), (jkf, 144, 1502, ca 1, fa), (jks, 145, 1502, ca 1, fs), (jun, 146, 3000, ca 1, fu)] [(jFy, jYb dC dI (va_up G_136 r0 (some (10, 0)))), ([(2, 0), (2, 1)], jOl (dC, dI) G0 2 [] s.heap)] H_166 locs_166 := ((hh_164.call hb_1661 hb_1662 hb_1663 hb_1664 hS_166 rfl (L1 := [(r0, 10, 0, .ref H_127.size), (r0, 10, 1, .null), (r0, 10, 2, .int 0), (r0, 10, 3, .int 0), (r0, 10, 4, .int (-1)), (H_127.size, 2, 1, .int qc_136), (H_127.size, 2, 0, .ref qa_136), (r1, 6, 7, .int pv), (r1, 6, 8, .int pu), (r1, 6, 0, .ref wk), (r1, 6, 1, .ref wi), (r1, 6, 2, .ref wz), (r1, 6, 3, .ref jnx), (r1, 6, 4, .ref jkf), (r1, 6, 5, .ref jks), (r1, 6, 6, .ref jun)]) [0, 1, 2, 3, 4, 5, 6, 7, 8, 9, 10, 11, 12, 13, 14, 15] rfl rfl (M1 := [(wk, 140, 1502, ca 1, fk), (wi, 141, 1502, ca 1, fi), (wz, 142, 1502, ca 1, fz), (jnx, 143, 1502, ca 1, fn), (jkf, 144, 1502, ca 1, fa), (jks, 145, 1502, ca 1, fs), (jun, 146, 3000, ca 1, fu)]) [0, 1, 2, 3, 4, 5, 6] rfl rfl (I1 := [(jFy, jYb dC dI (va_up G_136 r0 (some (10, 0)))), ([(2, 0), (2, 1)], jOl (dC, dI) G0 2 [] s.heap)]) [0, 1] rfl rfl).more hb_1665)
          clear hh_164 ht_166 hvm_166 hz_166 hk_166 hS_166 hb_1661 hb_1662 hb_1663 hb_1664 hb_1665
          have hsz_168 := hh_166.2.2.2.2.2.1
          have htt_168 := hh_166.2.2.2.2.2.2.1
          refine W.room (fun hrc_168 hrs_168 => ?_)
          refine va_callv (A0 := jA base) (H0 := s.heap) (va_runV (As := [.int r_167]) (rest := []) ⟨hx, hb, hml, hown, hts⟩ (uX0_numberS l dC dI ca base B hB hAp hB2 hB196 (va_up G_136 r0 (some (10, 0))) H_166 H_127.size r_167 qc_136 qa_136 m_qa_136 LC LS) (cwV 1 hts (jgV (jWr_24 _ (List.mem_of_getElem? (i := 15) rfl)) (jWr_24 _ (List.mem_of_getElem? (i := 16) rfl)) (jWr_24 _ (List.mem_of_getElem? (i := 17) rfl)) (jWr_1 _ (List.mem_of_getElem? (i := 14) rfl)) (jWr_24 _ (List.mem_of_getElem? (i := 18) rfl))) rfl rfl rfl (by decide +kernel) ⟨by rw [← hR]; exact Nat.le_of_ble_eq_true rfl, by rw [← hR]; exact Nat.le_of_ble_eq_true rfl⟩) ⟨fun a U g mk q => by obtain ⟨q0, q1, q2, qK, q10, q11, q12, q13⟩ := q; exact ⟨q0, q1, q2, jG.calling g mk a qK, q10, q11, q12, q13⟩, hh_166.recv (C := RX0) (T := TX0) (N := 2) hB2 rfl (by decide) hg_160 hK, fun U hU hW => ⟨rfl, hU, hh_166.2.1, hG.step hW hU hh_166.1, hg_160, hg_151, (hh_166.2.2.1.sub (L1 := [(H_127.size, 2, 1, .int qc_136), (H_127.size, 2, 0, .ref qa_136)]) [5, 6] rfl), (by omega), (by omega), ⟨(by first | omega | rfl | assumption | exact jPw.z16.cg (by omega)), (by first | omega | rfl | assumption | exact jPw.z16.cg (by omega)), (by first | omega | rfl | assumption | exact jPw.z16.cg (by omega)), (by first | omega | rfl | assumption | exact jPw.z16.cg (by omega)), (by first | assumption | exact jPw.z16.cg (by omega) | omega), (by first | omega | rfl | assumption | exact jPw.z16.cg (by omega))⟩⟩⟩ rfl rfl hl.1 rfl (lv_room (Nat.le_of_ble_eq_true rfl)) dX8_init_89 ⟨by rw [hRc]; omega, by rw [hRs]; omega⟩) hh_166.1 (fun q _ h => h) (fun q h => h) (fun u_168 t_168 H_168 locs_168 ht_168 hvm_168 hr_169 hb_168 hz_168 hk_168 hS_168 => ?_)
          obtain ⟨qc_168, qa_168, m_qa_168, G_168⟩ := u_168
          rw [ht_168] at hb_168
          simp only at hb_168
          obtain ⟨⟨hb_1681, hb_1682, hb_1683, hb_1684, hb_1685, hb_1686⟩, hgq_168_0, hN_168, hbO_168⟩ := hb_168
          have hY_168 := hN_168
          have hN_168 : (jNk [0, 1, 3, 4, 5, 6, 7, 8, 9, 11, 12, 13, 14, 15, 16]) (va_up G_136 r0 (some (10, 0))) G_168 := hN_168.sub (by decide)
          have hy_170 := hh_166.iv 0 rfl
          have hh_168 : jSt (dC, dI) B base G0 G_168 EX8_initU s.heap (((0 + 1) + (1)) + ((m_qa_168 - m_qa_136) / 16)) (((0 + 2) + ((16 : Int).toNat)) + (2 * (m_qa_168 - m_qa_136))) [(H_127.size, 2, 1, .int qc_168), (H_127.size, 2, 0, .ref qa_168), (r0, 10, 0, .ref H_127.size), (r0, 10, 1, .null), (r0, 10, 2, .int 0), (r0, 10, 3, .int 0), (r0, 10, 4, .int (-1)), (r1, 6, 7, .int pv), (r1, 6, 8, .int pu), (r1, 6, 0, .ref wk), (r1, 6, 1, .ref wi), (r1, 6, 2, .ref wz), (r1, 6, 3, .ref jnx), (r1, 6, 4, .ref jkf), (r1, 6, 5, .ref jks), (r1, 6, 6, .ref jun)] [(wk, 140, 1502, ca 1, fk), (wi, 141, 1502, ca 1, fi), (wz, 142, 1502, ca 1, fz), (jnx, 143, 1502, ca 1, fn), (jkf, 144, 1502, ca 1, fa), (jks, 145, 1502, ca 1, fs), (jun, 146, 3000, ca 1, fu)] [] H_168 locs_168 := (hh_166.callG hb_1681 hb_1682 hb_1683 hb_1684 hb_1685 hS_168 rfl (L1 := [(r0, 10, 0, .ref H_127.size), (r0, 10, 1, .null), (r0, 10, 2, .int 0), (r0, 10, 3, .int 0), (r0, 10, 4, .int (-1)), (r1, 6, 7, .int pv), (r1, 6, 8, .int pu), (r1, 6, 0, .ref wk), (r1, 6, 1, .ref wi), (r1, 6, 2, .ref wz), (r1, 6, 3, .ref jnx), (r1, 6, 4, .ref jkf), (r1, 6, 5, .ref jks), (r1, 6, 6, .ref jun)]) [0, 1, 2, 3, 4, 7, 8, 9, 10, 11, 12, 13, 14, 15] rfl rfl (M1 := [(wk, 140, 1502, ca 1, fk), (wi, 141, 1502, ca 1, fi), (wz, 142, 1502, ca 1, fz), (jnx, 143, 1502, ca 1, fn), (jkf, 144, 1502, ca 1, fa), (jks, 145, 1502, ca 1, fs), (jun, 146, 3000, ca 1, fu)]) [0, 1, 2, 3, 4, 5, 6] rfl rfl (I1 := []) [] rfl rfl).more hb_1686
          have hNn_168 : (jNk [0, 1, 3, 4, 5, 6, 7, 8, 9, 11, 12, 13, 14, 15, 16]) G0 G_168 := (hNn_149).tr hN_168
          have hg_171 := hb_1682 _ _ hgn_149
          have hg_172 := hb_1682 _ _ hg_150
          have hg_173 := hb_1682 _ _ hg_160
          have hg_174 := hb_1682 _ _ hg_152
          have hg_175 := hb_1682 _ _ hg_153
          have hg_176 := hb_1682 _ _ hg_154
          have hg_177 := hb_1682 _ _ hg_155
          have hg_178 := hb_1682 _ _ hg_156
          have hg_179 := hb_1682 _ _ hg_157
          have hg_180 := hb_1682 _ _ hg_158
          have hd_181 := jOl.trN (hh_166.iv 1 rfl) hh_166.2.2.2.2.1 hbO_168 (hnew0 _ hsy_132)
          have hh_182 := hh_168.addI (jOl.ie (dC := dC) (dI := dI) (G0 := G0) (k := 2) (rs := []) (H0 := s.heap) (F := [(2, 0), (2, 1)]) (C := RX0) (T := TX0) (N := 2) rfl (by decide) hh_168.2.2.2.2.1 (hd_181))
          clear hh_168
          have hyp_168 : qc_168.toInt ≤ (m_qa_168 : Nat) ∧ m_qa_168 ≤ 1048576 := by (try simp only at hr_169); omega
          have hy_183 := jYb.own hy_170 hbO_168 hb_1682 hY_168 (by decide) (fun _ => ⟨_, _, _, hh_182.at 0 rfl, hh_182.at 1 rfl, hgq_168_0, hyp_168⟩)
          have hh_184 := hh_182.addI (jYb.ie hy_183)
          clear hh_182
          try simp only at hr_169
          obtain ⟨hr_169_0, hr_169_1, hr_169_2, hr_169_3, hr_169_4, hr_169_5⟩ := hr_169
          refine lv_goto (tgt := 120) hx hb dX8_init_92 (by decide) ?_
          have hsz_185 := hh_184.2.2.2.2.2.1
          have htt_185 := hh_184.2.2.2.2.2.2.1
          refine W.room (fun hrc_185 hrs_185 => ?_)
          refine W.widen (k := LC - s.heap.size) (n := LS - jTot s.heap) (by omega) (by omega) ?_
          rw [hQ]
          exact W.vret hx hb hr (fun t ht hW => ⟨⟨G_168, rfl, trivial, ⟨hh_184.ra (by first | (simp only; omega) | omega) (by first | (simp only; omega) | omega) (M1 := []) [] rfl ht, hNn_168, by rw [ht]; exact hh_184.iv 1 rfl, hg_171, by rw [ht]; exact hh_184.2.2.2.2.2.2.2.2.sub (L1 := [(jFy, jYb dC dI G_168)]) [0] rfl, by rw [ht]; exact Or.inl ⟨Or.inl (by rw [← hk14]; omega), H_127.size, hg_173, hh_184.at 2 rfl⟩⟩⟩, by rw [ht]; try exact hh_184.1.1, fun q h9 hq => by rw [ht]; try exact hh_184.1.2.1 q h9 hq⟩) hh_184.1.2.2 dX8_init_120
      · skip
        exact absurd c_131 (by decide)
    · skip
      have c_130' : r_128.toInt = 3 := jb_ne_n (rfl) ((by decide)) c_130
      first | (have hr_128_0q := hr_128_0.resolve_left (by omega); clear hr_128_0) | (have hr_128_0q := hr_128_0.resolve_right (by omega); clear hr_128_0) | try clear hr_128_0
      refine lv_aload_n hx hb dX8_init_33 rfl (lv_at hl 2 rfl) ?_
      refine lv_iload_n hx hb dX8_init_34 rfl (lv_at hl 3 rfl) ?_
      have hsz_186 := hh_127.2.2.2.2.2.1
      have htt_186 := hh_127.2.2.2.2.2.2.1
      refine W.room (fun hrc_186 hrs_186 => ?_)
      refine va_calli (A0 := jA base) (H0 := s.heap) (va_runV (As := [.int a2]) (rest := []) ⟨hx, hb, hml, hown, hts⟩ (uX4_sizeOfJ l dC dI ca base B hB hAp hB6 hB142 G0 H_127 r1 a2 pv pu wk wi wz jnx jkf jks jun T9 fk fi fz fn fa fs fu) (cwV 1 hts (jgV (jWr_24 _ (List.mem_of_getElem? (i := 6) rfl)) (jWr_24 _ (List.mem_of_getElem? (i := 7) rfl)) (jWr_24 _ (List.mem_of_getElem? (i := 8) rfl)) (jWr_1 _ (List.mem_of_getElem? (i := 22) rfl)) (jWr_24 _ (List.mem_of_getElem? (i := 9) rfl))) rfl rfl rfl (by decide +kernel) ⟨by rw [← hR]; exact Nat.le_of_ble_eq_true rfl, by rw [← hR]; exact Nat.le_of_ble_eq_true rfl⟩) ⟨fun a U g mk q => by obtain ⟨q0, q1, q2, qK, q10, q11, q12, q13, q14, q15, q16, q17, q18, q19, q20⟩ := q; exact ⟨q0, q1, q2, jG.calling g mk a qK, q10, q11, q12, q13, q14, q15, q16, q17, q18, q19, q20⟩, hh_127.recv (C := RX4) (T := TX4) (N := 12) hB6 rfl (by decide) hg_r1 hK, fun U hU hW => ⟨rfl, hU, hh_127.2.1, hG.step hW hU hh_127.1, hg_r1, hg_wk, hg_wi, hg_wz, hg_jnx, hg_jkf, hg_jks, hg_jun, (hh_127.2.2.1.sub (L1 := [(r1, 6, 7, .int pv), (r1, 6, 8, .int pu), (r1, 6, 0, .ref wk), (r1, 6, 1, .ref wi), (r1, 6, 2, .ref wz), (r1, 6, 3, .ref jnx), (r1, 6, 4, .ref jkf), (r1, 6, 5, .ref jks), (r1, 6, 6, .ref jun)]) [0, 1, 2, 3, 4, 5, 6, 7, 8] rfl), (hh_127.2.2.2.2.2.2.2.1.sub (L1 := [(wk, 140, 1502, ca 1, fk), (wi, 141, 1502, ca 1, fi), (wz, 142, 1502, ca 1, fz), (jnx, 143, 1502, ca 1, fn), (jkf, 144, 1502, ca 1, fa), (jks, 145, 1502, ca 1, fs), (jun, 146, 3000, ca 1, fu)]) [0, 1, 2, 3, 4, 5, 6] rfl), by first | omega | (refine ⟨?_, ?_, ?_, ?_, ?_⟩ <;> (first | omega | rfl | assumption | decide | exact Or.inl rfl | exact Or.inr rfl | (simp only; omega)))⟩⟩ rfl rfl hl.1 rfl (lv_room (Nat.le_of_ble_eq_true rfl)) dX8_init_35 ⟨by rw [hRc]; show _ + 0 ≤ _; omega, by rw [hRs]; show _ + 0 ≤ _; omega⟩) hh_127.1 (fun q _ h => h) (fun q h => h) (fun r_187 u_186 t_186 H_186 locs_186 ht_186 hvm_186 hr_187 hb_186 hz_186 hk_186 hS_186 => ?_)
      rw [ht_186] at hb_186
      obtain ⟨hb_186, hbF_186⟩ := hb_186
      obtain ⟨hb_1861, hb_1862, hb_1863, hb_1864, hb_1865⟩ := hb_186
      have hh_186 : jSt (dC, dI) B base G0 G0 EX8_initU s.heap 0 0 [(r1, 6, 7, .int pv), (r1, 6, 8, .int pu), (r1, 6, 0, .ref wk), (r1, 6, 1, .ref wi), (r1, 6, 2, .ref wz), (r1, 6, 3, .ref jnx), (r1, 6, 4, .ref jkf), (r1, 6, 5, .ref jks), (r1, 6, 6, .ref jun)] [(wk, 140, 1502, ca 1, fk), (wi, 141, 1502, ca 1, fi), (wz, 142, 1502, ca 1, fz), (jnx, 143, 1502, ca 1, fn), (jkf, 144, 1502, ca 1, fa), (jks, 145, 1502, ca 1, fs), (jun, 146, 3000, ca 1, fu)] [([(2, 0), (2, 1)], jOl (dC, dI) G0 2 [] s.heap), (jFy, jYb dC dI G0)] H_186 locs_186 := ((hh_127.call hb_1861 hb_1862 hb_1863 hb_1864 hS_186 rfl (L1 := [(r1, 6, 7, .int pv), (r1, 6, 8, .int pu), (r1, 6, 0, .ref wk), (r1, 6, 1, .ref wi), (r1, 6, 2, .ref wz), (r1, 6, 3, .ref jnx), (r1, 6, 4, .ref jkf), (r1, 6, 5, .ref jks), (r1, 6, 6, .ref jun)]) [0, 1, 2, 3, 4, 5, 6, 7, 8] rfl rfl (M1 := [(wk, 140, 1502, ca 1, fk), (wi, 141, 1502, ca 1, fi), (wz, 142, 1502, ca 1, fz), (jnx, 143, 1502, ca 1, fn), (jkf, 144, 1502, ca 1, fa), (jks, 145, 1502, ca 1, fs), (jun, 146, 3000, ca 1, fu)]) [0, 1, 2, 3, 4, 5, 6] rfl rfl (I1 := [([(2, 0), (2, 1)], jOl (dC, dI) G0 2 [] s.heap), (jFy, jYb dC dI G0)]) [0, 1] rfl rfl).more hb_1865)
      clear hh_127 ht_186 hvm_186 hz_186 hk_186 hS_186 hb_1861 hb_1862 hb_1863 hb_1864 hb_1865
      have hraw_188 := hraw_129.kept (hbF_186 _ (by simp))
      obtain ⟨hr_187_0, hr_187_1⟩ := hr_187
      have hz35 := hr_187_1
      refine lv_bipush (v := 20) hx hb dX8_init_38 (by decide) ?_
      refine lv_icmp_gt (tgt := 47) hx hb dX8_init_40 (by decide) (fun c_189 => ?_) (fun c_189 => ?_)
      · skip
        have c_189' : r_187.toInt > 20 := jb_gt (rfl) ((by decide)) c_189
        first | (have hr_187_0q := hr_187_0.resolve_left (by omega); clear hr_187_0) | (have hr_187_0q := hr_187_0.resolve_right (by omega); clear hr_187_0) | try clear hr_187_0
        refine lv_iconst (v := 0) hx hb dX8_init_47 (by decide) ?_
        refine lv_istore (lv' := [(4, .int 0), (3, .int 1), (0, .ref r0), (1, .ref r1), (2, .int a2)]) hx hb dX8_init_48 hl (by decide) rfl (fun ls hl => ?_)
        refine lv_aload_n hx hb dX8_init_50 rfl (lv_at hl 2 rfl) ?_
        refine lv_iload_n hx hb dX8_init_51 rfl (lv_at hl 1 rfl) ?_
        refine lv_if_ne (tgt := 60) hx hb dX8_init_52 (by decide) (fun c_190 => ?_) (fun c_190 => ?_)
        · skip
          have hsz_191 := hh_186.2.2.2.2.2.1
          have htt_191 := hh_186.2.2.2.2.2.2.1
          refine j7_newo (k := 2) (C := RX0) (T := TX0) (N := 2) (fs := [.null, .int 0]) hx hb htw jWc_wsX00 (fun k => ([(.array .byte), .int] : List FieldType).getD k .int) (by decide +kernel) hown (htw (.classLink RX8 24 RX0) (jWr_24 _ (List.mem_of_getElem? (i := 3) rfl))) (htw (.instantiable RX0 2) (jWr_1 _ (List.mem_of_getElem? (i := 13) rfl))) (htw (.initialized RX0) (jWr_1 _ (List.mem_of_getElem? (i := 14) rfl))) hK rfl (fun j hj => by rcases (by omega : j = 0 ∨ j = 1) with rfl | rfl <;> rfl) hh_186 hB (by rw [hRc]; omega) (by rw [hRs]; omega) dX8_init_60 (fun H_191 hraw_191 hfr_191 hnr_191 hh_191 => ?_)
          have hlt_192 := hraw_188.lt
          have hke_191 : jKe G0 G0 H_186 H_191 := jKe.raw hfr_191
          have hbr_191 : base ≤ H_186.size := Nat.le_trans hbs hh_186.1.1
          have hsy_191 : s.heap.size ≤ H_186.size := hh_186.1.1
          clear hh_186
          have hraw_193n := hke_191.nr hraw_188.lt hnr0
          have hraw_193 := hraw_188.kept (hke_191.1 _ hraw_188.lt)
          have hne_194 : r0 ≠ H_186.size := Nat.ne_of_lt hlt_192
          refine lv_dup hx hb dX8_init_63 rfl ?_
          refine lv_bipush (v := 16) hx hb dX8_init_64 (by decide) ?_
          have hsz_195 := hh_191.2.2.2.2.2.1
          have htt_195 := hh_191.2.2.2.2.2.2.1
          refine W.room (fun hrc_195 hrs_195 => ?_)
          refine va_callv (A0 := jA base) (H0 := s.heap) (va_runI (As := [.int 16]) (rest := [.ref H_186.size, .ref r0]) ⟨hx, hb, hml, hown, hts⟩ (uX0_initY l dC dI ca base B hB hAp hB2 hB196 G0 H_191 H_186.size 16 0 LC LS) (cwI 1 hts (jgW (jWr_3 _ (List.mem_of_getElem? (i := 3) rfl))) rfl rfl rfl (htw (.initialized RX0) (jWr_1 _ (List.mem_of_getElem? (i := 14) rfl))) (htw (.methodLink RX8 26 yX0_init) (jWr_24 _ (List.mem_of_getElem? (i := 10) rfl))) (htw (.instanceMethod yX0_init) (jWr_3 _ (List.mem_of_getElem? (i := 2) rfl))) rfl (by decide +kernel) ⟨by rw [← hR]; exact Nat.le_of_ble_eq_true rfl, by rw [← hR]; exact Nat.le_of_ble_eq_true rfl⟩) ⟨fun a U g mk q => by obtain ⟨q0, q1, q2, qK, q10, q11, q12, q13, q14, q15⟩ := q; exact ⟨q0, q1, q2, jG.calling g mk a qK, q10, q11, q12, q13, q14, q15⟩, fun U hU hW => ⟨rfl, hU, hh_191.2.1, hG.step hW hU hh_191.1, hraw_191, hnr_191, hbr_191, jP.nil, (hh_191.2.2.2.2.2.2.2.2.sub (L1 := [(jFy, jYb dC dI G0)]) [1] rfl), (by omega), (by omega), ⟨(by first | omega | rfl | assumption | exact fun _ => jPw.z16), (by first | omega | rfl | assumption | exact fun _ => jPw.z16), (by first | omega | rfl | assumption | exact fun _ => jPw.z16), (by first | assumption | exact fun _ => jPw.z16 | omega), (by first | omega | rfl | assumption | exact fun _ => jPw.z16)⟩⟩⟩ rfl rfl hl.1 rfl (lv_room (Nat.le_of_ble_eq_true rfl)) dX8_init_66 ⟨by rw [hRc]; omega, by rw [hRs]; omega⟩) hh_191.1 (fun q _ h => h) (fun q h => h) (fun u_195 t_195 H_195 locs_195 ht_195 hvm_195 hr_196 hb_195 hz_195 hk_195 hS_195 => ?_)
          obtain ⟨qc_195, qa_195, m_qa_195, G_195⟩ := u_195
          rw [ht_195] at hb_195
          simp only at hb_195
          obtain ⟨⟨hb_1951, hb_1952, hb_1953, hb_1954, hb_1955, hb_1956⟩, hgq_195_0, hN_195, hgc_195, hbX_195, hbE_195⟩ := hb_195
          have hN_195 : (jNk [0, 1, 3, 4, 5, 6, 7, 8, 9, 11, 12, 13, 14, 15, 16]) G0 G_195 := hN_195.sub (by decide)
          have hh_195 : jSt (dC, dI) B base G0 G_195 EX8_initU s.heap ((0 + 1) + (1)) ((0 + 2) + ((16 : Int).toNat)) [(H_186.size, 2, 1, .int qc_195), (H_186.size, 2, 0, .ref qa_195), (r1, 6, 7, .int pv), (r1, 6, 8, .int pu), (r1, 6, 0, .ref wk), (r1, 6, 1, .ref wi), (r1, 6, 2, .ref wz), (r1, 6, 3, .ref jnx), (r1, 6, 4, .ref jkf), (r1, 6, 5, .ref jks), (r1, 6, 6, .ref jun)] [(wk, 140, 1502, ca 1, fk), (wi, 141, 1502, ca 1, fi), (wz, 142, 1502, ca 1, fz), (jnx, 143, 1502, ca 1, fn), (jkf, 144, 1502, ca 1, fa), (jks, 145, 1502, ca 1, fs), (jun, 146, 3000, ca 1, fu)] [([(2, 0), (2, 1)], jOl (dC, dI) G0 2 [] s.heap)] H_195 locs_195 := (hh_191.callG hb_1951 hb_1952 hb_1953 hb_1954 hb_1955 hS_195 rfl (L1 := [(r1, 6, 7, .int pv), (r1, 6, 8, .int pu), (r1, 6, 0, .ref wk), (r1, 6, 1, .ref wi), (r1, 6, 2, .ref wz), (r1, 6, 3, .ref jnx), (r1, 6, 4, .ref jkf), (r1, 6, 5, .ref jks), (r1, 6, 6, .ref jun)]) [0, 1, 2, 3, 4, 5, 6, 7, 8] rfl rfl (M1 := [(wk, 140, 1502, ca 1, fk), (wi, 141, 1502, ca 1, fi), (wz, 142, 1502, ca 1, fz), (jnx, 143, 1502, ca 1, fn), (jkf, 144, 1502, ca 1, fa), (jks, 145, 1502, ca 1, fs), (jun, 146, 3000, ca 1, fu)]) [0, 1, 2, 3, 4, 5, 6] rfl rfl (I1 := [([(2, 0), (2, 1)], jOl (dC, dI) G0 2 [] s.heap)]) [0] rfl rfl).more hb_1956
          have hNn_195 : (jNk [0, 1, 3, 4, 5, 6, 7, 8, 9, 11, 12, 13, 14, 15, 16]) G0 G_195 := (jNk.rf).tr hN_195
          have hg_197 := hb_1952 _ _ hg_r1
          have hg_198 := hb_1952 _ _ hg_wk
          have hg_199 := hb_1952 _ _ hg_wi
          have hg_200 := hb_1952 _ _ hg_wz
          have hg_201 := hb_1952 _ _ hg_jnx
          have hg_202 := hb_1952 _ _ hg_jkf
          have hg_203 := hb_1952 _ _ hg_jks
          have hg_204 := hb_1952 _ _ hg_jun
          have hh_205 := hh_195.addIs hbE_195
          try simp only at hr_196
          obtain ⟨hr_196_0, hr_196_1⟩ := hr_196
          have hraw_206x := hbX_195.ke hraw_193.lt hne_194 hraw_193n
          have hraw_206 := hraw_193.kept hraw_206x.1
          refine lv_goto (tgt := 73) hx hb dX8_init_69 (by decide) ?_
          refine j7_putRF hx hb hown hK hh_205 hB hAp hraw_206 hraw_206x.2 hbr0 (C := RX8) (T := TX8) (N := 5) rfl (i := 0) (by decide) (Nat.le_of_ble_eq_true rfl) hly_10_0 rfl hin2 rfl hlk_29 (ty := (.object "ProofServer$Bytes")) (v := .ref H_186.size) (by decide +kernel) rfl rfl dX8_init_73 (fun H_207 locs_207 hraw_207 hr_207 hh_207 => ?_)
          have hraw_207 : va_at (dC, dI) vwCl (r0, .inr (10, [.ref H_186.size, .null, .int 0, .int 0, .int (-1)])) H_207 := hraw_207
          clear hh_205
          have hle_208 : jLe G_195 (va_up G_195 r0 (some (10, 0))) := jLe.typ hraw_206x.2
          have hg_209 := hle_208 _ _ hg_197
          have hg_210 := hle_208 _ _ hgq_195_0
          have hg_211 := hle_208 _ _ hg_198
          have hg_212 := hle_208 _ _ hg_199
          have hg_213 := hle_208 _ _ hg_200
          have hg_214 := hle_208 _ _ hg_201
          have hg_215 := hle_208 _ _ hg_202
          have hg_216 := hle_208 _ _ hg_203
          have hg_217 := hle_208 _ _ hg_204
          have hg_218 := (jLe.rf).tr hle_208 _ _ hgc_195
          have hfa_208 : jRn (va_up G_195 r0 (some (10, 0))) 2 0 (.ref H_186.size) ∧ jRn (va_up G_195 r0 (some (10, 0))) 3 0 (.null) ∧ jIa (.int 0) ∧ jZb (.int 0) ∧ jIa (.int (-1)) ∧ True := ⟨Or.inr ⟨_, rfl, hg_218⟩, Or.inl rfl, ⟨_, rfl⟩, ⟨_, rfl, Or.inl rfl⟩, ⟨_, rfl⟩, trivial⟩
          have hh_208 := hh_207.typ (k := 10) (n := 0) hB hraw_206x.2 hbr0 hraw_207.lt (jOb.of (C := RX8) (T := TX8) (N := 5) (F := F10) hB10 rfl hraw_207 (show jFx (F10 0 (va_up G_195 r0 (some (10, 0)))) [.ref H_186.size, .null, .int 0, .int 0, .int (-1)] from hfa_208))
          have hgn_208 : (va_up G_195 r0 (some (10, 0))) r0 = some (10, 0) := jUp_self
          have hN_208 : (jNk [0, 1, 3, 4, 5, 6, 7, 8, 9, 11, 12, 13, 14, 15, 16]) G_195 (va_up G_195 r0 (some (10, 0))) := jNk.new (by decide)
          have hNn_208 : (jNk [0, 1, 3, 4, 5, 6, 7, 8, 9, 11, 12, 13, 14, 15, 16]) G0 (va_up G_195 r0 (some (10, 0))) := (hNn_195).tr hN_208
          have hg_219 := (hle_208) _ _ hgc_195
          have hh_220 := hh_208.more (P1 := [(r0, 10, 0, .ref H_186.size), (r0, 10, 1, .null), (r0, 10, 2, .int 0), (r0, 10, 3, .int 0), (r0, 10, 4, .int (-1))]) (jP.cons hgn_208 (jf.raw (C := RX8) (T := TX8) (N := 5) rfl hraw_207 (i := 0) (by decide)) (jP.cons hgn_208 (jf.raw (C := RX8) (T := TX8) (N := 5) rfl hraw_207 (i := 1) (by decide)) (jP.cons hgn_208 (jf.raw (C := RX8) (T := TX8) (N := 5) rfl hraw_207 (i := 2) (by decide)) (jP.cons hgn_208 (jf.raw (C := RX8) (T := TX8) (N := 5) rfl hraw_207 (i := 3) (by decide)) (jP.cons hgn_208 (jf.raw (C := RX8) (T := TX8) (N := 5) rfl hraw_207 (i := 4) (by decide)) jP.nil)))))
          have hM_208 : jNk [1, 2, 11] G_195 (va_up G_195 r0 (some (10, 0))) := jNk.new (by decide)
          have hd_221 := jYb.grow (hh_220.iv 0 rfl) hle_208 hM_208 (by decide)
          have hh_222 := hh_220.sub (L1 := [(r0, 10, 0, .ref H_186.size), (r0, 10, 1, .null), (r0, 10, 2, .int 0), (r0, 10, 3, .int 0), (r0, 10, 4, .int (-1)), (H_186.size, 2, 1, .int qc_195), (H_186.size, 2, 0, .ref qa_195), (r1, 6, 7, .int pv), (r1, 6, 8, .int pu), (r1, 6, 0, .ref wk), (r1, 6, 1, .ref wi), (r1, 6, 2, .ref wz), (r1, 6, 3, .ref jnx), (r1, 6, 4, .ref jkf), (r1, 6, 5, .ref jks), (r1, 6, 6, .ref jun)]) [0, 1, 2, 3, 4, 5, 6, 7, 8, 9, 10, 11, 12, 13, 14, 15] rfl (M1 := [(wk, 140, 1502, ca 1, fk), (wi, 141, 1502, ca 1, fi), (wz, 142, 1502, ca 1, fz), (jnx, 143, 1502, ca 1, fn), (jkf, 144, 1502, ca 1, fa), (jks, 145, 1502, ca 1, fs), (jun, 146, 3000, ca 1, fu)]) [0, 1, 2, 3, 4, 5, 6] rfl (I1 := [([(2, 0), (2, 1)], jOl (dC, dI) G0 2 [] s.heap)]) [1] rfl
          clear hh_220
          have hh_223 := hh_222.addI (jYb.ie hd_221)
          clear hh_222
          refine lv_iload_n hx hb dX8_init_76 rfl (lv_at hl 1 rfl) ?_
          refine lv_if_eq (tgt := 95) hx hb dX8_init_77 (by decide) (fun c_224 => ?_) (fun c_224 => ?_)
          · skip
            exact absurd c_224 (by decide)
          · skip
            refine lv_aload_n hx hb dX8_init_80 rfl (lv_at hl 2 rfl) ?_
            refine j7_read hx hb hown hK (C := RX8) (T := TX8) (N := 5) rfl hly_10_0 hlk_29 (hh_223.at 0 rfl) dX8_init_81 ?_
            refine lv_aload_n hx hb dX8_init_84 rfl (lv_at hl 3 rfl) ?_
            refine lv_iload_n hx hb dX8_init_85 rfl (lv_at hl 4 rfl) ?_
            have hsz_225 := hh_223.2.2.2.2.2.1
            have htt_225 := hh_223.2.2.2.2.2.2.1
            refine W.room (fun hrc_225 hrs_225 => ?_)
            refine va_calli (A0 := jA base) (H0 := s.heap) (va_runV (As := [.int a2]) (rest := [.ref H_186.size]) ⟨hx, hb, hml, hown, hts⟩ (uX4_valueOf l dC dI ca base B hB hAp hB6 hB141 (va_up G_195 r0 (some (10, 0))) H_207 r1 a2) (cwV 1 hts (jgV (jWr_24 _ (List.mem_of_getElem? (i := 11) rfl)) (jWr_24 _ (List.mem_of_getElem? (i := 12) rfl)) (jWr_24 _ (List.mem_of_getElem? (i := 13) rfl)) (jWr_1 _ (List.mem_of_getElem? (i := 22) rfl)) (jWr_24 _ (List.mem_of_getElem? (i := 14) rfl))) rfl rfl rfl (by decide +kernel) ⟨by rw [← hR]; exact Nat.le_of_ble_eq_true rfl, by rw [← hR]; exact Nat.le_of_ble_eq_true rfl⟩) ⟨fun a U g mk q => by obtain ⟨q0, q1, q2, qK, q10, q11, q12⟩ := q; exact ⟨q0, q1, q2, jG.calling g mk a qK, q10, q11, q12⟩, hh_223.recv (C := RX4) (T := TX4) (N := 12) hB6 rfl (by decide) hg_209 hK, fun U hU hW => ⟨rfl, hU, hh_223.2.1, hG.step hW hU hh_223.1, hg_209, jP.nil, trivial⟩⟩ rfl rfl hl.1 rfl (lv_room (Nat.le_of_ble_eq_true rfl)) dX8_init_86 ⟨by rw [hRc]; show _ + 0 ≤ _; omega, by rw [hRs]; show _ + 0 ≤ _; omega⟩) hh_223.1 (fun q _ h => h) (fun q h => h) (fun r_226 u_225 t_225 H_225 locs_225 ht_225 hvm_225 hr_226 hb_225 hz_225 hk_225 hS_225 => ?_)
            rw [ht_225] at hb_225
            obtain ⟨hb_2251, hb_2252, hb_2253, hb_2254, hb_2255⟩ := hb_225
            have hh_225 : jSt (dC, dI) B base G0 (va_up G_195 r0 (some (10, 0))) EX8_initU s.heap ((0 + 1) + (1)) ((0 + 2) + ((16 : Int).toNat)) [(r0, 10, 0, .ref H_186.size), (r0, 10, 1, .null), (r0, 10, 2, .int 0), (r0, 10, 3, .int 0), (r0, 10, 4, .int (-1)), (H_186.size, 2, 1, .int qc_195), (H_186.size, 2, 0, .ref qa_195), (r1, 6, 7, .int pv), (r1, 6, 8, .int pu), (r1, 6, 0, .ref wk), (r1, 6, 1, .ref wi), (r1, 6, 2, .ref wz), (r1, 6, 3, .ref jnx), (r1, 6, 4, .ref jkf), (r1, 6, 5, .ref jks), (r1, 6, 6, .ref jun)] [(wk, 140, 1502, ca 1, fk), (wi, 141, 1502, ca 1, fi), (wz, 142, 1502, ca 1, fz), (jnx, 143, 1502, ca 1, fn), (jkf, 144, 1502, ca 1, fa), (jks, 145, 1502, ca 1, fs), (jun, 146, 3000, ca 1, fu)] [(jFy, jYb dC dI (va_up G_195 r0 (some (10, 0)))), ([(2, 0), (2, 1)], jOl (dC, dI) G0 2 [] s.heap)] H_225 locs_225 := ((hh_223.call hb_2251 hb_2252 hb_2253 hb_2254 hS_225 rfl (L1 := [(r0, 10, 0, .ref H_186.size), (r0, 10, 1, .null), (r0, 10, 2, .int 0), (r0, 10, 3, .int 0), (r0, 10, 4, .int (-1)), (H_186.size, 2, 1, .int qc_195), (H_186.size, 2, 0, .ref qa_195), (r1, 6, 7, .int pv), (r1, 6, 8, .int pu), (r1, 6, 0, .ref wk), (r1, 6, 1, .ref wi), (r1, 6, 2, .ref wz), (r1, 6, 3, .ref jnx), (r1, 6, 4, .ref jkf), (r1, 6, 5, .ref jks), (r1, 6, 6, .ref jun)]) [0, 1, 2, 3, 4, 5, 6, 7, 8, 9, 10, 11, 12, 13, 14, 15] rfl rfl (M1 := [(wk, 140, 1502, ca 1, fk), (wi, 141, 1502, ca 1, fi), (wz, 142, 1502, ca 1, fz), (jnx, 143, 1502, ca 1, fn), (jkf, 144, 1502, ca 1, fa), (jks, 145, 1502, ca 1, fs), (jun, 146, 3000, ca 1, fu)]) [0, 1, 2, 3, 4, 5, 6] rfl rfl (I1 := [(jFy, jYb dC dI (va_up G_195 r0 (some (10, 0)))), ([(2, 0), (2, 1)], jOl (dC, dI) G0 2 [] s.heap)]) [0, 1] rfl rfl).more hb_2255)
            clear hh_223 ht_225 hvm_225 hz_225 hk_225 hS_225 hb_2251 hb_2252 hb_2253 hb_2254 hb_2255
            have hsz_227 := hh_225.2.2.2.2.2.1
            have htt_227 := hh_225.2.2.2.2.2.2.1
            refine W.room (fun hrc_227 hrs_227 => ?_)
            refine va_callv (A0 := jA base) (H0 := s.heap) (va_runV (As := [.int r_226]) (rest := []) ⟨hx, hb, hml, hown, hts⟩ (uX0_numberS l dC dI ca base B hB hAp hB2 hB196 (va_up G_195 r0 (some (10, 0))) H_225 H_186.size r_226 qc_195 qa_195 m_qa_195 LC LS) (cwV 1 hts (jgV (jWr_24 _ (List.mem_of_getElem? (i := 15) rfl)) (jWr_24 _ (List.mem_of_getElem? (i := 16) rfl)) (jWr_24 _ (List.mem_of_getElem? (i := 17) rfl)) (jWr_1 _ (List.mem_of_getElem? (i := 14) rfl)) (jWr_24 _ (List.mem_of_getElem? (i := 18) rfl))) rfl rfl rfl (by decide +kernel) ⟨by rw [← hR]; exact Nat.le_of_ble_eq_true rfl, by rw [← hR]; exact Nat.le_of_ble_eq_true rfl⟩) ⟨fun a U g mk q => by obtain ⟨q0, q1, q2, qK, q10, q11, q12, q13⟩ := q; exact ⟨q0, q1, q2, jG.calling g mk a qK, q10, q11, q12, q13⟩, hh_225.recv (C := RX0) (T := TX0) (N := 2) hB2 rfl (by decide) hg_219 hK, fun U hU hW => ⟨rfl, hU, hh_225.2.1, hG.step hW hU hh_225.1, hg_219, hg_210, (hh_225.2.2.1.sub (L1 := [(H_186.size, 2, 1, .int qc_195), (H_186.size, 2, 0, .ref qa_195)]) [5, 6] rfl), (by omega), (by omega), ⟨(by first | omega | rfl | assumption | exact jPw.z16.cg (by omega)), (by first | omega | rfl | assumption | exact jPw.z16.cg (by omega)), (by first | omega | rfl | assumption | exact jPw.z16.cg (by omega)), (by first | omega | rfl | assumption | exact jPw.z16.cg (by omega)), (by first | assumption | exact jPw.z16.cg (by omega) | omega), (by first | omega | rfl | assumption | exact jPw.z16.cg (by omega))⟩⟩⟩ rfl rfl hl.1 rfl (lv_room (Nat.le_of_ble_eq_true rfl)) dX8_init_89 ⟨by rw [hRc]; omega, by rw [hRs]; omega⟩) hh_225.1 (fun q _ h => h) (fun q h => h) (fun u_227 t_227 H_227 locs_227 ht_227 hvm_227 hr_228 hb_227 hz_227 hk_227 hS_227 => ?_)
            obtain ⟨qc_227, qa_227, m_qa_227, G_227⟩ := u_227
            rw [ht_227] at hb_227
            simp only at hb_227
            obtain ⟨⟨hb_2271, hb_2272, hb_2273, hb_2274, hb_2275, hb_2276⟩, hgq_227_0, hN_227, hbO_227⟩ := hb_227
            have hY_227 := hN_227
            have hN_227 : (jNk [0, 1, 3, 4, 5, 6, 7, 8, 9, 11, 12, 13, 14, 15, 16]) (va_up G_195 r0 (some (10, 0))) G_227 := hN_227.sub (by decide)
            have hy_229 := hh_225.iv 0 rfl
            have hh_227 : jSt (dC, dI) B base G0 G_227 EX8_initU s.heap (((0 + 1) + (1)) + ((m_qa_227 - m_qa_195) / 16)) (((0 + 2) + ((16 : Int).toNat)) + (2 * (m_qa_227 - m_qa_195))) [(H_186.size, 2, 1, .int qc_227), (H_186.size, 2, 0, .ref qa_227), (r0, 10, 0, .ref H_186.size), (r0, 10, 1, .null), (r0, 10, 2, .int 0), (r0, 10, 3, .int 0), (r0, 10, 4, .int (-1)), (r1, 6, 7, .int pv), (r1, 6, 8, .int pu), (r1, 6, 0, .ref wk), (r1, 6, 1, .ref wi), (r1, 6, 2, .ref wz), (r1, 6, 3, .ref jnx), (r1, 6, 4, .ref jkf), (r1, 6, 5, .ref jks), (r1, 6, 6, .ref jun)] [(wk, 140, 1502, ca 1, fk), (wi, 141, 1502, ca 1, fi), (wz, 142, 1502, ca 1, fz), (jnx, 143, 1502, ca 1, fn), (jkf, 144, 1502, ca 1, fa), (jks, 145, 1502, ca 1, fs), (jun, 146, 3000, ca 1, fu)] [] H_227 locs_227 := (hh_225.callG hb_2271 hb_2272 hb_2273 hb_2274 hb_2275 hS_227 rfl (L1 := [(r0, 10, 0, .ref H_186.size), (r0, 10, 1, .null), (r0, 10, 2, .int 0), (r0, 10, 3, .int 0), (r0, 10, 4, .int (-1)), (r1, 6, 7, .int pv), (r1, 6, 8, .int pu), (r1, 6, 0, .ref wk), (r1, 6, 1, .ref wi), (r1, 6, 2, .ref wz), (r1, 6, 3, .ref jnx), (r1, 6, 4, .ref jkf), (r1, 6, 5, .ref jks), (r1, 6, 6, .ref jun)]) [0, 1, 2, 3, 4, 7, 8, 9, 10, 11, 12, 13, 14, 15] rfl rfl (M1 := [(wk, 140, 1502, ca 1, fk), (wi, 141, 1502, ca 1, fi), (wz, 142, 1502, ca 1, fz), (jnx, 143, 1502, ca 1, fn), (jkf, 144, 1502, ca 1, fa), (jks, 145, 1502, ca 1, fs), (jun, 146, 3000, ca 1, fu)]) [0, 1, 2, 3, 4, 5, 6] rfl rfl (I1 := []) [] rfl rfl).more hb_2276
            have hNn_227 : (jNk [0, 1, 3, 4, 5, 6, 7, 8, 9, 11, 12, 13, 14, 15, 16]) G0 G_227 := (hNn_208).tr hN_227
            have hg_230 := hb_2272 _ _ hgn_208
            have hg_231 := hb_2272 _ _ hg_209
            have hg_232 := hb_2272 _ _ hg_219
            have hg_233 := hb_2272 _ _ hg_211
            have hg_234 := hb_2272 _ _ hg_212
            have hg_235 := hb_2272 _ _ hg_213
            have hg_236 := hb_2272 _ _ hg_214
            have hg_237 := hb_2272 _ _ hg_215
            have hg_238 := hb_2272 _ _ hg_216
            have hg_239 := hb_2272 _ _ hg_217
            have hd_240 := jOl.trN (hh_225.iv 1 rfl) hh_225.2.2.2.2.1 hbO_227 (hnew0 _ hsy_191)
            have hh_241 := hh_227.addI (jOl.ie (dC := dC) (dI := dI) (G0 := G0) (k := 2) (rs := []) (H0 := s.heap) (F := [(2, 0), (2, 1)]) (C := RX0) (T := TX0) (N := 2) rfl (by decide) hh_227.2.2.2.2.1 (hd_240))
            clear hh_227
            have hyp_227 : qc_227.toInt ≤ (m_qa_227 : Nat) ∧ m_qa_227 ≤ 1048576 := by (try simp only at hr_228); omega
            have hy_242 := jYb.own hy_229 hbO_227 hb_2272 hY_227 (by decide) (fun _ => ⟨_, _, _, hh_241.at 0 rfl, hh_241.at 1 rfl, hgq_227_0, hyp_227⟩)
            have hh_243 := hh_241.addI (jYb.ie hy_242)
            clear hh_241
            try simp only at hr_228
            obtain ⟨hr_228_0, hr_228_1, hr_228_2, hr_228_3, hr_228_4, hr_228_5⟩ := hr_228
            refine lv_goto (tgt := 120) hx hb dX8_init_92 (by decide) ?_
            have hsz_244 := hh_243.2.2.2.2.2.1
            have htt_244 := hh_243.2.2.2.2.2.2.1
            refine W.room (fun hrc_244 hrs_244 => ?_)
            refine W.widen (k := LC - s.heap.size) (n := LS - jTot s.heap) (by omega) (by omega) ?_
            rw [hQ]
            exact W.vret hx hb hr (fun t ht hW => ⟨⟨G_227, rfl, trivial, ⟨hh_243.ra (by first | (simp only; omega) | omega) (by first | (simp only; omega) | omega) (M1 := []) [] rfl ht, hNn_227, by rw [ht]; exact hh_243.iv 1 rfl, hg_230, by rw [ht]; exact hh_243.2.2.2.2.2.2.2.2.sub (L1 := [(jFy, jYb dC dI G_227)]) [0] rfl, by rw [ht]; exact Or.inl ⟨Or.inl (by rw [← hk14]; omega), H_186.size, hg_232, hh_243.at 2 rfl⟩⟩⟩, by rw [ht]; try exact hh_243.1.1, fun q h9 hq => by rw [ht]; try exact hh_243.1.2.1 q h9 hq⟩) hh_243.1.2.2 dX8_init_120
        · skip
          exact absurd c_190 (by decide)
      · skip
        have c_189' : r_187.toInt ≤ 20 := jb_gt_n (rfl) ((by decide)) c_189
        first | (have hr_187_0q := hr_187_0.resolve_left (by omega); clear hr_187_0) | (have hr_187_0q := hr_187_0.resolve_right (by omega); clear hr_187_0) | try clear hr_187_0
        refine lv_iconst (v := 1) hx hb dX8_init_43 (by decide) ?_
        refine lv_goto (tgt := 48) hx hb dX8_init_44 (by decide) ?_
        refine lv_istore (lv' := [(4, .int 1), (3, .int 1), (0, .ref r0), (1, .ref r1), (2, .int a2)]) hx hb dX8_init_48 hl (by decide) rfl (fun ls hl => ?_)
        refine lv_aload_n hx hb dX8_init_50 rfl (lv_at hl 2 rfl) ?_
        refine lv_iload_n hx hb dX8_init_51 rfl (lv_at hl 1 rfl) ?_
        refine lv_if_ne (tgt := 60) hx hb dX8_init_52 (by decide) (fun c_245 => ?_) (fun c_245 => ?_)
        · skip
          have hsz_246 := hh_186.2.2.2.2.2.1
          have htt_246 := hh_186.2.2.2.2.2.2.1
          refine j7_newo (k := 2) (C := RX0) (T := TX0) (N := 2) (fs := [.null, .int 0]) hx hb htw jWc_wsX00 (fun k => ([(.array .byte), .int] : List FieldType).getD k .int) (by decide +kernel) hown (htw (.classLink RX8 24 RX0) (jWr_24 _ (List.mem_of_getElem? (i := 3) rfl))) (htw (.instantiable RX0 2) (jWr_1 _ (List.mem_of_getElem? (i := 13) rfl))) (htw (.initialized RX0) (jWr_1 _ (List.mem_of_getElem? (i := 14) rfl))) hK rfl (fun j hj => by rcases (by omega : j = 0 ∨ j = 1) with rfl | rfl <;> rfl) hh_186 hB (by rw [hRc]; omega) (by rw [hRs]; omega) dX8_init_60 (fun H_246 hraw_246 hfr_246 hnr_246 hh_246 => ?_)
          have hlt_247 := hraw_188.lt
          have hke_246 : jKe G0 G0 H_186 H_246 := jKe.raw hfr_246
          have hbr_246 : base ≤ H_186.size := Nat.le_trans hbs hh_186.1.1
          have hsy_246 : s.heap.size ≤ H_186.size := hh_186.1.1
          clear hh_186
          have hraw_248n := hke_246.nr hraw_188.lt hnr0
          have hraw_248 := hraw_188.kept (hke_246.1 _ hraw_188.lt)
          have hne_249 : r0 ≠ H_186.size := Nat.ne_of_lt hlt_247
          refine lv_dup hx hb dX8_init_63 rfl ?_
          refine lv_bipush (v := 16) hx hb dX8_init_64 (by decide) ?_
          have hsz_250 := hh_246.2.2.2.2.2.1
          have htt_250 := hh_246.2.2.2.2.2.2.1
          refine W.room (fun hrc_250 hrs_250 => ?_)
          refine va_callv (A0 := jA base) (H0 := s.heap) (va_runI (As := [.int 16]) (rest := [.ref H_186.size, .ref r0]) ⟨hx, hb, hml, hown, hts⟩ (uX0_initY l dC dI ca base B hB hAp hB2 hB196 G0 H_246 H_186.size 16 0 LC LS) (cwI 1 hts (jgW (jWr_3 _ (List.mem_of_getElem? (i := 3) rfl))) rfl rfl rfl (htw (.initialized RX0) (jWr_1 _ (List.mem_of_getElem? (i := 14) rfl))) (htw (.methodLink RX8 26 yX0_init) (jWr_24 _ (List.mem_of_getElem? (i := 10) rfl))) (htw (.instanceMethod yX0_init) (jWr_3 _ (List.mem_of_getElem? (i := 2) rfl))) rfl (by decide +kernel) ⟨by rw [← hR]; exact Nat.le_of_ble_eq_true rfl, by rw [← hR]; exact Nat.le_of_ble_eq_true rfl⟩) ⟨fun a U g mk q => by obtain ⟨q0, q1, q2, qK, q10, q11, q12, q13, q14, q15⟩ := q; exact ⟨q0, q1, q2, jG.calling g mk a qK, q10, q11, q12, q13, q14, q15⟩, fun U hU hW => ⟨rfl, hU, hh_246.2.1, hG.step hW hU hh_246.1, hraw_246, hnr_246, hbr_246, jP.nil, (hh_246.2.2.2.2.2.2.2.2.sub (L1 := [(jFy, jYb dC dI G0)]) [1] rfl), (by omega), (by omega), ⟨(by first | omega | rfl | assumption | exact fun _ => jPw.z16), (by first | omega | rfl | assumption | exact fun _ => jPw.z16), (by first | omega | rfl | assumption | exact fun _ => jPw.z16), (by first | assumption | exact fun _ => jPw.z16 | omega), (by first | omega | rfl | assumption | exact fun _ => jPw.z16)⟩⟩⟩ rfl rfl hl.1 rfl (lv_room (Nat.le_of_ble_eq_true rfl)) dX8_init_66 ⟨by rw [hRc]; omega, by rw [hRs]; omega⟩) hh_246.1 (fun q _ h => h) (fun q h => h) (fun u_250 t_250 H_250 locs_250 ht_250 hvm_250 hr_251 hb_250 hz_250 hk_250 hS_250 => ?_)
          obtain ⟨qc_250, qa_250, m_qa_250, G_250⟩ := u_250
          rw [ht_250] at hb_250
          simp only at hb_250
          obtain ⟨⟨hb_2501, hb_2502, hb_2503, hb_2504, hb_2505, hb_2506⟩, hgq_250_0, hN_250, hgc_250, hbX_250, hbE_250⟩ := hb_250
          have hN_250 : (jNk [0, 1, 3, 4, 5, 6, 7, 8, 9, 11, 12, 13, 14, 15, 16]) G0 G_250 := hN_250.sub (by decide)
          have hh_250 : jSt (dC, dI) B base G0 G_250 EX8_initU s.heap ((0 + 1) + (1)) ((0 + 2) + ((16 : Int).toNat)) [(H_186.size, 2, 1, .int qc_250), (H_186.size, 2, 0, .ref qa_250), (r1, 6, 7, .int pv), (r1, 6, 8, .int pu), (r1, 6, 0, .ref wk), (r1, 6, 1, .ref wi), (r1, 6, 2, .ref wz), (r1, 6, 3, .ref jnx), (r1, 6, 4, .ref jkf), (r1, 6, 5, .ref jks), (r1, 6, 6, .ref jun)] [(wk, 140, 1502, ca 1, fk), (wi, 141, 1502, ca 1, fi), (wz, 142, 1502, ca 1, fz), (jnx, 143, 1502, ca 1, fn), (jkf, 144, 1502, ca 1, fa), (jks, 145, 1502, ca 1, fs), (jun, 146, 3000, ca 1, fu)] [([(2, 0), (2, 1)], jOl (dC, dI) G0 2 [] s.heap)] H_250 locs_250 := (hh_246.callG hb_2501 hb_2502 hb_2503 hb_2504 hb_2505 hS_250 rfl (L1 := [(r1, 6, 7, .int pv), (r1, 6, 8, .int pu), (r1, 6, 0, .ref wk), (r1, 6, 1, .ref wi), (r1, 6, 2, .ref wz), (r1, 6, 3, .ref jnx), (r1, 6, 4, .ref jkf), (r1, 6, 5, .ref jks), (r1, 6, 6, .ref jun)]) [0, 1, 2, 3, 4, 5, 6, 7, 8] rfl rfl (M1 := [(wk, 140, 1502, ca 1, fk), (wi, 141, 1502, ca 1, fi), (wz, 142, 1502, ca 1, fz), (jnx, 143, 1502, ca 1, fn), (jkf, 144, 1502, ca 1, fa), (jks, 145, 1502, ca 1, fs), (jun, 146, 3000, ca 1, fu)]) [0, 1, 2, 3, 4, 5, 6] rfl rfl (I1 := [([(2, 0), (2, 1)], jOl (dC, dI) G0 2 [] s.heap)]) [0] rfl rfl).more hb_2506
          have hNn_250 : (jNk [0, 1, 3, 4, 5, 6, 7, 8, 9, 11, 12, 13, 14, 15, 16]) G0 G_250 := (jNk.rf).tr hN_250
          have hg_252 := hb_2502 _ _ hg_r1
          have hg_253 := hb_2502 _ _ hg_wk
          have hg_254 := hb_2502 _ _ hg_wi
          have hg_255 := hb_2502 _ _ hg_wz
          have hg_256 := hb_2502 _ _ hg_jnx
          have hg_257 := hb_2502 _ _ hg_jkf
          have hg_258 := hb_2502 _ _ hg_jks
          have hg_259 := hb_2502 _ _ hg_jun
          have hh_260 := hh_250.addIs hbE_250
          try simp only at hr_251
          obtain ⟨hr_251_0, hr_251_1⟩ := hr_251
          have hraw_261x := hbX_250.ke hraw_248.lt hne_249 hraw_248n
          have hraw_261 := hraw_248.kept hraw_261x.1
          refine lv_goto (tgt := 73) hx hb dX8_init_69 (by decide) ?_
          refine j7_putRF hx hb hown hK hh_260 hB hAp hraw_261 hraw_261x.2 hbr0 (C := RX8) (T := TX8) (N := 5) rfl (i := 0) (by decide) (Nat.le_of_ble_eq_true rfl) hly_10_0 rfl hin2 rfl hlk_29 (ty := (.object "ProofServer$Bytes")) (v := .ref H_186.size) (by decide +kernel) rfl rfl dX8_init_73 (fun H_262 locs_262 hraw_262 hr_262 hh_262 => ?_)
          have hraw_262 : va_at (dC, dI) vwCl (r0, .inr (10, [.ref H_186.size, .null, .int 0, .int 0, .int (-1)])) H_262 := hraw_262
          clear hh_260
          have hle_263 : jLe G_250 (va_up G_250 r0 (some (10, 0))) := jLe.typ hraw_261x.2
          have hg_264 := hle_263 _ _ hg_252
          have hg_265 := hle_263 _ _ hgq_250_0
          have hg_266 := hle_263 _ _ hg_253
          have hg_267 := hle_263 _ _ hg_254
          have hg_268 := hle_263 _ _ hg_255
          have hg_269 := hle_263 _ _ hg_256
          have hg_270 := hle_263 _ _ hg_257
          have hg_271 := hle_263 _ _ hg_258
          have hg_272 := hle_263 _ _ hg_259
          have hg_273 := (jLe.rf).tr hle_263 _ _ hgc_250
          have hfa_263 : jRn (va_up G_250 r0 (some (10, 0))) 2 0 (.ref H_186.size) ∧ jRn (va_up G_250 r0 (some (10, 0))) 3 0 (.null) ∧ jIa (.int 0) ∧ jZb (.int 0) ∧ jIa (.int (-1)) ∧ True := ⟨Or.inr ⟨_, rfl, hg_273⟩, Or.inl rfl, ⟨_, rfl⟩, ⟨_, rfl, Or.inl rfl⟩, ⟨_, rfl⟩, trivial⟩
          have hh_263 := hh_262.typ (k := 10) (n := 0) hB hraw_261x.2 hbr0 hraw_262.lt (jOb.of (C := RX8) (T := TX8) (N := 5) (F := F10) hB10 rfl hraw_262 (show jFx (F10 0 (va_up G_250 r0 (some (10, 0)))) [.ref H_186.size, .null, .int 0, .int 0, .int (-1)] from hfa_263))
          have hgn_263 : (va_up G_250 r0 (some (10, 0))) r0 = some (10, 0) := jUp_self
          have hN_263 : (jNk [0, 1, 3, 4, 5, 6, 7, 8, 9, 11, 12, 13, 14, 15, 16]) G_250 (va_up G_250 r0 (some (10, 0))) := jNk.new (by decide)
          have hNn_263 : (jNk [0, 1, 3, 4, 5, 6, 7, 8, 9, 11, 12, 13, 14, 15, 16]) G0 (va_up G_250 r0 (some (10, 0))) := (hNn_250).tr hN_263
          have hg_274 := (hle_263) _ _ hgc_250
          have hh_275 := hh_263.more (P1 := [(r0, 10, 0, .ref H_186.size), (r0, 10, 1, .null), (r0, 10, 2, .int 0), (r0, 10, 3, .int 0), (r0, 10, 4, .int (-1))]) (jP.cons hgn_263 (jf.raw (C := RX8) (T := TX8) (N := 5) rfl hraw_262 (i := 0) (by decide)) (jP.cons hgn_263 (jf.raw (C := RX8) (T := TX8) (N := 5) rfl hraw_262 (i := 1) (by decide)) (jP.cons hgn_263 (jf.raw (C := RX8) (T := TX8) (N := 5) rfl hraw_262 (i := 2) (by decide)) (jP.cons hgn_263 (jf.raw (C := RX8) (T := TX8) (N := 5) rfl hraw_262 (i := 3) (by decide)) (jP.cons hgn_263 (jf.raw (C := RX8) (T := TX8) (N := 5) rfl hraw_262 (i := 4) (by decide)) jP.nil)))))
          have hM_263 : jNk [1, 2, 11] G_250 (va_up G_250 r0 (some (10, 0))) := jNk.new (by decide)
          have hd_276 := jYb.grow (hh_275.iv 0 rfl) hle_263 hM_263 (by decide)
          have hh_277 := hh_275.sub (L1 := [(r0, 10, 0, .ref H_186.size), (r0, 10, 1, .null), (r0, 10, 2, .int 0), (r0, 10, 3, .int 0), (r0, 10, 4, .int (-1)), (H_186.size, 2, 1, .int qc_250), (H_186.size, 2, 0, .ref qa_250), (r1, 6, 7, .int pv), (r1, 6, 8, .int pu), (r1, 6, 0, .ref wk), (r1, 6, 1, .ref wi), (r1, 6, 2, .ref wz), (r1, 6, 3, .ref jnx), (r1, 6, 4, .ref jkf), (r1, 6, 5, .ref jks), (r1, 6, 6, .ref jun)]) [0, 1, 2, 3, 4, 5, 6, 7, 8, 9, 10, 11, 12, 13, 14, 15] rfl (M1 := [(wk, 140, 1502, ca 1, fk), (wi, 141, 1502, ca 1, fi), (wz, 142, 1502, ca 1, fz), (jnx, 143, 1502, ca 1, fn), (jkf, 144, 1502, ca 1, fa), (jks, 145, 1502, ca 1, fs), (jun, 146, 3000, ca 1, fu)]) [0, 1, 2, 3, 4, 5, 6] rfl (I1 := [([(2, 0), (2, 1)], jOl (dC, dI) G0 2 [] s.heap)]) [1] rfl
          clear hh_275
          have hh_278 := hh_277.addI (jYb.ie hd_276)
          clear hh_277
          refine lv_iload_n hx hb dX8_init_76 rfl (lv_at hl 1 rfl) ?_
          refine lv_if_eq (tgt := 95) hx hb dX8_init_77 (by decide) (fun c_279 => ?_) (fun c_279 => ?_)
          · skip
            exact absurd c_279 (by decide)
          · skip
            refine lv_aload_n hx hb dX8_init_80 rfl (lv_at hl 2 rfl) ?_
            refine j7_read hx hb hown hK (C := RX8) (T := TX8) (N := 5) rfl hly_10_0 hlk_29 (hh_278.at 0 rfl) dX8_init_81 ?_
            refine lv_aload_n hx hb dX8_init_84 rfl (lv_at hl 3 rfl) ?_
            refine lv_iload_n hx hb dX8_init_85 rfl (lv_at hl 4 rfl) ?_
            have hsz_280 := hh_278.2.2.2.2.2.1
            have htt_280 := hh_278.2.2.2.2.2.2.1
            refine W.room (fun hrc_280 hrs_280 => ?_)
            refine va_calli (A0 := jA base) (H0 := s.heap) (va_runV (As := [.int a2]) (rest := [.ref H_186.size]) ⟨hx, hb, hml, hown, hts⟩ (uX4_valueOf l dC dI ca base B hB hAp hB6 hB141 (va_up G_250 r0 (some (10, 0))) H_262 r1 a2) (cwV 1 hts (jgV (jWr_24 _ (List.mem_of_getElem? (i := 11) rfl)) (jWr_24 _ (List.mem_of_getElem? (i := 12) rfl)) (jWr_24 _ (List.mem_of_getElem? (i := 13) rfl)) (jWr_1 _ (List.mem_of_getElem? (i := 22) rfl)) (jWr_24 _ (List.mem_of_getElem? (i := 14) rfl))) rfl rfl rfl (by decide +kernel) ⟨by rw [← hR]; exact Nat.le_of_ble_eq_true rfl, by rw [← hR]; exact Nat.le_of_ble_eq_true rfl⟩) ⟨fun a U g mk q => by obtain ⟨q0, q1, q2, qK, q10, q11, q12⟩ := q; exact ⟨q0, q1, q2, jG.calling g mk a qK, q10, q11, q12⟩, hh_278.recv (C := RX4) (T := TX4) (N := 12) hB6 rfl (by decide) hg_264 hK, fun U hU hW => ⟨rfl, hU, hh_278.2.1, hG.step hW hU hh_278.1, hg_264, jP.nil, trivial⟩⟩ rfl rfl hl.1 rfl (lv_room (Nat.le_of_ble_eq_true rfl)) dX8_init_86 ⟨by rw [hRc]; show _ + 0 ≤ _; omega, by rw [hRs]; show _ + 0 ≤ _; omega⟩) hh_278.1 (fun q _ h => h) (fun q h => h) (fun r_281 u_280 t_280 H_280 locs_280 ht_280 hvm_280 hr_281 hb_280 hz_280 hk_280 hS_280 => ?_)
            rw [ht_280] at hb_280
            obtain ⟨hb_2801, hb_2802, hb_2803, hb_2804, hb_2805⟩ := hb_280
            have hh_280 : jSt (dC, dI) B base G0 (va_up G_250 r0 (some (10, 0))) EX8_initU s.heap ((0 + 1) + (1)) ((0 + 2) + ((16 : Int).toNat)) [(r0, 10, 0, .ref H_186.size), (r0, 10, 1, .null), (r0, 10, 2, .int 0), (r0, 10, 3, .int 0), (r0, 10, 4, .int (-1)), (H_186.size, 2, 1, .int qc_250), (H_186.size, 2, 0, .ref qa_250), (r1, 6, 7, .int pv), (r1, 6, 8, .int pu), (r1, 6, 0, .ref wk), (r1, 6, 1, .ref wi), (r1, 6, 2, .ref wz), (r1, 6, 3, .ref jnx), (r1, 6, 4, .ref jkf), (r1, 6, 5, .ref jks), (r1, 6, 6, .ref jun)] [(wk, 140, 1502, ca 1, fk), (wi, 141, 1502, ca 1, fi), (wz, 142, 1502, ca 1, fz), (jnx, 143, 1502, ca 1, fn), (jkf, 144, 1502, ca 1, fa), (jks, 145, 1502, ca 1, fs), (jun, 146, 3000, ca 1, fu)] [(jFy, jYb dC dI (va_up G_250 r0 (some (10, 0)))), ([(2, 0), (2, 1)], jOl (dC, dI) G0 2 [] s.heap)] H_280 locs_280 := ((hh_278.call hb_2801 hb_2802 hb_2803 hb_2804 hS_280 rfl (L1 := [(r0, 10, 0, .ref H_186.size), (r0, 10, 1, .null), (r0, 10, 2, .int 0), (r0, 10, 3, .int 0), (r0, 10, 4, .int (-1)), (H_186.size, 2, 1, .int qc_250), (H_186.size, 2, 0, .ref qa_250), (r1, 6, 7, .int pv), (r1, 6, 8, .int pu), (r1, 6, 0, .ref wk), (r1, 6, 1, .ref wi), (r1, 6, 2, .ref wz), (r1, 6, 3, .ref jnx), (r1, 6, 4, .ref jkf), (r1, 6, 5, .ref jks), (r1, 6, 6, .ref jun)]) [0, 1, 2, 3, 4, 5, 6, 7, 8, 9, 10, 11, 12, 13, 14, 15] rfl rfl (M1 := [(wk, 140, 1502, ca 1, fk), (wi, 141, 1502, ca 1, fi), (wz, 142, 1502, ca 1, fz), (jnx, 143, 1502, ca 1, fn), (jkf, 144, 1502, ca 1, fa), (jks, 145, 1502, ca 1, fs), (jun, 146, 3000, ca 1, fu)]) [0, 1, 2, 3, 4, 5, 6] rfl rfl (I1 := [(jFy, jYb dC dI (va_up G_250 r0 (some (10, 0)))), ([(2, 0), (2, 1)], jOl (dC, dI) G0 2 [] s.heap)]) [0, 1] rfl rfl).more hb_2805)
            clear hh_278 ht_280 hvm_280 hz_280 hk_280 hS_280 hb_2801 hb_2802 hb_2803 hb_2804 hb_2805
            have hsz_282 := hh_280.2.2.2.2.2.1
            have htt_282 := hh_280.2.2.2.2.2.2.1
            refine W.room (fun hrc_282 hrs_282 => ?_)
            refine va_callv (A0 := jA base) (H0 := s.heap) (va_runV (As := [.int r_281]) (rest := []) ⟨hx, hb, hml, hown, hts⟩ (uX0_numberS l dC dI ca base B hB hAp hB2 hB196 (va_up G_250 r0 (some (10, 0))) H_280 H_186.size r_281 qc_250 qa_250 m_qa_250 LC LS) (cwV 1 hts (jgV (jWr_24 _ (List.mem_of_getElem? (i := 15) rfl)) (jWr_24 _ (List.mem_of_getElem? (i := 16) rfl)) (jWr_24 _ (List.mem_of_getElem? (i := 17) rfl)) (jWr_1 _ (List.mem_of_getElem? (i := 14) rfl)) (jWr_24 _ (List.mem_of_getElem? (i := 18) rfl))) rfl rfl rfl (by decide +kernel) ⟨by rw [← hR]; exact Nat.le_of_ble_eq_true rfl, by rw [← hR]; exact Nat.le_of_ble_eq_true rfl⟩) ⟨fun a U g mk q => by obtain ⟨q0, q1, q2, qK, q10, q11, q12, q13⟩ := q; exact ⟨q0, q1, q2, jG.calling g mk a qK, q10, q11, q12, q13⟩, hh_280.recv (C := RX0) (T := TX0) (N := 2) hB2 rfl (by decide) hg_274 hK, fun U hU hW => ⟨rfl, hU, hh_280.2.1, hG.step hW hU hh_280.1, hg_274, hg_265, (hh_280.2.2.1.sub (L1 := [(H_186.size, 2, 1, .int qc_250), (H_186.size, 2, 0, .ref qa_250)]) [5, 6] rfl), (by omega), (by omega), ⟨(by first | omega | rfl | assumption | exact jPw.z16.cg (by omega)), (by first | omega | rfl | assumption | exact jPw.z16.cg (by omega)), (by first | omega | rfl | assumption | exact jPw.z16.cg (by omega)), (by first | omega | rfl | assumption | exact jPw.z16.cg (by omega)), (by first | assumption | exact jPw.z16.cg (by omega) | omega), (by first | omega | rfl | assumption | exact jPw.z16.cg (by omega))⟩⟩⟩ rfl rfl hl.1 rfl (lv_room (Nat.le_of_ble_eq_true rfl)) dX8_init_89 ⟨by rw [hRc]; omega, by rw [hRs]; omega⟩) hh_280.1 (fun q _ h => h) (fun q h => h) (fun u_282 t_282 H_282 locs_282 ht_282 hvm_282 hr_283 hb_282 hz_282 hk_282 hS_282 => ?_)
            obtain ⟨qc_282, qa_282, m_qa_282, G_282⟩ := u_282
            rw [ht_282] at hb_282
            simp only at hb_282
            obtain ⟨⟨hb_2821, hb_2822, hb_2823, hb_2824, hb_2825, hb_2826⟩, hgq_282_0, hN_282, hbO_282⟩ := hb_282
            have hY_282 := hN_282
            have hN_282 : (jNk [0, 1, 3, 4, 5, 6, 7, 8, 9, 11, 12, 13, 14, 15, 16]) (va_up G_250 r0 (some (10, 0))) G_282 := hN_282.sub (by decide)
            have hy_284 := hh_280.iv 0 rfl
            have hh_282 : jSt (dC, dI) B base G0 G_282 EX8_initU s.heap (((0 + 1) + (1)) + ((m_qa_282 - m_qa_250) / 16)) (((0 + 2) + ((16 : Int).toNat)) + (2 * (m_qa_282 - m_qa_250))) [(H_186.size, 2, 1, .int qc_282), (H_186.size, 2, 0, .ref qa_282), (r0, 10, 0, .ref H_186.size), (r0, 10, 1, .null), (r0, 10, 2, .int 0), (r0, 10, 3, .int 0), (r0, 10, 4, .int (-1)), (r1, 6, 7, .int pv), (r1, 6, 8, .int pu), (r1, 6, 0, .ref wk), (r1, 6, 1, .ref wi), (r1, 6, 2, .ref wz), (r1, 6, 3, .ref jnx), (r1, 6, 4, .ref jkf), (r1, 6, 5, .ref jks), (r1, 6, 6, .ref jun)] [(wk, 140, 1502, ca 1, fk), (wi, 141, 1502, ca 1, fi), (wz, 142, 1502, ca 1, fz), (jnx, 143, 1502, ca 1, fn), (jkf, 144, 1502, ca 1, fa), (jks, 145, 1502, ca 1, fs), (jun, 146, 3000, ca 1, fu)] [] H_282 locs_282 := (hh_280.callG hb_2821 hb_2822 hb_2823 hb_2824 hb_2825 hS_282 rfl (L1 := [(r0, 10, 0, .ref H_186.size), (r0, 10, 1, .null), (r0, 10, 2, .int 0), (r0, 10, 3, .int 0), (r0, 10, 4, .int (-1)), (r1, 6, 7, .int pv), (r1, 6, 8, .int pu), (r1, 6, 0, .ref wk), (r1, 6, 1, .ref wi), (r1, 6, 2, .ref wz), (r1, 6, 3, .ref jnx), (r1, 6, 4, .ref jkf), (r1, 6, 5, .ref jks), (r1, 6, 6, .ref jun)]) [0, 1, 2, 3, 4, 7, 8, 9, 10, 11, 12, 13, 14, 15] rfl rfl (M1 := [(wk, 140, 1502, ca 1, fk), (wi, 141, 1502, ca 1, fi), (wz, 142, 1502, ca 1, fz), (jnx, 143, 1502, ca 1, fn), (jkf, 144, 1502, ca 1, fa), (jks, 145, 1502, ca 1, fs), (jun, 146, 3000, ca 1, fu)]) [0, 1, 2, 3, 4, 5, 6] rfl rfl (I1 := []) [] rfl rfl).more hb_2826
            have hNn_282 : (jNk [0, 1, 3, 4, 5, 6, 7, 8, 9, 11, 12, 13, 14, 15, 16]) G0 G_282 := (hNn_263).tr hN_282
            have hg_285 := hb_2822 _ _ hgn_263
            have hg_286 := hb_2822 _ _ hg_264
            have hg_287 := hb_2822 _ _ hg_274
            have hg_288 := hb_2822 _ _ hg_266
            have hg_289 := hb_2822 _ _ hg_267
            have hg_290 := hb_2822 _ _ hg_268
            have hg_291 := hb_2822 _ _ hg_269
            have hg_292 := hb_2822 _ _ hg_270
            have hg_293 := hb_2822 _ _ hg_271
            have hg_294 := hb_2822 _ _ hg_272
            have hd_295 := jOl.trN (hh_280.iv 1 rfl) hh_280.2.2.2.2.1 hbO_282 (hnew0 _ hsy_246)
            have hh_296 := hh_282.addI (jOl.ie (dC := dC) (dI := dI) (G0 := G0) (k := 2) (rs := []) (H0 := s.heap) (F := [(2, 0), (2, 1)]) (C := RX0) (T := TX0) (N := 2) rfl (by decide) hh_282.2.2.2.2.1 (hd_295))
            clear hh_282
            have hyp_282 : qc_282.toInt ≤ (m_qa_282 : Nat) ∧ m_qa_282 ≤ 1048576 := by (try simp only at hr_283); omega
            have hy_297 := jYb.own hy_284 hbO_282 hb_2822 hY_282 (by decide) (fun _ => ⟨_, _, _, hh_296.at 0 rfl, hh_296.at 1 rfl, hgq_282_0, hyp_282⟩)
            have hh_298 := hh_296.addI (jYb.ie hy_297)
            clear hh_296
            try simp only at hr_283
            obtain ⟨hr_283_0, hr_283_1, hr_283_2, hr_283_3, hr_283_4, hr_283_5⟩ := hr_283
            refine lv_goto (tgt := 120) hx hb dX8_init_92 (by decide) ?_
            have hsz_299 := hh_298.2.2.2.2.2.1
            have htt_299 := hh_298.2.2.2.2.2.2.1
            refine W.room (fun hrc_299 hrs_299 => ?_)
            refine W.widen (k := LC - s.heap.size) (n := LS - jTot s.heap) (by omega) (by omega) ?_
            rw [hQ]
            exact W.vret hx hb hr (fun t ht hW => ⟨⟨G_282, rfl, trivial, ⟨hh_298.ra (by first | (simp only; omega) | omega) (by first | (simp only; omega) | omega) (M1 := []) [] rfl ht, hNn_282, by rw [ht]; exact hh_298.iv 1 rfl, hg_285, by rw [ht]; exact hh_298.2.2.2.2.2.2.2.2.sub (L1 := [(jFy, jYb dC dI G_282)]) [0] rfl, by rw [ht]; exact Or.inl ⟨Or.inl (by rw [← hk14]; omega), H_186.size, hg_287, hh_298.at 2 rfl⟩⟩⟩, by rw [ht]; try exact hh_298.1.1, fun q h9 hq => by rw [ht]; try exact hh_298.1.2.1 q h9 hq⟩) hh_298.1.2.2 dX8_init_120
        · skip
          exact absurd c_245 (by decide)
set_option maxHeartbeats 4000000 in
set_option maxRecDepth 20000 in
theorem uX11_understoodU (l : Launch) (dC : Nat → ClassId) (dI : Nat → Nat → Nat) (ca : Nat → ClassId) (base : Nat) (B : jF) (hB : jBok B) (hAp : jAp (dC, dI)) (hB2 : ∀ n G a H, B 2 n G a H ↔ jOb (dC, dI) 2 2 (F2 n G) a H) (hB4 : ∀ n G a H, B 4 n G a H ↔ jOb (dC, dI) 4 12 (F4 n G) a H) (hB6 : ∀ n G a H, B 6 n G a H ↔ jOb (dC, dI) 6 12 (F6 n G) a H) (hB10 : ∀ n G a H, B 10 n G a H ↔ jOb (dC, dI) 10 5 (F10 n G) a H) (hB13 : ∀ n G a H, B 13 n G a H ↔ jOb (dC, dI) 13 19 (F13 n G) a H) (hB100 : ∀ n G a H, B 100 n G a H ↔ jAr (dC, dI) (ca 0) (fun j z => True) n a H) (hB101 : ∀ n G a H, B 101 n G a H ↔ jAr (dC, dI) (ca 1) (fun j z => True) n a H) (hB140 : ∀ n G a H, B 140 n G a H ↔ jAr (dC, dI) (ca 1) (fun j z => True) n a H) (hB141 : ∀ n G a H, B 141 n G a H ↔ jAr (dC, dI) (ca 1) (fun j z => True) n a H) (hB142 : ∀ n G a H, B 142 n G a H ↔ jAr (dC, dI) (ca 1) (fun j z => True) n a H) (hB143 : ∀ n G a H, B 143 n G a H ↔ jAr (dC, dI) (ca 1) (fun j z => True) n a H) (hB144 : ∀ n G a H, B 144 n G a H ↔ jAr (dC, dI) (ca 1) (fun j z => 0 ≤ z.toInt ∧ z.toInt ≤ 3000) n a H) (hB145 : ∀ n G a H, B 145 n G a H ↔ jAr (dC, dI) (ca 1) (fun j z => True) n a H) (hB146 : ∀ n G a H, B 146 n G a H ↔ jAr (dC, dI) (ca 1) (fun j z => True) n a H) (hB196 : ∀ n G a H, B 196 n G a H ↔ jAr (dC, dI) (ca 0) (fun j z => jBf j z) n a H) (G0 : jT) (H0 : Heap) (r0 : Nat) (bo : Nat) (pc : Int32) (pa : Nat) (n_pa : Nat) (ou : Nat) (fm : Nat) (fl : Int32) (js : Nat) (wk : Nat) (wi : Nat) (wz : Nat) (jnx : Nat) (jkf : Nat) (jks : Nat) (jun : Nat) (bd_ : Nat) (fk : Nat → Int32) (fi : Nat → Int32) (fz : Nat → Int32) (fn : Nat → Int32) (fa : Nat → Int32) (fs : Nat → Int32) (fu : Nat → Int32) (fb : Nat → Int32) (LC LS : Nat) : Met l yX11_understood (jw yX11_understood cX11_understood 6 (some (.object "ProofServer$Request"))) ({ frames := 30, cells := LC - H0.size, slots := LS - jTot H0, locals := 1846 }) (va_Pc [.ref r0] (fun U => U.heap = H0 ∧ jX B base G0 [] H0 ∧ jG dC dI ca base U ∧ G0 r0 = some (13, 0) ∧ G0 bo = some (2, 0) ∧ G0 pa = some (196, n_pa) ∧ G0 ou = some (2, 20000) ∧ G0 fm = some (4, 0) ∧ G0 js = some (6, 0) ∧ G0 wk = some (140, 1502) ∧ G0 wi = some (141, 1502) ∧ G0 wz = some (142, 1502) ∧ G0 jnx = some (143, 1502) ∧ G0 jkf = some (144, 1502) ∧ G0 jks = some (145, 1502) ∧ G0 jun = some (146, 3000) ∧ G0 bd_ = some (100, 3000) ∧ jP (dC, dI) G0 H0 [(r0, 13, 4, .ref bo), (bo, 2, 1, .int pc), (bo, 2, 0, .ref pa), (r0, 13, 3, .ref ou), (r0, 13, 1, .ref fm), (fm, 4, 1, .int fl), (r0, 13, 2, .ref js), (js, 6, 0, .ref wk), (js, 6, 1, .ref wi), (js, 6, 2, .ref wz), (js, 6, 3, .ref jnx), (js, 6, 4, .ref jkf), (js, 6, 5, .ref jks), (js, 6, 6, .ref jun), (fm, 4, 0, .ref bd_)] ∧ jMc (dC, dI) G0 H0 [(wk, 140, 1502, ca 1, fk), (wi, 141, 1502, ca 1, fi), (wz, 142, 1502, ca 1, fz), (jnx, 143, 1502, ca 1, fn), (jkf, 144, 1502, ca 1, fa), (jks, 145, 1502, ca 1, fs), (jun, 146, 3000, ca 1, fu), (bd_, 100, 3000, ca 0, fb)] ∧ jIs (dC, dI) G0 H0 [(jFy, jYb dC dI G0)] ∧ H0.size + (1048576 - n_pa) / 16 + 20 ≤ LC ∧ jTot H0 + 2 * (1048576 - n_pa) + 3400 ≤ LS ∧ 0 ≤ pc.toInt ∧ pc.toInt ≤ n_pa ∧ 16 ≤ n_pa ∧ n_pa ≤ 1048576 ∧ jPw n_pa ∧ 0 ≤ fl.toInt ∧ fl.toInt ≤ 3000 ∧ jjFt fb fl.toInt)) (jQx (S := Int32 × Int32 × Int32 × Nat × Nat × (Nat → Int32) × (Nat → Int32) × (Nat → Int32) × (Nat → Int32) × (Nat → Int32) × (Nat → Int32) × (Nat → Int32) × Option Nat × (Nat → Int → Int) × Nat × jT) (fun v u => (v = .null ∨ (jRf u.2.2.2.2.2.2.2.2.2.2.2.2.2.2.2 10 u.2.2.2.2.2.2.2.2.2.2.2.2.2.2.1 v ∧ jNwv v H0)) ∧ 0 ≤ u.1.toInt ∧ u.1.toInt ≤ u.2.2.2.2.1 ∧ n_pa ≤ u.2.2.2.2.1 ∧ u.2.2.2.2.1 ≤ 1048576 ∧ jPw u.2.2.2.2.1 ∧ u.2.2.2.2.2.2.2.2.2.2.2.2.2.2.1 = 0 ∧ u.2.1.toInt ≤ 1502 ∧ u.2.2.1.toInt ≤ 3000 ∧ jJr (fk, fi, fz, fa, fs) 0 0 (u.2.2.2.2.2.1, u.2.2.2.2.2.2.1, u.2.2.2.2.2.2.2.1, u.2.2.2.2.2.2.2.2.2.1, u.2.2.2.2.2.2.2.2.2.2.1) u.2.1.toInt u.2.2.1.toInt ∧ (v = .null ∨ jUd (u.2.2.2.2.2.1, u.2.2.2.2.2.2.1, u.2.2.2.2.2.2.2.1, u.2.2.2.2.2.2.2.2.2.1, u.2.2.2.2.2.2.2.2.2.2.1) u.2.1.toInt u.2.2.1.toInt fl.toInt) ∧ v = va_rf u.2.2.2.2.2.2.2.2.2.2.2.2.1 ∧ jdUs (jjRd (jB8 fb) fl.toInt) u.2.2.2.2.2.2.2.2.2.2.2.2.1 u.2.1.toInt u.2.2.1.toInt u.2.2.2.2.2.2.2.2.2.2.2.2.2.1 u.2.2.2.2.2.1 u.2.2.2.2.2.2.1 u.2.2.2.2.2.2.2.1 u.2.2.2.2.2.2.2.2.1 u.2.2.2.2.2.2.2.2.2.1 u.2.2.2.2.2.2.2.2.2.2.1 u.2.2.2.2.2.2.2.2.2.2.2.1) (fun u t => jRa (dC, dI) B base G0 u.2.2.2.2.2.2.2.2.2.2.2.2.2.2.2 EX11_understoodU H0 ((u.2.2.2.2.1 - n_pa) / 16 + 11) (2 * (u.2.2.2.2.1 - n_pa) + 267) [(bo, 2, 1, .int u.1), (js, 6, 7, .int u.2.1), (js, 6, 8, .int u.2.2.1), (bo, 2, 0, .ref u.2.2.2.1)] t.heap ∧ u.2.2.2.2.2.2.2.2.2.2.2.2.2.2.2 u.2.2.2.1 = some (196, u.2.2.2.2.1) ∧ (jNk [0, 1, 3, 4, 5, 6, 7, 8, 9, 11, 12, 13, 14, 15, 16]) G0 u.2.2.2.2.2.2.2.2.2.2.2.2.2.2.2 ∧ jOl (dC, dI) G0 2 [bo, ou] H0 t.heap ∧ jIs (dC, dI) u.2.2.2.2.2.2.2.2.2.2.2.2.2.2.2 t.heap [(jFy, jYb dC dI u.2.2.2.2.2.2.2.2.2.2.2.2.2.2.2)] ∧ jMc (dC, dI) u.2.2.2.2.2.2.2.2.2.2.2.2.2.2.2 t.heap [(wk, 140, 1502, ca 1, u.2.2.2.2.2.1), (wi, 141, 1502, ca 1, u.2.2.2.2.2.2.1), (wz, 142, 1502, ca 1, u.2.2.2.2.2.2.2.1), (jnx, 143, 1502, ca 1, u.2.2.2.2.2.2.2.2.1), (jkf, 144, 1502, ca 1, u.2.2.2.2.2.2.2.2.2.1), (jks, 145, 1502, ca 1, u.2.2.2.2.2.2.2.2.2.2.1), (jun, 146, 3000, ca 1, u.2.2.2.2.2.2.2.2.2.2.2.1)] ∧ jRv dC dI u.2.2.2.2.2.2.2.2.2.2.2.2.2.2.2 u.2.2.2.2.2.2.2.2.2.2.2.2.1 (0 ≤ jdId u.2.2.2.2.2.2.2.2.2.2.2.2.2.1 u.2.1.toInt) t.heap) (jA base)) (LC - H0.size) (LS - jTot H0) (jA base) := by
  refine Met.ofW (cc := cX11_understood) (maxL := 6) (ret := (some (.object "ProofServer$Request"))) (by decide) rfl ?_
  intro p e s m args below meth c s₁ Bd hml hv
  obtain ⟨rfl, hH0, hX, hG, hg_r0, hg_bo, hg_pa, hg_ou, hg_fm, hg_js, hg_wk, hg_wi, hg_wz, hg_jnx, hg_jkf, hg_jks, hg_jun, hg_bd_, hP0, hM0, hI0, hLC0, hLS0, hp0, hp1, hp2, hp3, hp4, hp5, hp6, hp7⟩ := hv
  have hK := hG.1
  have hx := Bd.exec
  have hb := Bd.bytes
  have hr := Bd.returns
  have hts := atoms_spec (ws := (jw yX11_understood cX11_understood 6 (some (.object "ProofServer$Request")))) Bd.pre
  have htw : ∀ w ∈ jWl, w.before _ s = true := fun w h => hts w (List.mem_cons_of_mem _ h)
  have hown : s.vm.findClass RX11 = some m.cls := findClass_of_methodNamed Bd.named
  have hlocks := Bd.notSynchronized
  obtain ⟨Q, hQ⟩ : ∃ Q, Q = MQ below (jQx (S := Int32 × Int32 × Int32 × Nat × Nat × (Nat → Int32) × (Nat → Int32) × (Nat → Int32) × (Nat → Int32) × (Nat → Int32) × (Nat → Int32) × (Nat → Int32) × Option Nat × (Nat → Int → Int) × Nat × jT) (fun v u => (v = .null ∨ (jRf u.2.2.2.2.2.2.2.2.2.2.2.2.2.2.2 10 u.2.2.2.2.2.2.2.2.2.2.2.2.2.2.1 v ∧ jNwv v H0)) ∧ 0 ≤ u.1.toInt ∧ u.1.toInt ≤ u.2.2.2.2.1 ∧ n_pa ≤ u.2.2.2.2.1 ∧ u.2.2.2.2.1 ≤ 1048576 ∧ jPw u.2.2.2.2.1 ∧ u.2.2.2.2.2.2.2.2.2.2.2.2.2.2.1 = 0 ∧ u.2.1.toInt ≤ 1502 ∧ u.2.2.1.toInt ≤ 3000 ∧ jJr (fk, fi, fz, fa, fs) 0 0 (u.2.2.2.2.2.1, u.2.2.2.2.2.2.1, u.2.2.2.2.2.2.2.1, u.2.2.2.2.2.2.2.2.2.1, u.2.2.2.2.2.2.2.2.2.2.1) u.2.1.toInt u.2.2.1.toInt ∧ (v = .null ∨ jUd (u.2.2.2.2.2.1, u.2.2.2.2.2.2.1, u.2.2.2.2.2.2.2.1, u.2.2.2.2.2.2.2.2.2.1, u.2.2.2.2.2.2.2.2.2.2.1) u.2.1.toInt u.2.2.1.toInt fl.toInt) ∧ v = va_rf u.2.2.2.2.2.2.2.2.2.2.2.2.1 ∧ jdUs (jjRd (jB8 fb) fl.toInt) u.2.2.2.2.2.2.2.2.2.2.2.2.1 u.2.1.toInt u.2.2.1.toInt u.2.2.2.2.2.2.2.2.2.2.2.2.2.1 u.2.2.2.2.2.1 u.2.2.2.2.2.2.1 u.2.2.2.2.2.2.2.1 u.2.2.2.2.2.2.2.2.1 u.2.2.2.2.2.2.2.2.2.1 u.2.2.2.2.2.2.2.2.2.2.1 u.2.2.2.2.2.2.2.2.2.2.2.1) (fun u t => jRa (dC, dI) B base G0 u.2.2.2.2.2.2.2.2.2.2.2.2.2.2.2 EX11_understoodU H0 ((u.2.2.2.2.1 - n_pa) / 16 + 11) (2 * (u.2.2.2.2.1 - n_pa) + 267) [(bo, 2, 1, .int u.1), (js, 6, 7, .int u.2.1), (js, 6, 8, .int u.2.2.1), (bo, 2, 0, .ref u.2.2.2.1)] t.heap ∧ u.2.2.2.2.2.2.2.2.2.2.2.2.2.2.2 u.2.2.2.1 = some (196, u.2.2.2.2.1) ∧ (jNk [0, 1, 3, 4, 5, 6, 7, 8, 9, 11, 12, 13, 14, 15, 16]) G0 u.2.2.2.2.2.2.2.2.2.2.2.2.2.2.2 ∧ jOl (dC, dI) G0 2 [bo, ou] H0 t.heap ∧ jIs (dC, dI) u.2.2.2.2.2.2.2.2.2.2.2.2.2.2.2 t.heap [(jFy, jYb dC dI u.2.2.2.2.2.2.2.2.2.2.2.2.2.2.2)] ∧ jMc (dC, dI) u.2.2.2.2.2.2.2.2.2.2.2.2.2.2.2 t.heap [(wk, 140, 1502, ca 1, u.2.2.2.2.2.1), (wi, 141, 1502, ca 1, u.2.2.2.2.2.2.1), (wz, 142, 1502, ca 1, u.2.2.2.2.2.2.2.1), (jnx, 143, 1502, ca 1, u.2.2.2.2.2.2.2.2.1), (jkf, 144, 1502, ca 1, u.2.2.2.2.2.2.2.2.2.1), (jks, 145, 1502, ca 1, u.2.2.2.2.2.2.2.2.2.2.1), (jun, 146, 3000, ca 1, u.2.2.2.2.2.2.2.2.2.2.2.1)] ∧ jRv dC dI u.2.2.2.2.2.2.2.2.2.2.2.2.2.2.2 u.2.2.2.2.2.2.2.2.2.2.2.2.1 (0 ≤ jdId u.2.2.2.2.2.2.2.2.2.2.2.2.2.1 u.2.1.toInt) t.heap) (jA base)) ([.ref r0] : List Value).toArray s (LC - H0.size) (LS - jTot H0) (jA base) := ⟨_, rfl⟩
  rw [← hQ]
  have hl := lv_entry ([.ref r0]) (n := 6) (Nat.le_of_ble_eq_true rfl)
  rw [lg_entry_eq]
  generalize (lg_sl ([.ref r0]) ++ List.replicate (6 - (lg_sl ([.ref r0])).length) Slot.unset).toArray = ls at hl ⊢
  have hl : lv_has ls 6 [(0, .ref r0)] := hl
  generalize hR : (headSpec (jw yX11_understood cX11_understood 6 (some (.object "ProofServer$Request"))) ({ frames := 30, cells := LC - H0.size, slots := LS - jTot H0, locals := 1846 })).room = R
  subst hH0
  have hh : jSt (dC, dI) B base G0 G0 EX11_understoodU s.heap 0 0 [(r0, 13, 4, .ref bo), (bo, 2, 1, .int pc), (bo, 2, 0, .ref pa), (r0, 13, 3, .ref ou), (r0, 13, 1, .ref fm), (fm, 4, 1, .int fl), (r0, 13, 2, .ref js), (js, 6, 0, .ref wk), (js, 6, 1, .ref wi), (js, 6, 2, .ref wz), (js, 6, 3, .ref jnx), (js, 6, 4, .ref jkf), (js, 6, 5, .ref jks), (js, 6, 6, .ref jun), (fm, 4, 0, .ref bd_)] [(wk, 140, 1502, ca 1, fk), (wi, 141, 1502, ca 1, fi), (wz, 142, 1502, ca 1, fz), (jnx, 143, 1502, ca 1, fn), (jkf, 144, 1502, ca 1, fa), (jks, 145, 1502, ca 1, fs), (jun, 146, 3000, ca 1, fu), (bd_, 100, 3000, ca 0, fb)] [(jFy, jYb dC dI G0)] s.heap [] := jSt.start hX hP0 hM0 hI0
  clear hX hP0
  have hkm32700 : ((-32700) : Int32).toInt = (-32700) := by decide
  have hkm32600 : ((-32600) : Int32).toInt = (-32600) := by decide
  have hkm1 : ((-1) : Int32).toInt = (-1) := by decide
  have hk0 : (0 : Int32).toInt = 0 := by decide
  have hk1 : (1 : Int32).toInt = 1 := by decide
  have hk3 : (3 : Int32).toInt = 3 := by decide
  have hly_4_0 := htw (u_lay RX2 TX2 0) (jWc_wsX20 _ (u_in_lay (by decide)))
  have hly_4_1 := htw (u_lay RX2 TX2 1) (jWc_wsX20 _ (u_in_lay (by decide)))
  have hly_10_0 := htw (u_lay RX8 TX8 0) (jWc_wsX80 _ (u_in_lay (by decide)))
  have hly_13_1 := htw (u_lay RX11 TX11 1) (jWc_wsX110 _ (u_in_lay (by decide)))
  have hly_13_2 := htw (u_lay RX11 TX11 2) (jWc_wsX110 _ (u_in_lay (by decide)))
  have hlk_28 := (htw (.fieldLink RX11 28 "ProofServer" "json" "LProofServer$Json;") (jWr_1 _ (List.mem_of_getElem? (i := 23) rfl)))
  have hlk_21 := (htw (.fieldLink RX11 21 "ProofServer" "frames" "LProofServer$Frames;") (jWr_1 _ (List.mem_of_getElem? (i := 19) rfl)))
  have hlk_253 := (htw (.fieldLink RX11 253 "ProofServer$Frames" "body" "[B") (jWr_19 _ (List.mem_of_getElem? (i := 1) rfl)))
  have hlk_255 := (htw (.fieldLink RX11 255 "ProofServer$Frames" "length" "I") (jWr_19 _ (List.mem_of_getElem? (i := 2) rfl)))
  obtain ⟨str259, rstr259, hstr2590⟩ := hG.strT (o := RX11) (k := 259) (tx := "id") (List.mem_of_getElem? (i := 730) (by decide +kernel))
  have hTstr259 : jStrF base str259 2 (jChT "id") s s.heap := hstr2590.F (by decide +kernel)
  have hstr259 : jStr base str259 2 s s.heap := hTstr259.str
  obtain ⟨str271, rstr271, hstr2710⟩ := hG.strT (o := RX11) (k := 271) (tx := "params") (List.mem_of_getElem? (i := 852) (by decide +kernel))
  have hTstr271 : jStrF base str271 6 (jChT "params") s s.heap := hstr2710.F (by decide +kernel)
  have hstr271 : jStr base str271 6 s s.heap := hTstr271.str
  obtain ⟨str273, rstr273, hstr2730⟩ := hG.strT (o := RX11) (k := 273) (tx := "jsonrpc") (List.mem_of_getElem? (i := 853) (by decide +kernel))
  have hTstr273 : jStrF base str273 7 (jChT "jsonrpc") s s.heap := hstr2730.F (by decide +kernel)
  have hstr273 : jStr base str273 7 s s.heap := hTstr273.str
  obtain ⟨str275, rstr275, hstr2750⟩ := hG.strT (o := RX11) (k := 275) (tx := "2.0") (List.mem_of_getElem? (i := 854) (by decide +kernel))
  have hTstr275 : jStrF base str275 3 (jChT "2.0") s s.heap := hstr2750.F (by decide +kernel)
  have hstr275 : jStr base str275 3 s s.heap := hTstr275.str
  obtain ⟨str281, rstr281, hstr2810⟩ := hG.strT (o := RX11) (k := 281) (tx := "method") (List.mem_of_getElem? (i := 859) (by decide +kernel))
  have hTstr281 : jStrF base str281 6 (jChT "method") s s.heap := hstr2810.F (by decide +kernel)
  have hstr281 : jStr base str281 6 s s.heap := hTstr281.str
  have hlk_114 := (htw (.fieldLink RX11 114 "ProofServer$Request" "id" "LProofServer$Bytes;") (jWr_17 _ (List.mem_of_getElem? (i := 9) rfl)))
  have hbs : base ≤ s.heap.size := Nat.le_of_lt (Nat.lt_of_le_of_lt (hh.ab hg_r0).1 (hh.ab hg_r0).2)
  have hRc : R.cells = LC - s.heap.size := by rw [← hR]; rfl
  have hRs : R.slots = LS - jTot s.heap := by rw [← hR]; rfl
  have hh_1 := hh.addI (jOl.ie (dC := dC) (dI := dI) (G0 := G0) (k := 2) (rs := [bo, ou]) (H0 := s.heap) (F := [(2, 0), (2, 1)]) (C := RX0) (T := TX0) (N := 2) rfl (by decide) hh.2.2.2.2.1 (jOl.rf))
  clear hh
  refine lv_aload_n hx hb dX11_understood_0 rfl (lv_at hl 0 rfl) ?_
  refine j7_read hx hb hown hK (C := RX11) (T := TX11) (N := 19) rfl hly_13_2 hlk_28 (hh_1.at 6 rfl) dX11_understood_1 ?_
  refine lv_aload_n hx hb dX11_understood_4 rfl (lv_at hl 0 rfl) ?_
  refine j7_read hx hb hown hK (C := RX11) (T := TX11) (N := 19) rfl hly_13_1 hlk_21 (hh_1.at 4 rfl) dX11_understood_5 ?_
  refine j7_read hx hb hown hK (C := RX2) (T := TX2) (N := 12) rfl hly_4_0 hlk_253 (hh_1.at 14 rfl) dX11_understood_8 ?_
  refine lv_aload_n hx hb dX11_understood_11 rfl (lv_at hl 0 rfl) ?_
  refine j7_read hx hb hown hK (C := RX11) (T := TX11) (N := 19) rfl hly_13_1 hlk_21 (hh_1.at 4 rfl) dX11_understood_12 ?_
  refine j7_read hx hb hown hK (C := RX2) (T := TX2) (N := 12) rfl hly_4_1 hlk_255 (hh_1.at 5 rfl) dX11_understood_15 ?_
  have hsz_2 := hh_1.2.2.2.2.2.1
  have htt_2 := hh_1.2.2.2.2.2.2.1
  refine W.room (fun hrc_2 hrs_2 => ?_)
  refine va_calli (A0 := jA base) (H0 := s.heap) (va_runV (As := [.ref bd_, .int fl]) (rest := []) ⟨hx, hb, hml, hown, hts⟩ (uX4_readJ l dC dI ca base B hB hAp hB6 hB100 hB140 hB141 hB142 hB143 hB144 hB145 hB146 G0 s.heap js bd_ fl 3000 wk wi wz jnx jkf jks jun fb fk fi fz fn fa fs fu) (cwV 2 hts (jgV (jWr_19 _ (List.mem_of_getElem? (i := 6) rfl)) (jWr_19 _ (List.mem_of_getElem? (i := 7) rfl)) (jWr_19 _ (List.mem_of_getElem? (i := 8) rfl)) (jWr_1 _ (List.mem_of_getElem? (i := 22) rfl)) (jWr_19 _ (List.mem_of_getElem? (i := 9) rfl))) rfl rfl rfl (by decide +kernel) ⟨by rw [← hR]; exact Nat.le_of_ble_eq_true rfl, by rw [← hR]; exact Nat.le_of_ble_eq_true rfl⟩) ⟨fun a U g mk q => by obtain ⟨q0, q1, q2, qK, q10, q11, q12, q13, q14, q15, q16, q17, q18, q19, q20, q21⟩ := q; exact ⟨q0, q1, q2, jG.calling g mk a qK, q10, q11, q12, q13, q14, q15, q16, q17, q18, q19, q20, q21⟩, hh_1.recv (C := RX4) (T := TX4) (N := 12) hB6 rfl (by decide) hg_js hK, fun U hU hW => ⟨rfl, hU, hh_1.2.1, hG.step hW hU hh_1.1, hg_bd_, hg_js, hg_wk, hg_wi, hg_wz, hg_jnx, hg_jkf, hg_jks, hg_jun, (hh_1.2.2.1.sub (L1 := [(js, 6, 0, .ref wk), (js, 6, 1, .ref wi), (js, 6, 2, .ref wz), (js, 6, 3, .ref jnx), (js, 6, 4, .ref jkf), (js, 6, 5, .ref jks), (js, 6, 6, .ref jun)]) [7, 8, 9, 10, 11, 12, 13] rfl), (hh_1.2.2.2.2.2.2.2.1.sub (L1 := [(bd_, 100, 3000, ca 0, fb), (wk, 140, 1502, ca 1, fk), (wi, 141, 1502, ca 1, fi), (wz, 142, 1502, ca 1, fz), (jnx, 143, 1502, ca 1, fn), (jkf, 144, 1502, ca 1, fa), (jks, 145, 1502, ca 1, fs), (jun, 146, 3000, ca 1, fu)]) [7, 0, 1, 2, 3, 4, 5, 6] rfl), ⟨(by first | omega | rfl | assumption | fail), (by first | omega | rfl | assumption | fail), (by first | omega | rfl | assumption | fail), (by first | assumption | fail | omega)⟩⟩⟩ rfl rfl hl.1 rfl (lv_room (Nat.le_of_ble_eq_true rfl)) dX11_understood_18 ⟨by rw [hRc]; show _ + 0 ≤ _; omega, by rw [hRs]; show _ + 0 ≤ _; omega⟩) hh_1.1 (fun q _ h => h) (fun q h => h) (fun r_3 u_2 t_2 H_2 locs_2 ht_2 hvm_2 hr_3 hb_2 hz_2 hk_2 hS_2 => ?_)
  obtain ⟨qv_2, qu_2, gk_2, gi_2, gz_2, gn_2, ga_2, gs_2, gu_2⟩ := u_2
  rw [ht_2] at hb_2
  obtain ⟨⟨hb_21, hb_22, hb_23, hb_24, hb_25⟩, hb_26⟩ := hb_2
  have hh_2 : jSt (dC, dI) B base G0 G0 EX11_understoodU s.heap 0 0 [(js, 6, 7, .int qv_2), (js, 6, 8, .int qu_2), (r0, 13, 4, .ref bo), (bo, 2, 1, .int pc), (bo, 2, 0, .ref pa), (r0, 13, 3, .ref ou), (r0, 13, 1, .ref fm), (fm, 4, 1, .int fl), (r0, 13, 2, .ref js), (js, 6, 0, .ref wk), (js, 6, 1, .ref wi), (js, 6, 2, .ref wz), (js, 6, 3, .ref jnx), (js, 6, 4, .ref jkf), (js, 6, 5, .ref jks), (js, 6, 6, .ref jun), (fm, 4, 0, .ref bd_)] [(wk, 140, 1502, ca 1, gk_2), (wi, 141, 1502, ca 1, gi_2), (wz, 142, 1502, ca 1, gz_2), (jnx, 143, 1502, ca 1, gn_2), (jkf, 144, 1502, ca 1, ga_2), (jks, 145, 1502, ca 1, gs_2), (jun, 146, 3000, ca 1, gu_2), (bd_, 100, 3000, ca 0, fb)] [([(2, 0), (2, 1)], jOl (dC, dI) G0 2 [bo, ou] s.heap), (jFy, jYb dC dI G0)] H_2 locs_2 := ((hh_1.call hb_21 hb_22 hb_23 hb_24 hS_2 rfl (L1 := [(r0, 13, 4, .ref bo), (bo, 2, 1, .int pc), (bo, 2, 0, .ref pa), (r0, 13, 3, .ref ou), (r0, 13, 1, .ref fm), (fm, 4, 1, .int fl), (r0, 13, 2, .ref js), (js, 6, 0, .ref wk), (js, 6, 1, .ref wi), (js, 6, 2, .ref wz), (js, 6, 3, .ref jnx), (js, 6, 4, .ref jkf), (js, 6, 5, .ref jks), (js, 6, 6, .ref jun), (fm, 4, 0, .ref bd_)]) [0, 1, 2, 3, 4, 5, 6, 7, 8, 9, 10, 11, 12, 13, 14] rfl rfl (M1 := [(bd_, 100, 3000, ca 0, fb)]) [7] rfl rfl (I1 := [([(2, 0), (2, 1)], jOl (dC, dI) G0 2 [bo, ou] s.heap), (jFy, jYb dC dI G0)]) [0, 1] rfl rfl).more hb_25).moreM hb_26
  clear hh_1 ht_2 hvm_2 hz_2 hk_2 hS_2 hb_21 hb_22 hb_23 hb_24 hb_25
  clear hb_26
  try simp only at hr_3
  obtain ⟨hr_3b, hr_3p⟩ := hr_3
  obtain ⟨hr_3p_0, hr_3p_1, hr_3p_2, hr_3p_3, hr_3p_4⟩ := hr_3p
  have hj1 := hr_3p_2.1
  have hr_3' := jb_01 hr_3b
  refine lv_istore_n (lv' := [(1, .int r_3), (0, .ref r0)]) hx hb dX11_understood_21 rfl hl (by decide) rfl (fun ls hl => ?_)
  refine lv_iload_n hx hb dX11_understood_22 rfl (lv_at hl 0 rfl) ?_
  refine lv_if_eq (tgt := 40) hx hb dX11_understood_23 (by decide) (fun c_4 => ?_) (fun c_4 => ?_)
  · skip
    have c_4' : r_3.toInt = 0 := jb_eq (rfl) ((by decide)) c_4
    first | (have hr_3p_3q := hr_3p_3.resolve_left (by omega); clear hr_3p_3) | (have hr_3p_3q := hr_3p_3.resolve_right (by omega); clear hr_3p_3) | skip
    have hX0 := hr_3p_4.resolve_right (fun q => by omega)
    refine lv_iconst (v := (-1)) hx hb dX11_understood_40 (by decide) ?_
    refine lv_istore_n (lv' := [(2, .int (-1)), (1, .int r_3), (0, .ref r0)]) hx hb dX11_understood_41 rfl hl (by decide) rfl (fun ls hl => ?_)
    have hsz_5 := hh_2.2.2.2.2.2.1
    have htt_5 := hh_2.2.2.2.2.2.2.1
    refine j7_newo (k := 10) (C := RX8) (T := TX8) (N := 5) (fs := [.null, .null, .int 0, .int 0, .int 0]) hx hb htw jWc_wsX80 (fun k => ([(.object "ProofServer$Bytes"), (.object "ProofServer$Document"), .int, .boolean, .int] : List FieldType).getD k .int) (by decide +kernel) hown (htw (.classLink RX11 115 RX8) (jWr_19 _ (List.mem_of_getElem? (i := 3) rfl))) (htw (.instantiable RX8 5) (jWr_19 _ (List.mem_of_getElem? (i := 4) rfl))) (htw (.initialized RX8) (jWr_19 _ (List.mem_of_getElem? (i := 5) rfl))) hK rfl (fun j hj => by rcases (by omega : j = 0 ∨ j = 1 ∨ j = 2 ∨ j = 3 ∨ j = 4) with rfl | rfl | rfl | rfl | rfl <;> rfl) hh_2 hB (by rw [hRc]; omega) (by rw [hRs]; omega) dX11_understood_42 (fun H_5 hraw_5 hfr_5 hnr_5 hh_5 => ?_)
    have hke_5 : jKe G0 G0 H_2 H_5 := jKe.raw hfr_5
    have hbr_5 : base ≤ H_2.size := Nat.le_trans hbs hh_2.1.1
    have hsy_5 : s.heap.size ≤ H_2.size := hh_2.1.1
    clear hh_2
    refine lv_dup hx hb dX11_understood_45 rfl ?_
    refine lv_aload_n hx hb dX11_understood_46 rfl (lv_at hl 2 rfl) ?_
    refine j7_read hx hb hown hK (C := RX11) (T := TX11) (N := 19) rfl hly_13_2 hlk_28 (hh_5.at 8 rfl) dX11_understood_47 ?_
    refine lv_iload_n hx hb dX11_understood_50 rfl (lv_at hl 0 rfl) ?_
    have hsz_6 := hh_5.2.2.2.2.2.1
    have htt_6 := hh_5.2.2.2.2.2.2.1
    refine W.room (fun hrc_6 hrs_6 => ?_)
    refine va_callv (A0 := jA base) (H0 := s.heap) (va_runI (As := [.ref js, .int (-1)]) (rest := [.ref H_2.size]) ⟨hx, hb, hml, hown, hts⟩ (uX8_init l dC dI ca base B hB hAp hB2 hB6 hB10 hB101 hB140 hB141 hB142 hB146 hB196 G0 H_5 H_2.size js (-1) qv_2 wk wi wz gk_2 gi_2 gz_2 LC LS) (cwI 2 hts (jgW (jWr_24 _ (List.mem_of_getElem? (i := 0) rfl))) rfl rfl rfl (htw (.initialized RX8) (jWr_19 _ (List.mem_of_getElem? (i := 5) rfl))) (htw (.methodLink RX11 264 yX8_init) (jWr_23 _ (List.mem_of_getElem? (i := 22) rfl))) (htw (.instanceMethod yX8_init) (jWr_23 _ (List.mem_of_getElem? (i := 23) rfl))) rfl (by decide +kernel) ⟨by rw [← hR]; exact Nat.le_of_ble_eq_true rfl, by rw [← hR]; exact Nat.le_of_ble_eq_true rfl⟩) ⟨fun a U g mk q => by obtain ⟨q0, q1, q2, qK, q10, q11, q12, q13, q14, q15, q16, q17, q18, q19, q20⟩ := q; exact ⟨q0, q1, q2, jG.calling g mk a qK, q10, q11, q12, q13, q14, q15, q16, q17, q18, q19, q20⟩, fun U hU hW => ⟨rfl, hU, hh_5.2.1, hG.step hW hU hh_5.1, hg_js, hraw_5, hnr_5, hbr_5, hg_wk, hg_wi, hg_wz, (hh_5.2.2.1.sub (L1 := [(js, 6, 7, .int qv_2), (js, 6, 0, .ref wk), (js, 6, 1, .ref wi), (js, 6, 2, .ref wz)]) [0, 9, 10, 11] rfl), (hh_5.2.2.2.2.2.2.2.1.sub (L1 := [(wk, 140, 1502, ca 1, gk_2), (wi, 141, 1502, ca 1, gi_2), (wz, 142, 1502, ca 1, gz_2)]) [0, 1, 2] rfl), (hh_5.2.2.2.2.2.2.2.2.sub (L1 := [(jFy, jYb dC dI G0)]) [1] rfl), (by omega), (by omega), ⟨(by first | omega | rfl | assumption | exact hr_3p_2.p hr_3p_1 | exact hTb18 | exact hqR18), (by first | omega | rfl | assumption | exact hr_3p_2.p hr_3p_1 | exact hTb18 | exact hqR18), (by first | assumption | exact hr_3p_2.p hr_3p_1 | exact hTb18 | exact hqR18 | omega)⟩⟩⟩ rfl rfl hl.1 rfl (lv_room (Nat.le_of_ble_eq_true rfl)) dX11_understood_51 ⟨by rw [hRc]; omega, by rw [hRs]; omega⟩) hh_5.1 (fun q _ h => h) (fun q h => h) (fun u_6 t_6 H_6 locs_6 ht_6 hvm_6 hr_7 hb_6 hz_6 hk_6 hS_6 => ?_)
    rw [ht_6] at hb_6
    obtain ⟨G_6, rfl⟩ : ∃ z, z = u_6 := ⟨_, rfl⟩
    try simp only at hb_6
    obtain ⟨⟨hb_61, hb_62, hb_63, hb_64, hb_65, hb_66⟩, hN_6, hbO_6, hgc_6, hbE_6⟩ := hb_6
    have hh_6 : jSt (dC, dI) B base G0 G_6 EX11_understoodU s.heap ((0 + 1) + (10)) ((0 + 5) + (262)) [(js, 6, 7, .int qv_2), (js, 6, 8, .int qu_2), (r0, 13, 4, .ref bo), (r0, 13, 3, .ref ou), (r0, 13, 1, .ref fm), (fm, 4, 1, .int fl), (r0, 13, 2, .ref js), (js, 6, 0, .ref wk), (js, 6, 1, .ref wi), (js, 6, 2, .ref wz), (js, 6, 3, .ref jnx), (js, 6, 4, .ref jkf), (js, 6, 5, .ref jks), (js, 6, 6, .ref jun), (fm, 4, 0, .ref bd_)] [(wk, 140, 1502, ca 1, gk_2), (wi, 141, 1502, ca 1, gi_2), (wz, 142, 1502, ca 1, gz_2), (jnx, 143, 1502, ca 1, gn_2), (jkf, 144, 1502, ca 1, ga_2), (jks, 145, 1502, ca 1, gs_2), (jun, 146, 3000, ca 1, gu_2), (bd_, 100, 3000, ca 0, fb)] [] H_6 locs_6 := (hh_5.callG hb_61 hb_62 hb_63 hb_64 hb_65 hS_6 rfl (L1 := [(js, 6, 7, .int qv_2), (js, 6, 8, .int qu_2), (r0, 13, 4, .ref bo), (r0, 13, 3, .ref ou), (r0, 13, 1, .ref fm), (fm, 4, 1, .int fl), (r0, 13, 2, .ref js), (js, 6, 0, .ref wk), (js, 6, 1, .ref wi), (js, 6, 2, .ref wz), (js, 6, 3, .ref jnx), (js, 6, 4, .ref jkf), (js, 6, 5, .ref jks), (js, 6, 6, .ref jun), (fm, 4, 0, .ref bd_)]) [0, 1, 2, 5, 6, 7, 8, 9, 10, 11, 12, 13, 14, 15, 16] rfl rfl (M1 := [(wk, 140, 1502, ca 1, gk_2), (wi, 141, 1502, ca 1, gi_2), (wz, 142, 1502, ca 1, gz_2), (jnx, 143, 1502, ca 1, gn_2), (jkf, 144, 1502, ca 1, ga_2), (jks, 145, 1502, ca 1, gs_2), (jun, 146, 3000, ca 1, gu_2), (bd_, 100, 3000, ca 0, fb)]) [0, 1, 2, 3, 4, 5, 6, 7] rfl rfl (I1 := []) [] rfl rfl).more hb_66
    have hNn_6 : (jNk [0, 1, 3, 4, 5, 6, 7, 8, 9, 11, 12, 13, 14, 15, 16]) G0 G_6 := (jNk.rf).tr hN_6
    have hg_8 := hb_62 _ _ hg_r0
    have hg_9 := hb_62 _ _ hg_bo
    have hg_10 := hb_62 _ _ hg_ou
    have hg_11 := hb_62 _ _ hg_fm
    have hg_12 := hb_62 _ _ hg_js
    have hg_13 := hb_62 _ _ hg_wk
    have hg_14 := hb_62 _ _ hg_wi
    have hg_15 := hb_62 _ _ hg_wz
    have hg_16 := hb_62 _ _ hg_jnx
    have hg_17 := hb_62 _ _ hg_jkf
    have hg_18 := hb_62 _ _ hg_jks
    have hg_19 := hb_62 _ _ hg_jun
    have hg_20 := hb_62 _ _ hg_bd_
    have hh_21 := hh_6.addIs hbE_6
    have hh_22 := hh_21.more (P1 := [(bo, 2, 1, .int pc), (bo, 2, 0, .ref pa)]) (jP.cons hg_9 (hbO_6 _ _ _ _ (by simp) hg_bo (hh_5.at 3 rfl)) (jP.cons hg_9 (hbO_6 _ _ _ _ (by simp) hg_bo (hh_5.at 4 rfl)) jP.nil))
    have hg_23 := hb_62 _ _ hg_pa
    have hd_24 := jOl.trL (hh_5.iv 0 rfl) hh_5.2.2.2.2.1 hbO_6 (by simp)
    have hh_25 := hh_22.addI (jOl.ie (dC := dC) (dI := dI) (G0 := G0) (k := 2) (rs := [bo, ou]) (H0 := s.heap) (F := [(2, 0), (2, 1)]) (C := RX0) (T := TX0) (N := 2) rfl (by decide) hh_22.2.2.2.2.1 (hd_24))
    clear hh_22
    try simp only at hr_7
    have hh_26 := hh_25.wk (zc1 := (n_pa - n_pa) / 16 + 11) (zs1 := 2 * (n_pa - n_pa) + 267) (by omega) (by omega)
    clear hh_25
    try clear hsz_6 htt_6 hrc_6 hrs_6
    try clear hb_64 hb_65
    refine lv_astore_n (lv' := [(3, .ref H_2.size), (2, .int (-1)), (1, .int r_3), (0, .ref r0)]) hx hb dX11_understood_54 rfl hl (by decide) rfl (fun ls hl => ?_)
    refine lv_iload_n hx hb dX11_understood_55 rfl (lv_at hl 2 rfl) ?_
    refine lv_if_ne (tgt := 69) hx hb dX11_understood_56 (by decide) (fun c_27 => ?_) (fun c_27 => ?_)
    · skip
      have c_27' : r_3.toInt ≠ 0 := jb_ne (rfl) ((by decide)) c_27
      exact (by omega : False).elim
    · skip
      have c_27' : r_3.toInt = 0 := jb_ne_n (rfl) ((by decide)) c_27
      first | (have hr_3p_3q := hr_3p_3.resolve_left (by omega); clear hr_3p_3) | (have hr_3p_3q := hr_3p_3.resolve_right (by omega); clear hr_3p_3) | skip
      refine lv_aload_n hx hb dX11_understood_59 rfl (lv_at hl 3 rfl) ?_
      refine lv_aload_n hx hb dX11_understood_60 rfl (lv_at hl 0 rfl) ?_
      refine lv_sipush (v := (-32700)) hx hb dX11_understood_61 (by decide) ?_
      have hsz_28 := hh_26.2.2.2.2.2.1
      have htt_28 := hh_26.2.2.2.2.2.2.1
      refine W.room (fun hrc_28 hrs_28 => ?_)
      refine va_callv (A0 := jA base) (H0 := s.heap) (va_runV (As := [.ref H_2.size, .int (-32700)]) (rest := []) ⟨hx, hb, hml, hown, hts⟩ (uX11_refuse l dC dI ca base B hB hAp hB2 hB4 hB10 hB13 hB196 G_6 H_6 r0 H_2.size (-32700) bo pc pa n_pa ou LC LS) (cwV 2 hts (jgV (jWr_26 _ (List.mem_of_getElem? (i := 3) rfl)) (jWr_26 _ (List.mem_of_getElem? (i := 4) rfl)) (jWr_26 _ (List.mem_of_getElem? (i := 5) rfl)) (jWr_1 _ (List.mem_of_getElem? (i := 2) rfl)) (jWr_26 _ (List.mem_of_getElem? (i := 6) rfl))) rfl rfl rfl (by decide +kernel) ⟨by rw [← hR]; exact Nat.le_of_ble_eq_true rfl, by rw [← hR]; exact Nat.le_of_ble_eq_true rfl⟩) ⟨fun a U g mk q => by obtain ⟨q0, q1, q2, qK, q10, q11, q12, q13, q14, q15, q16, q17⟩ := q; exact ⟨q0, q1, q2, jG.calling g mk a qK, q10, q11, q12, q13, q14, q15, q16, q17⟩, hh_26.recv (C := RX11) (T := TX11) (N := 19) hB13 rfl (by decide) hg_8 hK, fun U hU hW => ⟨rfl, hU, hh_26.2.1, hG.step hW hU hh_26.1, hgc_6, hg_8, hg_9, hg_23, hg_10, (hh_26.2.2.1.sub (L1 := [(r0, 13, 4, .ref bo), (bo, 2, 1, .int pc), (bo, 2, 0, .ref pa), (r0, 13, 3, .ref ou)]) [4, 0, 1, 5] rfl), (hh_26.2.2.2.2.2.2.2.2.sub (L1 := [(jFy, jYb dC dI G_6)]) [1] rfl), (by omega), (by omega), ⟨(by first | omega | rfl | assumption | fail), (by first | omega | rfl | assumption | fail), (by first | omega | rfl | assumption | fail), (by first | omega | rfl | assumption | fail), (by first | assumption | fail | omega)⟩⟩⟩ rfl rfl hl.1 rfl (lv_room (Nat.le_of_ble_eq_true rfl)) dX11_understood_64 ⟨by rw [hRc]; omega, by rw [hRs]; omega⟩) hh_26.1 (fun q _ h => h) (fun q h => h) (fun u_28 t_28 H_28 locs_28 ht_28 hvm_28 hr_29 hb_28 hz_28 hk_28 hS_28 => ?_)
      obtain ⟨qc_28, qa_28, m_qa_28, G_28⟩ := u_28
      rw [ht_28] at hb_28
      simp only at hb_28
      obtain ⟨⟨hb_281, hb_282, hb_283, hb_284, hb_285, hb_286⟩, hgq_28_0, hN_28, hbO_28, hbE_28⟩ := hb_28
      have hY_28 := hN_28
      have hN_28 : (jNk [0, 1, 3, 4, 5, 6, 7, 8, 9, 11, 12, 13, 14, 15, 16]) G_6 G_28 := hN_28.sub (by decide)
      have hh_28 : jSt (dC, dI) B base G0 G_28 EX11_understoodU s.heap (((n_pa - n_pa) / 16 + 11) + ((m_qa_28 - n_pa) / 16)) ((2 * (n_pa - n_pa) + 267) + (2 * (m_qa_28 - n_pa))) [(bo, 2, 1, .int qc_28), (bo, 2, 0, .ref qa_28), (js, 6, 7, .int qv_2), (js, 6, 8, .int qu_2), (r0, 13, 4, .ref bo), (r0, 13, 3, .ref ou), (r0, 13, 1, .ref fm), (fm, 4, 1, .int fl), (r0, 13, 2, .ref js), (js, 6, 0, .ref wk), (js, 6, 1, .ref wi), (js, 6, 2, .ref wz), (js, 6, 3, .ref jnx), (js, 6, 4, .ref jkf), (js, 6, 5, .ref jks), (js, 6, 6, .ref jun), (fm, 4, 0, .ref bd_)] [(wk, 140, 1502, ca 1, gk_2), (wi, 141, 1502, ca 1, gi_2), (wz, 142, 1502, ca 1, gz_2), (jnx, 143, 1502, ca 1, gn_2), (jkf, 144, 1502, ca 1, ga_2), (jks, 145, 1502, ca 1, gs_2), (jun, 146, 3000, ca 1, gu_2), (bd_, 100, 3000, ca 0, fb)] [] H_28 locs_28 := (hh_26.callG hb_281 hb_282 hb_283 hb_284 hb_285 hS_28 rfl (L1 := [(js, 6, 7, .int qv_2), (js, 6, 8, .int qu_2), (r0, 13, 4, .ref bo), (r0, 13, 3, .ref ou), (r0, 13, 1, .ref fm), (fm, 4, 1, .int fl), (r0, 13, 2, .ref js), (js, 6, 0, .ref wk), (js, 6, 1, .ref wi), (js, 6, 2, .ref wz), (js, 6, 3, .ref jnx), (js, 6, 4, .ref jkf), (js, 6, 5, .ref jks), (js, 6, 6, .ref jun), (fm, 4, 0, .ref bd_)]) [2, 3, 4, 5, 6, 7, 8, 9, 10, 11, 12, 13, 14, 15, 16] rfl rfl (M1 := [(wk, 140, 1502, ca 1, gk_2), (wi, 141, 1502, ca 1, gi_2), (wz, 142, 1502, ca 1, gz_2), (jnx, 143, 1502, ca 1, gn_2), (jkf, 144, 1502, ca 1, ga_2), (jks, 145, 1502, ca 1, gs_2), (jun, 146, 3000, ca 1, gu_2), (bd_, 100, 3000, ca 0, fb)]) [0, 1, 2, 3, 4, 5, 6, 7] rfl rfl (I1 := []) [] rfl rfl).more hb_286
      have hNn_28 : (jNk [0, 1, 3, 4, 5, 6, 7, 8, 9, 11, 12, 13, 14, 15, 16]) G0 G_28 := (hNn_6).tr hN_28
      have hg_30 := hb_282 _ _ hgc_6
      have hg_31 := hb_282 _ _ hg_8
      have hg_32 := hb_282 _ _ hg_9
      have hg_33 := hb_282 _ _ hg_10
      have hg_34 := hb_282 _ _ hg_11
      have hg_35 := hb_282 _ _ hg_12
      have hg_36 := hb_282 _ _ hg_13
      have hg_37 := hb_282 _ _ hg_14
      have hg_38 := hb_282 _ _ hg_15
      have hg_39 := hb_282 _ _ hg_16
      have hg_40 := hb_282 _ _ hg_17
      have hg_41 := hb_282 _ _ hg_18
      have hg_42 := hb_282 _ _ hg_19
      have hg_43 := hb_282 _ _ hg_20
      have hh_44 := hh_28.addIs hbE_28
      have hd_45 := jOl.trL (hh_26.iv 0 rfl) hh_26.2.2.2.2.1 hbO_28 (by simp)
      have hh_46 := hh_44.addI (jOl.ie (dC := dC) (dI := dI) (G0 := G0) (k := 2) (rs := [bo, ou]) (H0 := s.heap) (F := [(2, 0), (2, 1)]) (C := RX0) (T := TX0) (N := 2) rfl (by decide) hh_44.2.2.2.2.1 (hd_45))
      clear hh_44
      try simp only at hr_29
      obtain ⟨hr_29_0, hr_29_1, hr_29_2, hr_29_3, hr_29_4⟩ := hr_29
      have hh_47 := hh_46.wk (zc1 := (m_qa_28 - n_pa) / 16 + 11) (zs1 := 2 * (m_qa_28 - n_pa) + 267) (by omega) (by omega)
      clear hh_46
      try clear hsz_28 htt_28 hrc_28 hrs_28
      try clear hb_284 hb_285
      refine lv_null hx hb dX11_understood_67 ?_
      have hsz_48 := hh_47.2.2.2.2.2.1
      have htt_48 := hh_47.2.2.2.2.2.2.1
      refine W.room (fun hrc_48 hrs_48 => ?_)
      refine W.widen (k := LC - s.heap.size) (n := LS - jTot s.heap) (by omega) (by omega) ?_
      rw [hQ]
      exact W.aret (v := .null) hx hb hr (Or.inl ⟨_, rfl⟩) (Or.inl rfl) (fun t ht hW => ⟨⟨.null, (qc_28, qv_2, qu_2, qa_28, m_qa_28, gk_2, gi_2, gz_2, gn_2, ga_2, gs_2, gu_2, none, (fun _ _ => 0), 0, G_28), rfl, ⟨Or.inl rfl, by skip; (try dsimp only); refine ⟨by omega, by omega, by omega, by omega, by assumption, by omega, by omega, by omega, hr_3p_2, Or.inl rfl, rfl, ?_⟩; exact Or.inl ⟨rfl, Or.inl hX0.2⟩⟩, ⟨hh_47.ra (by first | (simp only; omega) | omega) (by first | (simp only; omega) | omega) (M1 := [(bo, 2, 1, .int qc_28), (js, 6, 7, .int qv_2), (js, 6, 8, .int qu_2), (bo, 2, 0, .ref qa_28)]) [0, 2, 3, 1] rfl ht, hgq_28_0, hNn_28, by rw [ht]; exact hh_47.iv 0 rfl, by rw [ht]; exact hh_47.2.2.2.2.2.2.2.2.sub (L1 := [(jFy, jYb dC dI G_28)]) [1] rfl, by rw [ht]; exact hh_47.2.2.2.2.2.2.2.1.sub [0, 1, 2, 3, 4, 5, 6] rfl, by rw [ht]; exact fun x h9 => by cases h9⟩⟩, by rw [ht]; try exact hh_47.1.1, fun q h9 hq => by rw [ht]; try exact hh_47.1.2.1 q h9 hq⟩) hh_47.1.2.2 dX11_understood_68
  · skip
    have c_4' : r_3.toInt ≠ 0 := jb_eq_n (rfl) ((by decide)) c_4
    first | (have hr_3p_3q := hr_3p_3.resolve_left (by omega); clear hr_3p_3) | (have hr_3p_3q := hr_3p_3.resolve_right (by omega); clear hr_3p_3) | skip
    obtain ⟨T18, hX18, hTb18, hco18, hv18⟩ := (hr_3p_4.resolve_left (fun q => by omega)).2
    have hqR18 := jqR.of hr_3p_2
    refine lv_aload_n hx hb dX11_understood_26 rfl (lv_at hl 1 rfl) ?_
    refine j7_read hx hb hown hK (C := RX11) (T := TX11) (N := 19) rfl hly_13_2 hlk_28 (hh_2.at 8 rfl) dX11_understood_27 ?_
    refine lv_iconst (v := 0) hx hb dX11_understood_30 (by decide) ?_
    refine j_ldcSw hx hb hown rstr259 dX11_understood_31 ?_
    have hsz_49 := hh_2.2.2.2.2.2.1
    have htt_49 := hh_2.2.2.2.2.2.2.1
    refine W.room (fun hrc_49 hrs_49 => ?_)
    refine va_calli (A0 := jA base) (H0 := s.heap) (va_runV (As := [.int 0, .ref str259]) (rest := []) ⟨hx, hb, hml, hown, hts⟩ (uX4_memberJ l dC dI ca base B hB hAp hB6 hB140 hB141 hB142 hB143 hB144 hB145 hB146 G0 H_2 js 0 str259 2 (jChT "id") qv_2 qu_2 wk wi wz jnx jkf jks jun T18 gk_2 gi_2 gz_2 gn_2 ga_2 gs_2 gu_2) (cwV 2 hts (jgV (jWr_23 _ (List.mem_of_getElem? (i := 10) rfl)) (jWr_23 _ (List.mem_of_getElem? (i := 11) rfl)) (jWr_23 _ (List.mem_of_getElem? (i := 12) rfl)) (jWr_1 _ (List.mem_of_getElem? (i := 22) rfl)) (jWr_23 _ (List.mem_of_getElem? (i := 13) rfl))) rfl rfl rfl (by decide +kernel) ⟨by rw [← hR]; exact Nat.le_of_ble_eq_true rfl, by rw [← hR]; exact Nat.le_of_ble_eq_true rfl⟩) ⟨fun a U g mk q => by obtain ⟨q0, q1, q2, qK, q10, q11, q12, q13, q14, q15, q16, q17, q18, q19, q20, q21⟩ := q; exact ⟨q0, q1, q2, jG.calling g mk a qK, (q10.moved (Vm.Alike.refl U.vm)), q11, q12, q13, q14, q15, q16, q17, q18, q19, q20, q21⟩, hh_2.recv (C := RX4) (T := TX4) (N := 12) hB6 rfl (by decide) hg_js hK, fun U hU hW => ⟨rfl, hU, hh_2.2.1, hG.step hW hU hh_2.1, (hTstr259.moved hW.alike).kept hh_2.1.2.1, hg_js, hg_wk, hg_wi, hg_wz, hg_jnx, hg_jkf, hg_jks, hg_jun, (hh_2.2.2.1.sub (L1 := [(js, 6, 7, .int qv_2), (js, 6, 8, .int qu_2), (js, 6, 0, .ref wk), (js, 6, 1, .ref wi), (js, 6, 2, .ref wz), (js, 6, 3, .ref jnx), (js, 6, 4, .ref jkf), (js, 6, 5, .ref jks), (js, 6, 6, .ref jun)]) [0, 1, 9, 10, 11, 12, 13, 14, 15] rfl), (hh_2.2.2.2.2.2.2.2.1.sub (L1 := [(wk, 140, 1502, ca 1, gk_2), (wi, 141, 1502, ca 1, gi_2), (wz, 142, 1502, ca 1, gz_2), (jnx, 143, 1502, ca 1, gn_2), (jkf, 144, 1502, ca 1, ga_2), (jks, 145, 1502, ca 1, gs_2), (jun, 146, 3000, ca 1, gu_2)]) [0, 1, 2, 3, 4, 5, 6] rfl), ⟨(by first | omega | rfl | assumption | exact hTb18 | exact hqR18 | exact hco18), (by first | omega | rfl | assumption | exact hTb18 | exact hqR18 | exact hco18), (by first | omega | rfl | assumption | exact hTb18 | exact hqR18 | exact hco18), (by first | omega | rfl | assumption | exact hTb18 | exact hqR18 | exact hco18), (by first | assumption | exact hTb18 | exact hqR18 | exact hco18 | omega), (by first | omega | rfl | assumption | exact hTb18 | exact hqR18 | exact hco18), (by first | assumption | exact hTb18 | exact hqR18 | exact hco18 | omega), (by first | assumption | exact hTb18 | exact hqR18 | exact hco18 | omega)⟩⟩⟩ rfl rfl hl.1 rfl (lv_room (Nat.le_of_ble_eq_true rfl)) dX11_understood_34 ⟨by rw [hRc]; show _ + 0 ≤ _; omega, by rw [hRs]; show _ + 0 ≤ _; omega⟩) hh_2.1 (fun q _ h => h) (fun q h => h) (fun r_50 u_49 t_49 H_49 locs_49 ht_49 hvm_49 hr_50 hb_49 hz_49 hk_49 hS_49 => ?_)
    rw [ht_49] at hb_49
    obtain ⟨hb_49, hbF_49⟩ := hb_49
    obtain ⟨hb_491, hb_492, hb_493, hb_494, hb_495⟩ := hb_49
    have hh_49 : jSt (dC, dI) B base G0 G0 EX11_understoodU s.heap 0 0 [(js, 6, 7, .int qv_2), (js, 6, 8, .int qu_2), (r0, 13, 4, .ref bo), (bo, 2, 1, .int pc), (bo, 2, 0, .ref pa), (r0, 13, 3, .ref ou), (r0, 13, 1, .ref fm), (fm, 4, 1, .int fl), (r0, 13, 2, .ref js), (js, 6, 0, .ref wk), (js, 6, 1, .ref wi), (js, 6, 2, .ref wz), (js, 6, 3, .ref jnx), (js, 6, 4, .ref jkf), (js, 6, 5, .ref jks), (js, 6, 6, .ref jun), (fm, 4, 0, .ref bd_)] [(wk, 140, 1502, ca 1, gk_2), (wi, 141, 1502, ca 1, gi_2), (wz, 142, 1502, ca 1, gz_2), (jnx, 143, 1502, ca 1, gn_2), (jkf, 144, 1502, ca 1, ga_2), (jks, 145, 1502, ca 1, gs_2), (jun, 146, 3000, ca 1, gu_2), (bd_, 100, 3000, ca 0, fb)] [([(2, 0), (2, 1)], jOl (dC, dI) G0 2 [bo, ou] s.heap), (jFy, jYb dC dI G0)] H_49 locs_49 := ((hh_2.call hb_491 hb_492 hb_493 hb_494 hS_49 rfl (L1 := [(js, 6, 7, .int qv_2), (js, 6, 8, .int qu_2), (r0, 13, 4, .ref bo), (bo, 2, 1, .int pc), (bo, 2, 0, .ref pa), (r0, 13, 3, .ref ou), (r0, 13, 1, .ref fm), (fm, 4, 1, .int fl), (r0, 13, 2, .ref js), (js, 6, 0, .ref wk), (js, 6, 1, .ref wi), (js, 6, 2, .ref wz), (js, 6, 3, .ref jnx), (js, 6, 4, .ref jkf), (js, 6, 5, .ref jks), (js, 6, 6, .ref jun), (fm, 4, 0, .ref bd_)]) [0, 1, 2, 3, 4, 5, 6, 7, 8, 9, 10, 11, 12, 13, 14, 15, 16] rfl rfl (M1 := [(wk, 140, 1502, ca 1, gk_2), (wi, 141, 1502, ca 1, gi_2), (wz, 142, 1502, ca 1, gz_2), (jnx, 143, 1502, ca 1, gn_2), (jkf, 144, 1502, ca 1, ga_2), (jks, 145, 1502, ca 1, gs_2), (jun, 146, 3000, ca 1, gu_2), (bd_, 100, 3000, ca 0, fb)]) [0, 1, 2, 3, 4, 5, 6, 7] rfl rfl (I1 := [([(2, 0), (2, 1)], jOl (dC, dI) G0 2 [bo, ou] s.heap), (jFy, jYb dC dI G0)]) [0, 1] rfl rfl).more hb_495)
    clear hh_2 ht_49 hvm_49 hz_49 hk_49 hS_49 hb_491 hb_492 hb_493 hb_494 hb_495
    obtain ⟨hr_50_0, hr_50_1, hr_50_2, hr_50_3⟩ := hr_50
    have hid9 := hr_50_3
    refine lv_goto (tgt := 41) hx hb dX11_understood_37 (by decide) ?_
    refine lv_istore_n (lv' := [(2, .int r_50), (1, .int r_3), (0, .ref r0)]) hx hb dX11_understood_41 rfl hl (by decide) rfl (fun ls hl => ?_)
    have hsz_51 := hh_49.2.2.2.2.2.1
    have htt_51 := hh_49.2.2.2.2.2.2.1
    refine j7_newo (k := 10) (C := RX8) (T := TX8) (N := 5) (fs := [.null, .null, .int 0, .int 0, .int 0]) hx hb htw jWc_wsX80 (fun k => ([(.object "ProofServer$Bytes"), (.object "ProofServer$Document"), .int, .boolean, .int] : List FieldType).getD k .int) (by decide +kernel) hown (htw (.classLink RX11 115 RX8) (jWr_19 _ (List.mem_of_getElem? (i := 3) rfl))) (htw (.instantiable RX8 5) (jWr_19 _ (List.mem_of_getElem? (i := 4) rfl))) (htw (.initialized RX8) (jWr_19 _ (List.mem_of_getElem? (i := 5) rfl))) hK rfl (fun j hj => by rcases (by omega : j = 0 ∨ j = 1 ∨ j = 2 ∨ j = 3 ∨ j = 4) with rfl | rfl | rfl | rfl | rfl <;> rfl) hh_49 hB (by rw [hRc]; omega) (by rw [hRs]; omega) dX11_understood_42 (fun H_51 hraw_51 hfr_51 hnr_51 hh_51 => ?_)
    have hke_51 : jKe G0 G0 H_49 H_51 := jKe.raw hfr_51
    have hbr_51 : base ≤ H_49.size := Nat.le_trans hbs hh_49.1.1
    have hsy_51 : s.heap.size ≤ H_49.size := hh_49.1.1
    clear hh_49
    refine lv_dup hx hb dX11_understood_45 rfl ?_
    refine lv_aload_n hx hb dX11_understood_46 rfl (lv_at hl 2 rfl) ?_
    refine j7_read hx hb hown hK (C := RX11) (T := TX11) (N := 19) rfl hly_13_2 hlk_28 (hh_51.at 8 rfl) dX11_understood_47 ?_
    refine lv_iload_n hx hb dX11_understood_50 rfl (lv_at hl 0 rfl) ?_
    have hsz_52 := hh_51.2.2.2.2.2.1
    have htt_52 := hh_51.2.2.2.2.2.2.1
    refine W.room (fun hrc_52 hrs_52 => ?_)
    refine va_callv (A0 := jA base) (H0 := s.heap) (va_runI (As := [.ref js, .int r_50]) (rest := [.ref H_49.size]) ⟨hx, hb, hml, hown, hts⟩ (uX8_initU l dC dI ca base B hB hAp hB2 hB6 hB10 hB101 hB140 hB141 hB142 hB146 hB196 G0 H_51 H_49.size js r_50 qv_2 qu_2 wk wi wz jnx jkf jks jun T18 gk_2 gi_2 gz_2 gn_2 ga_2 gs_2 gu_2 LC LS) (cwI 2 hts (jgW (jWr_24 _ (List.mem_of_getElem? (i := 0) rfl))) rfl rfl rfl (htw (.initialized RX8) (jWr_19 _ (List.mem_of_getElem? (i := 5) rfl))) (htw (.methodLink RX11 264 yX8_init) (jWr_23 _ (List.mem_of_getElem? (i := 22) rfl))) (htw (.instanceMethod yX8_init) (jWr_23 _ (List.mem_of_getElem? (i := 23) rfl))) rfl (by decide +kernel) ⟨by rw [← hR]; exact Nat.le_of_ble_eq_true rfl, by rw [← hR]; exact Nat.le_of_ble_eq_true rfl⟩) ⟨fun a U g mk q => by obtain ⟨q0, q1, q2, qK, q10, q11, q12, q13, q14, q15, q16, q17, q18, q19, q20, q21, q22, q23, q24⟩ := q; exact ⟨q0, q1, q2, jG.calling g mk a qK, q10, q11, q12, q13, q14, q15, q16, q17, q18, q19, q20, q21, q22, q23, q24⟩, fun U hU hW => ⟨rfl, hU, hh_51.2.1, hG.step hW hU hh_51.1, hg_js, hraw_51, hnr_51, hbr_51, hg_wk, hg_wi, hg_wz, hg_jnx, hg_jkf, hg_jks, hg_jun, (hh_51.2.2.1.sub (L1 := [(js, 6, 7, .int qv_2), (js, 6, 8, .int qu_2), (js, 6, 0, .ref wk), (js, 6, 1, .ref wi), (js, 6, 2, .ref wz), (js, 6, 3, .ref jnx), (js, 6, 4, .ref jkf), (js, 6, 5, .ref jks), (js, 6, 6, .ref jun)]) [0, 1, 9, 10, 11, 12, 13, 14, 15] rfl), (hh_51.2.2.2.2.2.2.2.1.sub (L1 := [(wk, 140, 1502, ca 1, gk_2), (wi, 141, 1502, ca 1, gi_2), (wz, 142, 1502, ca 1, gz_2), (jnx, 143, 1502, ca 1, gn_2), (jkf, 144, 1502, ca 1, ga_2), (jks, 145, 1502, ca 1, gs_2), (jun, 146, 3000, ca 1, gu_2)]) [0, 1, 2, 3, 4, 5, 6] rfl), (hh_51.2.2.2.2.2.2.2.2.sub (L1 := [(jFy, jYb dC dI G0)]) [1] rfl), (by omega), (by omega), ⟨(by first | omega | rfl | assumption | exact hr_3p_2.p hr_3p_1 | exact hTb18 | exact hqR18), (by first | omega | rfl | assumption | exact hr_3p_2.p hr_3p_1 | exact hTb18 | exact hqR18), (by first | assumption | exact hr_3p_2.p hr_3p_1 | exact hTb18 | exact hqR18 | omega), (by first | omega | rfl | assumption | exact hr_3p_2.p hr_3p_1 | exact hTb18 | exact hqR18), (by first | omega | rfl | assumption | exact hr_3p_2.p hr_3p_1 | exact hTb18 | exact hqR18), (by first | assumption | exact hr_3p_2.p hr_3p_1 | exact hTb18 | exact hqR18 | omega), (by first | assumption | exact hr_3p_2.p hr_3p_1 | exact hTb18 | exact hqR18 | omega)⟩⟩⟩ rfl rfl hl.1 rfl (lv_room (Nat.le_of_ble_eq_true rfl)) dX11_understood_51 ⟨by rw [hRc]; omega, by rw [hRs]; omega⟩) hh_51.1 (fun q _ h => h) (fun q h => h) (fun u_52 t_52 H_52 locs_52 ht_52 hvm_52 hr_53 hb_52 hz_52 hk_52 hS_52 => ?_)
    rw [ht_52] at hb_52
    obtain ⟨G_52, rfl⟩ : ∃ z, z = u_52 := ⟨_, rfl⟩
    try simp only at hb_52
    obtain ⟨⟨hb_521, hb_522, hb_523, hb_524, hb_525, hb_526⟩, hN_52, hbO_52, hgc_52, hbE_52, hbR_52⟩ := hb_52
    have hh_52 : jSt (dC, dI) B base G0 G_52 EX11_understoodU s.heap ((0 + 1) + (10)) ((0 + 5) + (262)) [(js, 6, 7, .int qv_2), (js, 6, 8, .int qu_2), (r0, 13, 4, .ref bo), (r0, 13, 3, .ref ou), (r0, 13, 1, .ref fm), (fm, 4, 1, .int fl), (r0, 13, 2, .ref js), (js, 6, 0, .ref wk), (js, 6, 1, .ref wi), (js, 6, 2, .ref wz), (js, 6, 3, .ref jnx), (js, 6, 4, .ref jkf), (js, 6, 5, .ref jks), (js, 6, 6, .ref jun), (fm, 4, 0, .ref bd_)] [(wk, 140, 1502, ca 1, gk_2), (wi, 141, 1502, ca 1, gi_2), (wz, 142, 1502, ca 1, gz_2), (jnx, 143, 1502, ca 1, gn_2), (jkf, 144, 1502, ca 1, ga_2), (jks, 145, 1502, ca 1, gs_2), (jun, 146, 3000, ca 1, gu_2), (bd_, 100, 3000, ca 0, fb)] [] H_52 locs_52 := (hh_51.callG hb_521 hb_522 hb_523 hb_524 hb_525 hS_52 rfl (L1 := [(js, 6, 7, .int qv_2), (js, 6, 8, .int qu_2), (r0, 13, 4, .ref bo), (r0, 13, 3, .ref ou), (r0, 13, 1, .ref fm), (fm, 4, 1, .int fl), (r0, 13, 2, .ref js), (js, 6, 0, .ref wk), (js, 6, 1, .ref wi), (js, 6, 2, .ref wz), (js, 6, 3, .ref jnx), (js, 6, 4, .ref jkf), (js, 6, 5, .ref jks), (js, 6, 6, .ref jun), (fm, 4, 0, .ref bd_)]) [0, 1, 2, 5, 6, 7, 8, 9, 10, 11, 12, 13, 14, 15, 16] rfl rfl (M1 := [(wk, 140, 1502, ca 1, gk_2), (wi, 141, 1502, ca 1, gi_2), (wz, 142, 1502, ca 1, gz_2), (jnx, 143, 1502, ca 1, gn_2), (jkf, 144, 1502, ca 1, ga_2), (jks, 145, 1502, ca 1, gs_2), (jun, 146, 3000, ca 1, gu_2), (bd_, 100, 3000, ca 0, fb)]) [0, 1, 2, 3, 4, 5, 6, 7] rfl rfl (I1 := []) [] rfl rfl).more hb_526
    have hNn_52 : (jNk [0, 1, 3, 4, 5, 6, 7, 8, 9, 11, 12, 13, 14, 15, 16]) G0 G_52 := (jNk.rf).tr hN_52
    have hg_54 := hb_522 _ _ hg_r0
    have hg_55 := hb_522 _ _ hg_bo
    have hg_56 := hb_522 _ _ hg_ou
    have hg_57 := hb_522 _ _ hg_fm
    have hg_58 := hb_522 _ _ hg_js
    have hg_59 := hb_522 _ _ hg_wk
    have hg_60 := hb_522 _ _ hg_wi
    have hg_61 := hb_522 _ _ hg_wz
    have hg_62 := hb_522 _ _ hg_jnx
    have hg_63 := hb_522 _ _ hg_jkf
    have hg_64 := hb_522 _ _ hg_jks
    have hg_65 := hb_522 _ _ hg_jun
    have hg_66 := hb_522 _ _ hg_bd_
    have hh_67 := hh_52.addIs hbE_52
    have hh_68 := hh_67.more (P1 := [(bo, 2, 1, .int pc), (bo, 2, 0, .ref pa)]) (jP.cons hg_55 (hbO_52 _ _ _ _ (by simp) hg_bo (hh_51.at 3 rfl)) (jP.cons hg_55 (hbO_52 _ _ _ _ (by simp) hg_bo (hh_51.at 4 rfl)) jP.nil))
    have hg_69 := hb_522 _ _ hg_pa
    have hd_70 := jOl.trL (hh_51.iv 0 rfl) hh_51.2.2.2.2.1 hbO_52 (by simp)
    have hh_71 := hh_68.addI (jOl.ie (dC := dC) (dI := dI) (G0 := G0) (k := 2) (rs := [bo, ou]) (H0 := s.heap) (F := [(2, 0), (2, 1)]) (C := RX0) (T := TX0) (N := 2) rfl (by decide) hh_68.2.2.2.2.1 (hd_70))
    clear hh_68
    try simp only at hr_53
    have hh_72 := hh_71.wk (zc1 := (n_pa - n_pa) / 16 + 11) (zs1 := 2 * (n_pa - n_pa) + 267) (by omega) (by omega)
    clear hh_71
    try clear hsz_52 htt_52 hrc_52 hrs_52
    try clear hb_524 hb_525
    have hh_73 := hh_72.addI (jRi.ie hbR_52 hgc_52)
    clear hh_72
    refine lv_astore_n (lv' := [(3, .ref H_49.size), (2, .int r_50), (1, .int r_3), (0, .ref r0)]) hx hb dX11_understood_54 rfl hl (by decide) rfl (fun ls hl => ?_)
    refine lv_iload_n hx hb dX11_understood_55 rfl (lv_at hl 2 rfl) ?_
    refine lv_if_ne (tgt := 69) hx hb dX11_understood_56 (by decide) (fun c_74 => ?_) (fun c_74 => ?_)
    · skip
      have c_74' : r_3.toInt ≠ 0 := jb_ne (rfl) ((by decide)) c_74
      first | (have hr_3p_3q := hr_3p_3.resolve_left (by omega); clear hr_3p_3) | (have hr_3p_3q := hr_3p_3.resolve_right (by omega); clear hr_3p_3) | skip
      first | (have hr_50_2q := hr_50_2.resolve_left (by omega); clear hr_50_2) | (have hr_50_2q := hr_50_2.resolve_right (by omega); clear hr_50_2) | skip
      refine lv_aload_n hx hb dX11_understood_69 rfl (lv_at hl 3 rfl) ?_
      refine j7_read hx hb hown hK (C := RX11) (T := TX11) (N := 19) rfl hly_13_2 hlk_28 (hh_73.at 8 rfl) dX11_understood_70 ?_
      refine lv_iconst (v := 0) hx hb dX11_understood_73 (by decide) ?_
      refine j_ldcSw hx hb hown rstr271 dX11_understood_74 ?_
      have hsz_75 := hh_73.2.2.2.2.2.1
      have htt_75 := hh_73.2.2.2.2.2.2.1
      refine W.room (fun hrc_75 hrs_75 => ?_)
      refine va_calli (A0 := jA base) (H0 := s.heap) (va_runV (As := [.int 0, .ref str271]) (rest := []) ⟨hx, hb, hml, hown, hts⟩ (uX4_memberJ l dC dI ca base B hB hAp hB6 hB140 hB141 hB142 hB143 hB144 hB145 hB146 G_52 H_52 js 0 str271 6 (jChT "params") qv_2 qu_2 wk wi wz jnx jkf jks jun T18 gk_2 gi_2 gz_2 gn_2 ga_2 gs_2 gu_2) (cwV 2 hts (jgV (jWr_23 _ (List.mem_of_getElem? (i := 10) rfl)) (jWr_23 _ (List.mem_of_getElem? (i := 11) rfl)) (jWr_23 _ (List.mem_of_getElem? (i := 12) rfl)) (jWr_1 _ (List.mem_of_getElem? (i := 22) rfl)) (jWr_23 _ (List.mem_of_getElem? (i := 13) rfl))) rfl rfl rfl (by decide +kernel) ⟨by rw [← hR]; exact Nat.le_of_ble_eq_true rfl, by rw [← hR]; exact Nat.le_of_ble_eq_true rfl⟩) ⟨fun a U g mk q => by obtain ⟨q0, q1, q2, qK, q10, q11, q12, q13, q14, q15, q16, q17, q18, q19, q20, q21⟩ := q; exact ⟨q0, q1, q2, jG.calling g mk a qK, (q10.moved (Vm.Alike.refl U.vm)), q11, q12, q13, q14, q15, q16, q17, q18, q19, q20, q21⟩, hh_73.recv (C := RX4) (T := TX4) (N := 12) hB6 rfl (by decide) hg_58 hK, fun U hU hW => ⟨rfl, hU, hh_73.2.1, hG.step hW hU hh_73.1, (hTstr271.moved hW.alike).kept hh_73.1.2.1, hg_58, hg_59, hg_60, hg_61, hg_62, hg_63, hg_64, hg_65, (hh_73.2.2.1.sub (L1 := [(js, 6, 7, .int qv_2), (js, 6, 8, .int qu_2), (js, 6, 0, .ref wk), (js, 6, 1, .ref wi), (js, 6, 2, .ref wz), (js, 6, 3, .ref jnx), (js, 6, 4, .ref jkf), (js, 6, 5, .ref jks), (js, 6, 6, .ref jun)]) [2, 3, 9, 10, 11, 12, 13, 14, 15] rfl), (hh_73.2.2.2.2.2.2.2.1.sub (L1 := [(wk, 140, 1502, ca 1, gk_2), (wi, 141, 1502, ca 1, gi_2), (wz, 142, 1502, ca 1, gz_2), (jnx, 143, 1502, ca 1, gn_2), (jkf, 144, 1502, ca 1, ga_2), (jks, 145, 1502, ca 1, gs_2), (jun, 146, 3000, ca 1, gu_2)]) [0, 1, 2, 3, 4, 5, 6] rfl), ⟨(by first | omega | rfl | assumption | exact hTb18 | exact hqR18 | exact hco18), (by first | omega | rfl | assumption | exact hTb18 | exact hqR18 | exact hco18), (by first | omega | rfl | assumption | exact hTb18 | exact hqR18 | exact hco18), (by first | omega | rfl | assumption | exact hTb18 | exact hqR18 | exact hco18), (by first | assumption | exact hTb18 | exact hqR18 | exact hco18 | omega), (by first | omega | rfl | assumption | exact hTb18 | exact hqR18 | exact hco18), (by first | assumption | exact hTb18 | exact hqR18 | exact hco18 | omega), (by first | assumption | exact hTb18 | exact hqR18 | exact hco18 | omega)⟩⟩⟩ rfl rfl hl.1 rfl (lv_room (Nat.le_of_ble_eq_true rfl)) dX11_understood_77 ⟨by rw [hRc]; show _ + 0 ≤ _; omega, by rw [hRs]; show _ + 0 ≤ _; omega⟩) hh_73.1 (fun q _ h => h) (fun q h => h) (fun r_76 u_75 t_75 H_75 locs_75 ht_75 hvm_75 hr_76 hb_75 hz_75 hk_75 hS_75 => ?_)
      rw [ht_75] at hb_75
      obtain ⟨hb_75, hbF_75⟩ := hb_75
      obtain ⟨hb_751, hb_752, hb_753, hb_754, hb_755⟩ := hb_75
      have hh_75 : jSt (dC, dI) B base G0 G_52 EX11_understoodU s.heap ((n_pa - n_pa) / 16 + 11) (2 * (n_pa - n_pa) + 267) [(bo, 2, 1, .int pc), (bo, 2, 0, .ref pa), (js, 6, 7, .int qv_2), (js, 6, 8, .int qu_2), (r0, 13, 4, .ref bo), (r0, 13, 3, .ref ou), (r0, 13, 1, .ref fm), (fm, 4, 1, .int fl), (r0, 13, 2, .ref js), (js, 6, 0, .ref wk), (js, 6, 1, .ref wi), (js, 6, 2, .ref wz), (js, 6, 3, .ref jnx), (js, 6, 4, .ref jkf), (js, 6, 5, .ref jks), (js, 6, 6, .ref jun), (fm, 4, 0, .ref bd_)] [(wk, 140, 1502, ca 1, gk_2), (wi, 141, 1502, ca 1, gi_2), (wz, 142, 1502, ca 1, gz_2), (jnx, 143, 1502, ca 1, gn_2), (jkf, 144, 1502, ca 1, ga_2), (jks, 145, 1502, ca 1, gs_2), (jun, 146, 3000, ca 1, gu_2), (bd_, 100, 3000, ca 0, fb)] [([(10, 0)], jRi dC dI G_52 H_49.size (jqK T18 qv_2.toInt r_50.toInt = 4 ∨ (jqK T18 qv_2.toInt r_50.toInt = 3 ∧ jqZ T18 qv_2.toInt r_50.toInt ≤ 20))), ([(2, 0), (2, 1)], jOl (dC, dI) G0 2 [bo, ou] s.heap), (jFy, jYb dC dI G_52)] H_75 locs_75 := ((hh_73.call hb_751 hb_752 hb_753 hb_754 hS_75 rfl (L1 := [(bo, 2, 1, .int pc), (bo, 2, 0, .ref pa), (js, 6, 7, .int qv_2), (js, 6, 8, .int qu_2), (r0, 13, 4, .ref bo), (r0, 13, 3, .ref ou), (r0, 13, 1, .ref fm), (fm, 4, 1, .int fl), (r0, 13, 2, .ref js), (js, 6, 0, .ref wk), (js, 6, 1, .ref wi), (js, 6, 2, .ref wz), (js, 6, 3, .ref jnx), (js, 6, 4, .ref jkf), (js, 6, 5, .ref jks), (js, 6, 6, .ref jun), (fm, 4, 0, .ref bd_)]) [0, 1, 2, 3, 4, 5, 6, 7, 8, 9, 10, 11, 12, 13, 14, 15, 16] rfl rfl (M1 := [(wk, 140, 1502, ca 1, gk_2), (wi, 141, 1502, ca 1, gi_2), (wz, 142, 1502, ca 1, gz_2), (jnx, 143, 1502, ca 1, gn_2), (jkf, 144, 1502, ca 1, ga_2), (jks, 145, 1502, ca 1, gs_2), (jun, 146, 3000, ca 1, gu_2), (bd_, 100, 3000, ca 0, fb)]) [0, 1, 2, 3, 4, 5, 6, 7] rfl rfl (I1 := [([(10, 0)], jRi dC dI G_52 H_49.size (jqK T18 qv_2.toInt r_50.toInt = 4 ∨ (jqK T18 qv_2.toInt r_50.toInt = 3 ∧ jqZ T18 qv_2.toInt r_50.toInt ≤ 20))), ([(2, 0), (2, 1)], jOl (dC, dI) G0 2 [bo, ou] s.heap), (jFy, jYb dC dI G_52)]) [0, 1, 2] rfl rfl).more hb_755)
      clear hh_73 ht_75 hvm_75 hz_75 hk_75 hS_75 hb_751 hb_752 hb_753 hb_754 hb_755
      obtain ⟨hr_76_0, hr_76_1, hr_76_2, hr_76_3⟩ := hr_76
      refine lv_istore (lv' := [(4, .int r_76), (3, .ref H_49.size), (2, .int r_50), (1, .int r_3), (0, .ref r0)]) hx hb dX11_understood_80 hl (by decide) rfl (fun ls hl => ?_)
      refine lv_aload_n hx hb dX11_understood_82 rfl (lv_at hl 4 rfl) ?_
      refine j7_read hx hb hown hK (C := RX11) (T := TX11) (N := 19) rfl hly_13_2 hlk_28 (hh_75.at 8 rfl) dX11_understood_83 ?_
      refine lv_aload_n hx hb dX11_understood_86 rfl (lv_at hl 4 rfl) ?_
      refine j7_read hx hb hown hK (C := RX11) (T := TX11) (N := 19) rfl hly_13_2 hlk_28 (hh_75.at 8 rfl) dX11_understood_87 ?_
      refine lv_iconst (v := 0) hx hb dX11_understood_90 (by decide) ?_
      refine j_ldcSw hx hb hown rstr273 dX11_understood_91 ?_
      have hsz_77 := hh_75.2.2.2.2.2.1
      have htt_77 := hh_75.2.2.2.2.2.2.1
      refine W.room (fun hrc_77 hrs_77 => ?_)
      refine va_calli (A0 := jA base) (H0 := s.heap) (va_runV (As := [.int 0, .ref str273]) (rest := [.ref js]) ⟨hx, hb, hml, hown, hts⟩ (uX4_memberJ l dC dI ca base B hB hAp hB6 hB140 hB141 hB142 hB143 hB144 hB145 hB146 G_52 H_75 js 0 str273 7 (jChT "jsonrpc") qv_2 qu_2 wk wi wz jnx jkf jks jun T18 gk_2 gi_2 gz_2 gn_2 ga_2 gs_2 gu_2) (cwV 2 hts (jgV (jWr_23 _ (List.mem_of_getElem? (i := 10) rfl)) (jWr_23 _ (List.mem_of_getElem? (i := 11) rfl)) (jWr_23 _ (List.mem_of_getElem? (i := 12) rfl)) (jWr_1 _ (List.mem_of_getElem? (i := 22) rfl)) (jWr_23 _ (List.mem_of_getElem? (i := 13) rfl))) rfl rfl rfl (by decide +kernel) ⟨by rw [← hR]; exact Nat.le_of_ble_eq_true rfl, by rw [← hR]; exact Nat.le_of_ble_eq_true rfl⟩) ⟨fun a U g mk q => by obtain ⟨q0, q1, q2, qK, q10, q11, q12, q13, q14, q15, q16, q17, q18, q19, q20, q21⟩ := q; exact ⟨q0, q1, q2, jG.calling g mk a qK, (q10.moved (Vm.Alike.refl U.vm)), q11, q12, q13, q14, q15, q16, q17, q18, q19, q20, q21⟩, hh_75.recv (C := RX4) (T := TX4) (N := 12) hB6 rfl (by decide) hg_58 hK, fun U hU hW => ⟨rfl, hU, hh_75.2.1, hG.step hW hU hh_75.1, (hTstr273.moved hW.alike).kept hh_75.1.2.1, hg_58, hg_59, hg_60, hg_61, hg_62, hg_63, hg_64, hg_65, (hh_75.2.2.1.sub (L1 := [(js, 6, 7, .int qv_2), (js, 6, 8, .int qu_2), (js, 6, 0, .ref wk), (js, 6, 1, .ref wi), (js, 6, 2, .ref wz), (js, 6, 3, .ref jnx), (js, 6, 4, .ref jkf), (js, 6, 5, .ref jks), (js, 6, 6, .ref jun)]) [2, 3, 9, 10, 11, 12, 13, 14, 15] rfl), (hh_75.2.2.2.2.2.2.2.1.sub (L1 := [(wk, 140, 1502, ca 1, gk_2), (wi, 141, 1502, ca 1, gi_2), (wz, 142, 1502, ca 1, gz_2), (jnx, 143, 1502, ca 1, gn_2), (jkf, 144, 1502, ca 1, ga_2), (jks, 145, 1502, ca 1, gs_2), (jun, 146, 3000, ca 1, gu_2)]) [0, 1, 2, 3, 4, 5, 6] rfl), ⟨(by first | omega | rfl | assumption | exact hTb18 | exact hqR18 | exact hco18), (by first | omega | rfl | assumption | exact hTb18 | exact hqR18 | exact hco18), (by first | omega | rfl | assumption | exact hTb18 | exact hqR18 | exact hco18), (by first | omega | rfl | assumption | exact hTb18 | exact hqR18 | exact hco18), (by first | assumption | exact hTb18 | exact hqR18 | exact hco18 | omega), (by first | omega | rfl | assumption | exact hTb18 | exact hqR18 | exact hco18), (by first | assumption | exact hTb18 | exact hqR18 | exact hco18 | omega), (by first | assumption | exact hTb18 | exact hqR18 | exact hco18 | omega)⟩⟩⟩ rfl rfl hl.1 rfl (lv_room (Nat.le_of_ble_eq_true rfl)) dX11_understood_94 ⟨by rw [hRc]; show _ + 0 ≤ _; omega, by rw [hRs]; show _ + 0 ≤ _; omega⟩) hh_75.1 (fun q _ h => h) (fun q h => h) (fun r_78 u_77 t_77 H_77 locs_77 ht_77 hvm_77 hr_78 hb_77 hz_77 hk_77 hS_77 => ?_)
      rw [ht_77] at hb_77
      obtain ⟨hb_77, hbF_77⟩ := hb_77
      obtain ⟨hb_771, hb_772, hb_773, hb_774, hb_775⟩ := hb_77
      have hh_77 : jSt (dC, dI) B base G0 G_52 EX11_understoodU s.heap ((n_pa - n_pa) / 16 + 11) (2 * (n_pa - n_pa) + 267) [(bo, 2, 1, .int pc), (bo, 2, 0, .ref pa), (js, 6, 7, .int qv_2), (js, 6, 8, .int qu_2), (r0, 13, 4, .ref bo), (r0, 13, 3, .ref ou), (r0, 13, 1, .ref fm), (fm, 4, 1, .int fl), (r0, 13, 2, .ref js), (js, 6, 0, .ref wk), (js, 6, 1, .ref wi), (js, 6, 2, .ref wz), (js, 6, 3, .ref jnx), (js, 6, 4, .ref jkf), (js, 6, 5, .ref jks), (js, 6, 6, .ref jun), (fm, 4, 0, .ref bd_)] [(wk, 140, 1502, ca 1, gk_2), (wi, 141, 1502, ca 1, gi_2), (wz, 142, 1502, ca 1, gz_2), (jnx, 143, 1502, ca 1, gn_2), (jkf, 144, 1502, ca 1, ga_2), (jks, 145, 1502, ca 1, gs_2), (jun, 146, 3000, ca 1, gu_2), (bd_, 100, 3000, ca 0, fb)] [([(10, 0)], jRi dC dI G_52 H_49.size (jqK T18 qv_2.toInt r_50.toInt = 4 ∨ (jqK T18 qv_2.toInt r_50.toInt = 3 ∧ jqZ T18 qv_2.toInt r_50.toInt ≤ 20))), ([(2, 0), (2, 1)], jOl (dC, dI) G0 2 [bo, ou] s.heap), (jFy, jYb dC dI G_52)] H_77 locs_77 := ((hh_75.call hb_771 hb_772 hb_773 hb_774 hS_77 rfl (L1 := [(bo, 2, 1, .int pc), (bo, 2, 0, .ref pa), (js, 6, 7, .int qv_2), (js, 6, 8, .int qu_2), (r0, 13, 4, .ref bo), (r0, 13, 3, .ref ou), (r0, 13, 1, .ref fm), (fm, 4, 1, .int fl), (r0, 13, 2, .ref js), (js, 6, 0, .ref wk), (js, 6, 1, .ref wi), (js, 6, 2, .ref wz), (js, 6, 3, .ref jnx), (js, 6, 4, .ref jkf), (js, 6, 5, .ref jks), (js, 6, 6, .ref jun), (fm, 4, 0, .ref bd_)]) [0, 1, 2, 3, 4, 5, 6, 7, 8, 9, 10, 11, 12, 13, 14, 15, 16] rfl rfl (M1 := [(wk, 140, 1502, ca 1, gk_2), (wi, 141, 1502, ca 1, gi_2), (wz, 142, 1502, ca 1, gz_2), (jnx, 143, 1502, ca 1, gn_2), (jkf, 144, 1502, ca 1, ga_2), (jks, 145, 1502, ca 1, gs_2), (jun, 146, 3000, ca 1, gu_2), (bd_, 100, 3000, ca 0, fb)]) [0, 1, 2, 3, 4, 5, 6, 7] rfl rfl (I1 := [([(10, 0)], jRi dC dI G_52 H_49.size (jqK T18 qv_2.toInt r_50.toInt = 4 ∨ (jqK T18 qv_2.toInt r_50.toInt = 3 ∧ jqZ T18 qv_2.toInt r_50.toInt ≤ 20))), ([(2, 0), (2, 1)], jOl (dC, dI) G0 2 [bo, ou] s.heap), (jFy, jYb dC dI G_52)]) [0, 1, 2] rfl rfl).more hb_775)
      clear hh_75 ht_77 hvm_77 hz_77 hk_77 hS_77 hb_771 hb_772 hb_773 hb_774 hb_775
      obtain ⟨hr_78_0, hr_78_1, hr_78_2, hr_78_3⟩ := hr_78
      refine j_ldcSw hx hb hown rstr275 dX11_understood_97 ?_
      have hsz_79 := hh_77.2.2.2.2.2.1
      have htt_79 := hh_77.2.2.2.2.2.2.1
      refine W.room (fun hrc_79 hrs_79 => ?_)
      refine va_calli (A0 := jA base) (H0 := s.heap) (va_runV (As := [.int r_78, .ref str275]) (rest := []) ⟨hx, hb, hml, hown, hts⟩ (uX4_isTextJ l dC dI ca base B hB hAp hB6 hB140 hB141 hB142 hB146 G_52 H_77 js r_78 str275 3 (jChT "2.0") qv_2 qu_2 wk wi wz jnx jkf jks jun T18 gk_2 gi_2 gz_2 gn_2 ga_2 gs_2 gu_2) (cwV 2 hts (jgV (jWr_27 _ (List.mem_of_getElem? (i := 1) rfl)) (jWr_27 _ (List.mem_of_getElem? (i := 2) rfl)) (jWr_27 _ (List.mem_of_getElem? (i := 3) rfl)) (jWr_1 _ (List.mem_of_getElem? (i := 22) rfl)) (jWr_27 _ (List.mem_of_getElem? (i := 4) rfl))) rfl rfl rfl (by decide +kernel) ⟨by rw [← hR]; exact Nat.le_of_ble_eq_true rfl, by rw [← hR]; exact Nat.le_of_ble_eq_true rfl⟩) ⟨fun a U g mk q => by obtain ⟨q0, q1, q2, qK, q10, q11, q12, q13, q14, q15, q16, q17, q18, q19, q20, q21⟩ := q; exact ⟨q0, q1, q2, jG.calling g mk a qK, (q10.moved (Vm.Alike.refl U.vm)), q11, q12, q13, q14, q15, q16, q17, q18, q19, q20, q21⟩, hh_77.recv (C := RX4) (T := TX4) (N := 12) hB6 rfl (by decide) hg_58 hK, fun U hU hW => ⟨rfl, hU, hh_77.2.1, hG.step hW hU hh_77.1, (hTstr275.moved hW.alike).kept hh_77.1.2.1, hg_58, hg_59, hg_60, hg_61, hg_62, hg_63, hg_64, hg_65, (hh_77.2.2.1.sub (L1 := [(js, 6, 7, .int qv_2), (js, 6, 8, .int qu_2), (js, 6, 0, .ref wk), (js, 6, 1, .ref wi), (js, 6, 2, .ref wz), (js, 6, 3, .ref jnx), (js, 6, 4, .ref jkf), (js, 6, 5, .ref jks), (js, 6, 6, .ref jun)]) [2, 3, 9, 10, 11, 12, 13, 14, 15] rfl), (hh_77.2.2.2.2.2.2.2.1.sub (L1 := [(wk, 140, 1502, ca 1, gk_2), (wi, 141, 1502, ca 1, gi_2), (wz, 142, 1502, ca 1, gz_2), (jnx, 143, 1502, ca 1, gn_2), (jkf, 144, 1502, ca 1, ga_2), (jks, 145, 1502, ca 1, gs_2), (jun, 146, 3000, ca 1, gu_2)]) [0, 1, 2, 3, 4, 5, 6] rfl), ⟨(by first | omega | rfl | assumption | exact hr_3p_2.p hr_3p_1 | exact hTb18 | exact hqR18), (by first | omega | rfl | assumption | exact hr_3p_2.p hr_3p_1 | exact hTb18 | exact hqR18), (by first | omega | rfl | assumption | exact hr_3p_2.p hr_3p_1 | exact hTb18 | exact hqR18), (by first | omega | rfl | assumption | exact hr_3p_2.p hr_3p_1 | exact hTb18 | exact hqR18), (by first | assumption | exact hr_3p_2.p hr_3p_1 | exact hTb18 | exact hqR18 | omega), (by first | omega | rfl | assumption | exact hr_3p_2.p hr_3p_1 | exact hTb18 | exact hqR18), (by first | assumption | exact hr_3p_2.p hr_3p_1 | exact hTb18 | exact hqR18 | omega)⟩⟩⟩ rfl rfl hl.1 rfl (lv_room (Nat.le_of_ble_eq_true rfl)) dX11_understood_100 ⟨by rw [hRc]; show _ + 0 ≤ _; omega, by rw [hRs]; show _ + 0 ≤ _; omega⟩) hh_77.1 (fun q _ h => h) (fun q h => h) (fun r_80 u_79 t_79 H_79 locs_79 ht_79 hvm_79 hr_80 hb_79 hz_79 hk_79 hS_79 => ?_)
      rw [ht_79] at hb_79
      obtain ⟨hb_79, hbF_79⟩ := hb_79
      obtain ⟨hb_791, hb_792, hb_793, hb_794, hb_795⟩ := hb_79
      have hh_79 : jSt (dC, dI) B base G0 G_52 EX11_understoodU s.heap ((n_pa - n_pa) / 16 + 11) (2 * (n_pa - n_pa) + 267) [(bo, 2, 1, .int pc), (bo, 2, 0, .ref pa), (js, 6, 7, .int qv_2), (js, 6, 8, .int qu_2), (r0, 13, 4, .ref bo), (r0, 13, 3, .ref ou), (r0, 13, 1, .ref fm), (fm, 4, 1, .int fl), (r0, 13, 2, .ref js), (js, 6, 0, .ref wk), (js, 6, 1, .ref wi), (js, 6, 2, .ref wz), (js, 6, 3, .ref jnx), (js, 6, 4, .ref jkf), (js, 6, 5, .ref jks), (js, 6, 6, .ref jun), (fm, 4, 0, .ref bd_)] [(wk, 140, 1502, ca 1, gk_2), (wi, 141, 1502, ca 1, gi_2), (wz, 142, 1502, ca 1, gz_2), (jnx, 143, 1502, ca 1, gn_2), (jkf, 144, 1502, ca 1, ga_2), (jks, 145, 1502, ca 1, gs_2), (jun, 146, 3000, ca 1, gu_2), (bd_, 100, 3000, ca 0, fb)] [([(10, 0)], jRi dC dI G_52 H_49.size (jqK T18 qv_2.toInt r_50.toInt = 4 ∨ (jqK T18 qv_2.toInt r_50.toInt = 3 ∧ jqZ T18 qv_2.toInt r_50.toInt ≤ 20))), ([(2, 0), (2, 1)], jOl (dC, dI) G0 2 [bo, ou] s.heap), (jFy, jYb dC dI G_52)] H_79 locs_79 := ((hh_77.call hb_791 hb_792 hb_793 hb_794 hS_79 rfl (L1 := [(bo, 2, 1, .int pc), (bo, 2, 0, .ref pa), (js, 6, 7, .int qv_2), (js, 6, 8, .int qu_2), (r0, 13, 4, .ref bo), (r0, 13, 3, .ref ou), (r0, 13, 1, .ref fm), (fm, 4, 1, .int fl), (r0, 13, 2, .ref js), (js, 6, 0, .ref wk), (js, 6, 1, .ref wi), (js, 6, 2, .ref wz), (js, 6, 3, .ref jnx), (js, 6, 4, .ref jkf), (js, 6, 5, .ref jks), (js, 6, 6, .ref jun), (fm, 4, 0, .ref bd_)]) [0, 1, 2, 3, 4, 5, 6, 7, 8, 9, 10, 11, 12, 13, 14, 15, 16] rfl rfl (M1 := [(wk, 140, 1502, ca 1, gk_2), (wi, 141, 1502, ca 1, gi_2), (wz, 142, 1502, ca 1, gz_2), (jnx, 143, 1502, ca 1, gn_2), (jkf, 144, 1502, ca 1, ga_2), (jks, 145, 1502, ca 1, gs_2), (jun, 146, 3000, ca 1, gu_2), (bd_, 100, 3000, ca 0, fb)]) [0, 1, 2, 3, 4, 5, 6, 7] rfl rfl (I1 := [([(10, 0)], jRi dC dI G_52 H_49.size (jqK T18 qv_2.toInt r_50.toInt = 4 ∨ (jqK T18 qv_2.toInt r_50.toInt = 3 ∧ jqZ T18 qv_2.toInt r_50.toInt ≤ 20))), ([(2, 0), (2, 1)], jOl (dC, dI) G0 2 [bo, ou] s.heap), (jFy, jYb dC dI G_52)]) [0, 1, 2] rfl rfl).more hb_795)
      clear hh_77 ht_79 hvm_79 hz_79 hk_79 hS_79 hb_791 hb_792 hb_793 hb_794 hb_795
      obtain ⟨hr_80b, hr_80p⟩ := hr_80
      obtain ⟨hr_80p_0, hr_80p_1⟩ := hr_80p
      have hr_80' := jb_01 hr_80b
      refine lv_if_eq (tgt := 161) hx hb dX11_understood_103 (by decide) (fun c_81 => ?_) (fun c_81 => ?_)
      · skip
        have c_81' : r_80.toInt = 0 := jb_eq (rfl) ((by decide)) c_81
        first | (have hr_50_2q := hr_50_2.resolve_left (by omega); clear hr_50_2) | (have hr_50_2q := hr_50_2.resolve_right (by omega); clear hr_50_2) | skip
        first | (have hr_76_2q := hr_76_2.resolve_left (by omega); clear hr_76_2) | (have hr_76_2q := hr_76_2.resolve_right (by omega); clear hr_76_2) | skip
        first | (have hr_78_2q := hr_78_2.resolve_left (by omega); clear hr_78_2) | (have hr_78_2q := hr_78_2.resolve_right (by omega); clear hr_78_2) | try clear hr_78_2
        first | (have hr_80p_0q := hr_80p_0.resolve_left (by omega); clear hr_80p_0) | (have hr_80p_0q := hr_80p_0.resolve_right (by omega); clear hr_80p_0) | try clear hr_80p_0
        have hgd9 : jdGd T18 qv_2.toInt ≠ 1 := jdGd.n (m := 0) hk0 hr_78_3 (fun h9 => absurd h9 (by rw [← hr_80p_1]; omega)) hr_76_3 hid9 (Or.inl (by rw [← hr_80p_1]; omega))
        refine lv_iconst (v := 0) hx hb dX11_understood_161 (by decide) ?_
        refine lv_istore (lv' := [(5, .int 0), (4, .int r_76), (3, .ref H_49.size), (2, .int r_50), (1, .int r_3), (0, .ref r0)]) hx hb dX11_understood_162 hl (by decide) rfl (fun ls hl => ?_)
        refine lv_iload hx hb dX11_understood_164 (lv_at hl 0 rfl) ?_
        refine lv_if_ne (tgt := 179) hx hb dX11_understood_166 (by decide) (fun c_82 => ?_) (fun c_82 => ?_)
        · skip
          exact absurd c_82 (by decide)
        · skip
          first | (have hr_50_2q := hr_50_2.resolve_left (by omega); clear hr_50_2) | (have hr_50_2q := hr_50_2.resolve_right (by omega); clear hr_50_2) | skip
          first | (have hr_76_2q := hr_76_2.resolve_left (by omega); clear hr_76_2) | (have hr_76_2q := hr_76_2.resolve_right (by omega); clear hr_76_2) | skip
          refine lv_aload_n hx hb dX11_understood_169 rfl (lv_at hl 5 rfl) ?_
          refine lv_aload_n hx hb dX11_understood_170 rfl (lv_at hl 2 rfl) ?_
          refine lv_sipush (v := (-32600)) hx hb dX11_understood_171 (by decide) ?_
          have hsz_83 := hh_79.2.2.2.2.2.1
          have htt_83 := hh_79.2.2.2.2.2.2.1
          refine W.room (fun hrc_83 hrs_83 => ?_)
          refine va_callv (A0 := jA base) (H0 := s.heap) (va_runV (As := [.ref H_49.size, .int (-32600)]) (rest := []) ⟨hx, hb, hml, hown, hts⟩ (uX11_refuse l dC dI ca base B hB hAp hB2 hB4 hB10 hB13 hB196 G_52 H_79 r0 H_49.size (-32600) bo pc pa n_pa ou LC LS) (cwV 2 hts (jgV (jWr_26 _ (List.mem_of_getElem? (i := 3) rfl)) (jWr_26 _ (List.mem_of_getElem? (i := 4) rfl)) (jWr_26 _ (List.mem_of_getElem? (i := 5) rfl)) (jWr_1 _ (List.mem_of_getElem? (i := 2) rfl)) (jWr_26 _ (List.mem_of_getElem? (i := 6) rfl))) rfl rfl rfl (by decide +kernel) ⟨by rw [← hR]; exact Nat.le_of_ble_eq_true rfl, by rw [← hR]; exact Nat.le_of_ble_eq_true rfl⟩) ⟨fun a U g mk q => by obtain ⟨q0, q1, q2, qK, q10, q11, q12, q13, q14, q15, q16, q17⟩ := q; exact ⟨q0, q1, q2, jG.calling g mk a qK, q10, q11, q12, q13, q14, q15, q16, q17⟩, hh_79.recv (C := RX11) (T := TX11) (N := 19) hB13 rfl (by decide) hg_54 hK, fun U hU hW => ⟨rfl, hU, hh_79.2.1, hG.step hW hU hh_79.1, hgc_52, hg_54, hg_55, hg_69, hg_56, (hh_79.2.2.1.sub (L1 := [(r0, 13, 4, .ref bo), (bo, 2, 1, .int pc), (bo, 2, 0, .ref pa), (r0, 13, 3, .ref ou)]) [4, 0, 1, 5] rfl), (hh_79.2.2.2.2.2.2.2.2.sub (L1 := [(jFy, jYb dC dI G_52)]) [2] rfl), (by omega), (by omega), ⟨(by first | omega | rfl | assumption | fail), (by first | omega | rfl | assumption | fail), (by first | omega | rfl | assumption | fail), (by first | omega | rfl | assumption | fail), (by first | assumption | fail | omega)⟩⟩⟩ rfl rfl hl.1 rfl (lv_room (Nat.le_of_ble_eq_true rfl)) dX11_understood_174 ⟨by rw [hRc]; omega, by rw [hRs]; omega⟩) hh_79.1 (fun q _ h => h) (fun q h => h) (fun u_83 t_83 H_83 locs_83 ht_83 hvm_83 hr_84 hb_83 hz_83 hk_83 hS_83 => ?_)
          obtain ⟨qc_83, qa_83, m_qa_83, G_83⟩ := u_83
          rw [ht_83] at hb_83
          simp only at hb_83
          obtain ⟨⟨hb_831, hb_832, hb_833, hb_834, hb_835, hb_836⟩, hgq_83_0, hN_83, hbO_83, hbE_83⟩ := hb_83
          have hY_83 := hN_83
          have hN_83 : (jNk [0, 1, 3, 4, 5, 6, 7, 8, 9, 11, 12, 13, 14, 15, 16]) G_52 G_83 := hN_83.sub (by decide)
          have hh_83 : jSt (dC, dI) B base G0 G_83 EX11_understoodU s.heap (((n_pa - n_pa) / 16 + 11) + ((m_qa_83 - n_pa) / 16)) ((2 * (n_pa - n_pa) + 267) + (2 * (m_qa_83 - n_pa))) [(bo, 2, 1, .int qc_83), (bo, 2, 0, .ref qa_83), (js, 6, 7, .int qv_2), (js, 6, 8, .int qu_2), (r0, 13, 4, .ref bo), (r0, 13, 3, .ref ou), (r0, 13, 1, .ref fm), (fm, 4, 1, .int fl), (r0, 13, 2, .ref js), (js, 6, 0, .ref wk), (js, 6, 1, .ref wi), (js, 6, 2, .ref wz), (js, 6, 3, .ref jnx), (js, 6, 4, .ref jkf), (js, 6, 5, .ref jks), (js, 6, 6, .ref jun), (fm, 4, 0, .ref bd_)] [(wk, 140, 1502, ca 1, gk_2), (wi, 141, 1502, ca 1, gi_2), (wz, 142, 1502, ca 1, gz_2), (jnx, 143, 1502, ca 1, gn_2), (jkf, 144, 1502, ca 1, ga_2), (jks, 145, 1502, ca 1, gs_2), (jun, 146, 3000, ca 1, gu_2), (bd_, 100, 3000, ca 0, fb)] [([(10, 0)], jRi dC dI G_52 H_49.size (jqK T18 qv_2.toInt r_50.toInt = 4 ∨ (jqK T18 qv_2.toInt r_50.toInt = 3 ∧ jqZ T18 qv_2.toInt r_50.toInt ≤ 20)))] H_83 locs_83 := (hh_79.callG hb_831 hb_832 hb_833 hb_834 hb_835 hS_83 rfl (L1 := [(js, 6, 7, .int qv_2), (js, 6, 8, .int qu_2), (r0, 13, 4, .ref bo), (r0, 13, 3, .ref ou), (r0, 13, 1, .ref fm), (fm, 4, 1, .int fl), (r0, 13, 2, .ref js), (js, 6, 0, .ref wk), (js, 6, 1, .ref wi), (js, 6, 2, .ref wz), (js, 6, 3, .ref jnx), (js, 6, 4, .ref jkf), (js, 6, 5, .ref jks), (js, 6, 6, .ref jun), (fm, 4, 0, .ref bd_)]) [2, 3, 4, 5, 6, 7, 8, 9, 10, 11, 12, 13, 14, 15, 16] rfl rfl (M1 := [(wk, 140, 1502, ca 1, gk_2), (wi, 141, 1502, ca 1, gi_2), (wz, 142, 1502, ca 1, gz_2), (jnx, 143, 1502, ca 1, gn_2), (jkf, 144, 1502, ca 1, ga_2), (jks, 145, 1502, ca 1, gs_2), (jun, 146, 3000, ca 1, gu_2), (bd_, 100, 3000, ca 0, fb)]) [0, 1, 2, 3, 4, 5, 6, 7] rfl rfl (I1 := [([(10, 0)], jRi dC dI G_52 H_49.size (jqK T18 qv_2.toInt r_50.toInt = 4 ∨ (jqK T18 qv_2.toInt r_50.toInt = 3 ∧ jqZ T18 qv_2.toInt r_50.toInt ≤ 20)))]) [0] rfl rfl).more hb_836
          have hNn_83 : (jNk [0, 1, 3, 4, 5, 6, 7, 8, 9, 11, 12, 13, 14, 15, 16]) G0 G_83 := (hNn_52).tr hN_83
          have hg_85 := hb_832 _ _ hgc_52
          have hg_86 := hb_832 _ _ hg_54
          have hg_87 := hb_832 _ _ hg_55
          have hg_88 := hb_832 _ _ hg_56
          have hg_89 := hb_832 _ _ hg_57
          have hg_90 := hb_832 _ _ hg_58
          have hg_91 := hb_832 _ _ hg_59
          have hg_92 := hb_832 _ _ hg_60
          have hg_93 := hb_832 _ _ hg_61
          have hg_94 := hb_832 _ _ hg_62
          have hg_95 := hb_832 _ _ hg_63
          have hg_96 := hb_832 _ _ hg_64
          have hg_97 := hb_832 _ _ hg_65
          have hg_98 := hb_832 _ _ hg_66
          have hh_99 := hh_83.addIs hbE_83
          have hd_100 := jOl.trL (hh_79.iv 1 rfl) hh_79.2.2.2.2.1 hbO_83 (by simp)
          have hh_101 := hh_99.addI (jOl.ie (dC := dC) (dI := dI) (G0 := G0) (k := 2) (rs := [bo, ou]) (H0 := s.heap) (F := [(2, 0), (2, 1)]) (C := RX0) (T := TX0) (N := 2) rfl (by decide) hh_99.2.2.2.2.1 (hd_100))
          clear hh_99
          try simp only at hr_84
          obtain ⟨hr_84_0, hr_84_1, hr_84_2, hr_84_3, hr_84_4⟩ := hr_84
          have hh_102 := hh_101.wk (zc1 := (m_qa_83 - n_pa) / 16 + 11) (zs1 := 2 * (m_qa_83 - n_pa) + 267) (by omega) (by omega)
          clear hh_101
          try clear hsz_83 htt_83 hrc_83 hrs_83
          try clear hb_834 hb_835
          refine lv_null hx hb dX11_understood_177 ?_
          have hsz_103 := hh_102.2.2.2.2.2.1
          have htt_103 := hh_102.2.2.2.2.2.2.1
          refine W.room (fun hrc_103 hrs_103 => ?_)
          refine W.widen (k := LC - s.heap.size) (n := LS - jTot s.heap) (by omega) (by omega) ?_
          rw [hQ]
          exact W.aret (v := .null) hx hb hr (Or.inl ⟨_, rfl⟩) (Or.inl rfl) (fun t ht hW => ⟨⟨.null, (qc_83, qv_2, qu_2, qa_83, m_qa_83, gk_2, gi_2, gz_2, gn_2, ga_2, gs_2, gu_2, none, T18, 0, G_83), rfl, ⟨Or.inl rfl, by skip; (try dsimp only); refine ⟨by omega, by omega, by omega, by omega, by assumption, by omega, by omega, by omega, hr_3p_2, Or.inl rfl, rfl, ?_⟩; exact Or.inl ⟨rfl, Or.inr ⟨hX18, hgd9⟩⟩⟩, ⟨hh_102.ra (by first | (simp only; omega) | omega) (by first | (simp only; omega) | omega) (M1 := [(bo, 2, 1, .int qc_83), (js, 6, 7, .int qv_2), (js, 6, 8, .int qu_2), (bo, 2, 0, .ref qa_83)]) [0, 2, 3, 1] rfl ht, hgq_83_0, hNn_83, by rw [ht]; exact hh_102.iv 0 rfl, by rw [ht]; exact hh_102.2.2.2.2.2.2.2.2.sub (L1 := [(jFy, jYb dC dI G_83)]) [1] rfl, by rw [ht]; exact hh_102.2.2.2.2.2.2.2.1.sub [0, 1, 2, 3, 4, 5, 6] rfl, by rw [ht]; exact fun x h9 => by cases h9⟩⟩, by rw [ht]; try exact hh_102.1.1, fun q h9 hq => by rw [ht]; try exact hh_102.1.2.1 q h9 hq⟩) hh_102.1.2.2 dX11_understood_178
      · skip
        have c_81' : r_80.toInt ≠ 0 := jb_eq_n (rfl) ((by decide)) c_81
        first | (have hr_50_2q := hr_50_2.resolve_left (by omega); clear hr_50_2) | (have hr_50_2q := hr_50_2.resolve_right (by omega); clear hr_50_2) | skip
        first | (have hr_76_2q := hr_76_2.resolve_left (by omega); clear hr_76_2) | (have hr_76_2q := hr_76_2.resolve_right (by omega); clear hr_76_2) | skip
        first | (have hr_78_2q := hr_78_2.resolve_left (by omega); clear hr_78_2) | (have hr_78_2q := hr_78_2.resolve_right (by omega); clear hr_78_2) | try clear hr_78_2
        first | (have hr_80p_0q := hr_80p_0.resolve_left (by omega); clear hr_80p_0) | (have hr_80p_0q := hr_80p_0.resolve_right (by omega); clear hr_80p_0) | try clear hr_80p_0
        refine lv_aload_n hx hb dX11_understood_106 rfl (lv_at hl 4 rfl) ?_
        refine j7_read hx hb hown hK (C := RX11) (T := TX11) (N := 19) rfl hly_13_2 hlk_28 (hh_79.at 8 rfl) dX11_understood_107 ?_
        refine lv_aload_n hx hb dX11_understood_110 rfl (lv_at hl 4 rfl) ?_
        refine j7_read hx hb hown hK (C := RX11) (T := TX11) (N := 19) rfl hly_13_2 hlk_28 (hh_79.at 8 rfl) dX11_understood_111 ?_
        refine lv_iconst (v := 0) hx hb dX11_understood_114 (by decide) ?_
        refine j_ldcSw hx hb hown rstr281 dX11_understood_115 ?_
        have hsz_104 := hh_79.2.2.2.2.2.1
        have htt_104 := hh_79.2.2.2.2.2.2.1
        refine W.room (fun hrc_104 hrs_104 => ?_)
        refine va_calli (A0 := jA base) (H0 := s.heap) (va_runV (As := [.int 0, .ref str281]) (rest := [.ref js]) ⟨hx, hb, hml, hown, hts⟩ (uX4_memberJ l dC dI ca base B hB hAp hB6 hB140 hB141 hB142 hB143 hB144 hB145 hB146 G_52 H_79 js 0 str281 6 (jChT "method") qv_2 qu_2 wk wi wz jnx jkf jks jun T18 gk_2 gi_2 gz_2 gn_2 ga_2 gs_2 gu_2) (cwV 2 hts (jgV (jWr_23 _ (List.mem_of_getElem? (i := 10) rfl)) (jWr_23 _ (List.mem_of_getElem? (i := 11) rfl)) (jWr_23 _ (List.mem_of_getElem? (i := 12) rfl)) (jWr_1 _ (List.mem_of_getElem? (i := 22) rfl)) (jWr_23 _ (List.mem_of_getElem? (i := 13) rfl))) rfl rfl rfl (by decide +kernel) ⟨by rw [← hR]; exact Nat.le_of_ble_eq_true rfl, by rw [← hR]; exact Nat.le_of_ble_eq_true rfl⟩) ⟨fun a U g mk q => by obtain ⟨q0, q1, q2, qK, q10, q11, q12, q13, q14, q15, q16, q17, q18, q19, q20, q21⟩ := q; exact ⟨q0, q1, q2, jG.calling g mk a qK, (q10.moved (Vm.Alike.refl U.vm)), q11, q12, q13, q14, q15, q16, q17, q18, q19, q20, q21⟩, hh_79.recv (C := RX4) (T := TX4) (N := 12) hB6 rfl (by decide) hg_58 hK, fun U hU hW => ⟨rfl, hU, hh_79.2.1, hG.step hW hU hh_79.1, (hTstr281.moved hW.alike).kept hh_79.1.2.1, hg_58, hg_59, hg_60, hg_61, hg_62, hg_63, hg_64, hg_65, (hh_79.2.2.1.sub (L1 := [(js, 6, 7, .int qv_2), (js, 6, 8, .int qu_2), (js, 6, 0, .ref wk), (js, 6, 1, .ref wi), (js, 6, 2, .ref wz), (js, 6, 3, .ref jnx), (js, 6, 4, .ref jkf), (js, 6, 5, .ref jks), (js, 6, 6, .ref jun)]) [2, 3, 9, 10, 11, 12, 13, 14, 15] rfl), (hh_79.2.2.2.2.2.2.2.1.sub (L1 := [(wk, 140, 1502, ca 1, gk_2), (wi, 141, 1502, ca 1, gi_2), (wz, 142, 1502, ca 1, gz_2), (jnx, 143, 1502, ca 1, gn_2), (jkf, 144, 1502, ca 1, ga_2), (jks, 145, 1502, ca 1, gs_2), (jun, 146, 3000, ca 1, gu_2)]) [0, 1, 2, 3, 4, 5, 6] rfl), ⟨(by first | omega | rfl | assumption | exact hTb18 | exact hqR18 | exact hco18), (by first | omega | rfl | assumption | exact hTb18 | exact hqR18 | exact hco18), (by first | omega | rfl | assumption | exact hTb18 | exact hqR18 | exact hco18), (by first | omega | rfl | assumption | exact hTb18 | exact hqR18 | exact hco18), (by first | assumption | exact hTb18 | exact hqR18 | exact hco18 | omega), (by first | omega | rfl | assumption | exact hTb18 | exact hqR18 | exact hco18), (by first | assumption | exact hTb18 | exact hqR18 | exact hco18 | omega), (by first | assumption | exact hTb18 | exact hqR18 | exact hco18 | omega)⟩⟩⟩ rfl rfl hl.1 rfl (lv_room (Nat.le_of_ble_eq_true rfl)) dX11_understood_118 ⟨by rw [hRc]; show _ + 0 ≤ _; omega, by rw [hRs]; show _ + 0 ≤ _; omega⟩) hh_79.1 (fun q _ h => h) (fun q h => h) (fun r_105 u_104 t_104 H_104 locs_104 ht_104 hvm_104 hr_105 hb_104 hz_104 hk_104 hS_104 => ?_)
        rw [ht_104] at hb_104
        obtain ⟨hb_104, hbF_104⟩ := hb_104
        obtain ⟨hb_1041, hb_1042, hb_1043, hb_1044, hb_1045⟩ := hb_104
        have hh_104 : jSt (dC, dI) B base G0 G_52 EX11_understoodU s.heap ((n_pa - n_pa) / 16 + 11) (2 * (n_pa - n_pa) + 267) [(bo, 2, 1, .int pc), (bo, 2, 0, .ref pa), (js, 6, 7, .int qv_2), (js, 6, 8, .int qu_2), (r0, 13, 4, .ref bo), (r0, 13, 3, .ref ou), (r0, 13, 1, .ref fm), (fm, 4, 1, .int fl), (r0, 13, 2, .ref js), (js, 6, 0, .ref wk), (js, 6, 1, .ref wi), (js, 6, 2, .ref wz), (js, 6, 3, .ref jnx), (js, 6, 4, .ref jkf), (js, 6, 5, .ref jks), (js, 6, 6, .ref jun), (fm, 4, 0, .ref bd_)] [(wk, 140, 1502, ca 1, gk_2), (wi, 141, 1502, ca 1, gi_2), (wz, 142, 1502, ca 1, gz_2), (jnx, 143, 1502, ca 1, gn_2), (jkf, 144, 1502, ca 1, ga_2), (jks, 145, 1502, ca 1, gs_2), (jun, 146, 3000, ca 1, gu_2), (bd_, 100, 3000, ca 0, fb)] [([(10, 0)], jRi dC dI G_52 H_49.size (jqK T18 qv_2.toInt r_50.toInt = 4 ∨ (jqK T18 qv_2.toInt r_50.toInt = 3 ∧ jqZ T18 qv_2.toInt r_50.toInt ≤ 20))), ([(2, 0), (2, 1)], jOl (dC, dI) G0 2 [bo, ou] s.heap), (jFy, jYb dC dI G_52)] H_104 locs_104 := ((hh_79.call hb_1041 hb_1042 hb_1043 hb_1044 hS_104 rfl (L1 := [(bo, 2, 1, .int pc), (bo, 2, 0, .ref pa), (js, 6, 7, .int qv_2), (js, 6, 8, .int qu_2), (r0, 13, 4, .ref bo), (r0, 13, 3, .ref ou), (r0, 13, 1, .ref fm), (fm, 4, 1, .int fl), (r0, 13, 2, .ref js), (js, 6, 0, .ref wk), (js, 6, 1, .ref wi), (js, 6, 2, .ref wz), (js, 6, 3, .ref jnx), (js, 6, 4, .ref jkf), (js, 6, 5, .ref jks), (js, 6, 6, .ref jun), (fm, 4, 0, .ref bd_)]) [0, 1, 2, 3, 4, 5, 6, 7, 8, 9, 10, 11, 12, 13, 14, 15, 16] rfl rfl (M1 := [(wk, 140, 1502, ca 1, gk_2), (wi, 141, 1502, ca 1, gi_2), (wz, 142, 1502, ca 1, gz_2), (jnx, 143, 1502, ca 1, gn_2), (jkf, 144, 1502, ca 1, ga_2), (jks, 145, 1502, ca 1, gs_2), (jun, 146, 3000, ca 1, gu_2), (bd_, 100, 3000, ca 0, fb)]) [0, 1, 2, 3, 4, 5, 6, 7] rfl rfl (I1 := [([(10, 0)], jRi dC dI G_52 H_49.size (jqK T18 qv_2.toInt r_50.toInt = 4 ∨ (jqK T18 qv_2.toInt r_50.toInt = 3 ∧ jqZ T18 qv_2.toInt r_50.toInt ≤ 20))), ([(2, 0), (2, 1)], jOl (dC, dI) G0 2 [bo, ou] s.heap), (jFy, jYb dC dI G_52)]) [0, 1, 2] rfl rfl).more hb_1045)
        clear hh_79 ht_104 hvm_104 hz_104 hk_104 hS_104 hb_1041 hb_1042 hb_1043 hb_1044 hb_1045
        obtain ⟨hr_105_0, hr_105_1, hr_105_2, hr_105_3⟩ := hr_105
        have hsz_106 := hh_104.2.2.2.2.2.1
        have htt_106 := hh_104.2.2.2.2.2.2.1
        refine W.room (fun hrc_106 hrs_106 => ?_)
        refine va_calli (A0 := jA base) (H0 := s.heap) (va_runV (As := [.int r_105]) (rest := []) ⟨hx, hb, hml, hown, hts⟩ (uX4_kindOfJ l dC dI ca base B hB hAp hB6 hB140 G_52 H_104 js r_105 qv_2 qu_2 wk wi wz jnx jkf jks jun T18 gk_2 gi_2 gz_2 gn_2 ga_2 gs_2 gu_2) (cwV 1 hts (jgV (jWr_27 _ (List.mem_of_getElem? (i := 5) rfl)) (jWr_23 _ (List.mem_of_getElem? (i := 15) rfl)) (jWr_23 _ (List.mem_of_getElem? (i := 16) rfl)) (jWr_1 _ (List.mem_of_getElem? (i := 22) rfl)) (jWr_23 _ (List.mem_of_getElem? (i := 17) rfl))) rfl rfl rfl (by decide +kernel) ⟨by rw [← hR]; exact Nat.le_of_ble_eq_true rfl, by rw [← hR]; exact Nat.le_of_ble_eq_true rfl⟩) ⟨fun a U g mk q => by obtain ⟨q0, q1, q2, qK, q10, q11, q12, q13, q14, q15, q16, q17, q18, q19, q20⟩ := q; exact ⟨q0, q1, q2, jG.calling g mk a qK, q10, q11, q12, q13, q14, q15, q16, q17, q18, q19, q20⟩, hh_104.recv (C := RX4) (T := TX4) (N := 12) hB6 rfl (by decide) hg_58 hK, fun U hU hW => ⟨rfl, hU, hh_104.2.1, hG.step hW hU hh_104.1, hg_58, hg_59, hg_60, hg_61, hg_62, hg_63, hg_64, hg_65, (hh_104.2.2.1.sub (L1 := [(js, 6, 7, .int qv_2), (js, 6, 8, .int qu_2), (js, 6, 0, .ref wk), (js, 6, 1, .ref wi), (js, 6, 2, .ref wz), (js, 6, 3, .ref jnx), (js, 6, 4, .ref jkf), (js, 6, 5, .ref jks), (js, 6, 6, .ref jun)]) [2, 3, 9, 10, 11, 12, 13, 14, 15] rfl), (hh_104.2.2.2.2.2.2.2.1.sub (L1 := [(wk, 140, 1502, ca 1, gk_2), (wi, 141, 1502, ca 1, gi_2), (wz, 142, 1502, ca 1, gz_2), (jnx, 143, 1502, ca 1, gn_2), (jkf, 144, 1502, ca 1, ga_2), (jks, 145, 1502, ca 1, gs_2), (jun, 146, 3000, ca 1, gu_2)]) [0, 1, 2, 3, 4, 5, 6] rfl), ⟨(by first | omega | rfl | assumption | exact hTb18 | exact hqR18 | exact hco18), (by first | omega | rfl | assumption | exact hTb18 | exact hqR18 | exact hco18), (by first | omega | rfl | assumption | exact hTb18 | exact hqR18 | exact hco18), (by first | omega | rfl | assumption | exact hTb18 | exact hqR18 | exact hco18), (by first | assumption | exact hTb18 | exact hqR18 | exact hco18 | omega)⟩⟩⟩ rfl rfl hl.1 rfl (lv_room (Nat.le_of_ble_eq_true rfl)) dX11_understood_121 ⟨by rw [hRc]; show _ + 0 ≤ _; omega, by rw [hRs]; show _ + 0 ≤ _; omega⟩) hh_104.1 (fun q _ h => h) (fun q h => h) (fun r_107 u_106 t_106 H_106 locs_106 ht_106 hvm_106 hr_107 hb_106 hz_106 hk_106 hS_106 => ?_)
        rw [ht_106] at hb_106
        obtain ⟨hb_106, hbF_106⟩ := hb_106
        obtain ⟨hb_1061, hb_1062, hb_1063, hb_1064, hb_1065⟩ := hb_106
        have hh_106 : jSt (dC, dI) B base G0 G_52 EX11_understoodU s.heap ((n_pa - n_pa) / 16 + 11) (2 * (n_pa - n_pa) + 267) [(bo, 2, 1, .int pc), (bo, 2, 0, .ref pa), (js, 6, 7, .int qv_2), (js, 6, 8, .int qu_2), (r0, 13, 4, .ref bo), (r0, 13, 3, .ref ou), (r0, 13, 1, .ref fm), (fm, 4, 1, .int fl), (r0, 13, 2, .ref js), (js, 6, 0, .ref wk), (js, 6, 1, .ref wi), (js, 6, 2, .ref wz), (js, 6, 3, .ref jnx), (js, 6, 4, .ref jkf), (js, 6, 5, .ref jks), (js, 6, 6, .ref jun), (fm, 4, 0, .ref bd_)] [(wk, 140, 1502, ca 1, gk_2), (wi, 141, 1502, ca 1, gi_2), (wz, 142, 1502, ca 1, gz_2), (jnx, 143, 1502, ca 1, gn_2), (jkf, 144, 1502, ca 1, ga_2), (jks, 145, 1502, ca 1, gs_2), (jun, 146, 3000, ca 1, gu_2), (bd_, 100, 3000, ca 0, fb)] [([(10, 0)], jRi dC dI G_52 H_49.size (jqK T18 qv_2.toInt r_50.toInt = 4 ∨ (jqK T18 qv_2.toInt r_50.toInt = 3 ∧ jqZ T18 qv_2.toInt r_50.toInt ≤ 20))), ([(2, 0), (2, 1)], jOl (dC, dI) G0 2 [bo, ou] s.heap), (jFy, jYb dC dI G_52)] H_106 locs_106 := ((hh_104.call hb_1061 hb_1062 hb_1063 hb_1064 hS_106 rfl (L1 := [(bo, 2, 1, .int pc), (bo, 2, 0, .ref pa), (js, 6, 7, .int qv_2), (js, 6, 8, .int qu_2), (r0, 13, 4, .ref bo), (r0, 13, 3, .ref ou), (r0, 13, 1, .ref fm), (fm, 4, 1, .int fl), (r0, 13, 2, .ref js), (js, 6, 0, .ref wk), (js, 6, 1, .ref wi), (js, 6, 2, .ref wz), (js, 6, 3, .ref jnx), (js, 6, 4, .ref jkf), (js, 6, 5, .ref jks), (js, 6, 6, .ref jun), (fm, 4, 0, .ref bd_)]) [0, 1, 2, 3, 4, 5, 6, 7, 8, 9, 10, 11, 12, 13, 14, 15, 16] rfl rfl (M1 := [(wk, 140, 1502, ca 1, gk_2), (wi, 141, 1502, ca 1, gi_2), (wz, 142, 1502, ca 1, gz_2), (jnx, 143, 1502, ca 1, gn_2), (jkf, 144, 1502, ca 1, ga_2), (jks, 145, 1502, ca 1, gs_2), (jun, 146, 3000, ca 1, gu_2), (bd_, 100, 3000, ca 0, fb)]) [0, 1, 2, 3, 4, 5, 6, 7] rfl rfl (I1 := [([(10, 0)], jRi dC dI G_52 H_49.size (jqK T18 qv_2.toInt r_50.toInt = 4 ∨ (jqK T18 qv_2.toInt r_50.toInt = 3 ∧ jqZ T18 qv_2.toInt r_50.toInt ≤ 20))), ([(2, 0), (2, 1)], jOl (dC, dI) G0 2 [bo, ou] s.heap), (jFy, jYb dC dI G_52)]) [0, 1, 2] rfl rfl).more hb_1065)
        clear hh_104 ht_106 hvm_106 hz_106 hk_106 hS_106 hb_1061 hb_1062 hb_1063 hb_1064 hb_1065
        obtain ⟨hr_107_0, hr_107_1⟩ := hr_107
        refine lv_iconst (v := 3) hx hb dX11_understood_124 (by decide) ?_
        refine lv_icmp_ne (tgt := 161) hx hb dX11_understood_125 (by decide) (fun c_108 => ?_) (fun c_108 => ?_)
        · skip
          have c_108' : r_107.toInt ≠ 3 := jb_ne (rfl) ((by decide)) c_108
          try clear hr_105_2
          try clear hr_107_0
          have hgd9 : jdGd T18 qv_2.toInt ≠ 1 := jdGd.n hk0 hr_78_3 (fun _ => hr_105_3) hr_76_3 hid9 (Or.inr ⟨by rw [← hr_80p_1]; omega, Or.inl (by rw [← hr_107_1]; omega)⟩)
          refine lv_iconst (v := 0) hx hb dX11_understood_161 (by decide) ?_
          refine lv_istore (lv' := [(5, .int 0), (4, .int r_76), (3, .ref H_49.size), (2, .int r_50), (1, .int r_3), (0, .ref r0)]) hx hb dX11_understood_162 hl (by decide) rfl (fun ls hl => ?_)
          refine lv_iload hx hb dX11_understood_164 (lv_at hl 0 rfl) ?_
          refine lv_if_ne (tgt := 179) hx hb dX11_understood_166 (by decide) (fun c_109 => ?_) (fun c_109 => ?_)
          · skip
            exact absurd c_109 (by decide)
          · skip
            first | (have hr_50_2q := hr_50_2.resolve_left (by omega); clear hr_50_2) | (have hr_50_2q := hr_50_2.resolve_right (by omega); clear hr_50_2) | skip
            first | (have hr_76_2q := hr_76_2.resolve_left (by omega); clear hr_76_2) | (have hr_76_2q := hr_76_2.resolve_right (by omega); clear hr_76_2) | skip
            refine lv_aload_n hx hb dX11_understood_169 rfl (lv_at hl 5 rfl) ?_
            refine lv_aload_n hx hb dX11_understood_170 rfl (lv_at hl 2 rfl) ?_
            refine lv_sipush (v := (-32600)) hx hb dX11_understood_171 (by decide) ?_
            have hsz_110 := hh_106.2.2.2.2.2.1
            have htt_110 := hh_106.2.2.2.2.2.2.1
            refine W.room (fun hrc_110 hrs_110 => ?_)
            refine va_callv (A0 := jA base) (H0 := s.heap) (va_runV (As := [.ref H_49.size, .int (-32600)]) (rest := []) ⟨hx, hb, hml, hown, hts⟩ (uX11_refuse l dC dI ca base B hB hAp hB2 hB4 hB10 hB13 hB196 G_52 H_106 r0 H_49.size (-32600) bo pc pa n_pa ou LC LS) (cwV 2 hts (jgV (jWr_26 _ (List.mem_of_getElem? (i := 3) rfl)) (jWr_26 _ (List.mem_of_getElem? (i := 4) rfl)) (jWr_26 _ (List.mem_of_getElem? (i := 5) rfl)) (jWr_1 _ (List.mem_of_getElem? (i := 2) rfl)) (jWr_26 _ (List.mem_of_getElem? (i := 6) rfl))) rfl rfl rfl (by decide +kernel) ⟨by rw [← hR]; exact Nat.le_of_ble_eq_true rfl, by rw [← hR]; exact Nat.le_of_ble_eq_true rfl⟩) ⟨fun a U g mk q => by obtain ⟨q0, q1, q2, qK, q10, q11, q12, q13, q14, q15, q16, q17⟩ := q; exact ⟨q0, q1, q2, jG.calling g mk a qK, q10, q11, q12, q13, q14, q15, q16, q17⟩, hh_106.recv (C := RX11) (T := TX11) (N := 19) hB13 rfl (by decide) hg_54 hK, fun U hU hW => ⟨rfl, hU, hh_106.2.1, hG.step hW hU hh_106.1, hgc_52, hg_54, hg_55, hg_69, hg_56, (hh_106.2.2.1.sub (L1 := [(r0, 13, 4, .ref bo), (bo, 2, 1, .int pc), (bo, 2, 0, .ref pa), (r0, 13, 3, .ref ou)]) [4, 0, 1, 5] rfl), (hh_106.2.2.2.2.2.2.2.2.sub (L1 := [(jFy, jYb dC dI G_52)]) [2] rfl), (by omega), (by omega), ⟨(by first | omega | rfl | assumption | fail), (by first | omega | rfl | assumption | fail), (by first | omega | rfl | assumption | fail), (by first | omega | rfl | assumption | fail), (by first | assumption | fail | omega)⟩⟩⟩ rfl rfl hl.1 rfl (lv_room (Nat.le_of_ble_eq_true rfl)) dX11_understood_174 ⟨by rw [hRc]; omega, by rw [hRs]; omega⟩) hh_106.1 (fun q _ h => h) (fun q h => h) (fun u_110 t_110 H_110 locs_110 ht_110 hvm_110 hr_111 hb_110 hz_110 hk_110 hS_110 => ?_)
            obtain ⟨qc_110, qa_110, m_qa_110, G_110⟩ := u_110
            rw [ht_110] at hb_110
            simp only at hb_110
            obtain ⟨⟨hb_1101, hb_1102, hb_1103, hb_1104, hb_1105, hb_1106⟩, hgq_110_0, hN_110, hbO_110, hbE_110⟩ := hb_110
            have hY_110 := hN_110
            have hN_110 : (jNk [0, 1, 3, 4, 5, 6, 7, 8, 9, 11, 12, 13, 14, 15, 16]) G_52 G_110 := hN_110.sub (by decide)
            have hh_110 : jSt (dC, dI) B base G0 G_110 EX11_understoodU s.heap (((n_pa - n_pa) / 16 + 11) + ((m_qa_110 - n_pa) / 16)) ((2 * (n_pa - n_pa) + 267) + (2 * (m_qa_110 - n_pa))) [(bo, 2, 1, .int qc_110), (bo, 2, 0, .ref qa_110), (js, 6, 7, .int qv_2), (js, 6, 8, .int qu_2), (r0, 13, 4, .ref bo), (r0, 13, 3, .ref ou), (r0, 13, 1, .ref fm), (fm, 4, 1, .int fl), (r0, 13, 2, .ref js), (js, 6, 0, .ref wk), (js, 6, 1, .ref wi), (js, 6, 2, .ref wz), (js, 6, 3, .ref jnx), (js, 6, 4, .ref jkf), (js, 6, 5, .ref jks), (js, 6, 6, .ref jun), (fm, 4, 0, .ref bd_)] [(wk, 140, 1502, ca 1, gk_2), (wi, 141, 1502, ca 1, gi_2), (wz, 142, 1502, ca 1, gz_2), (jnx, 143, 1502, ca 1, gn_2), (jkf, 144, 1502, ca 1, ga_2), (jks, 145, 1502, ca 1, gs_2), (jun, 146, 3000, ca 1, gu_2), (bd_, 100, 3000, ca 0, fb)] [([(10, 0)], jRi dC dI G_52 H_49.size (jqK T18 qv_2.toInt r_50.toInt = 4 ∨ (jqK T18 qv_2.toInt r_50.toInt = 3 ∧ jqZ T18 qv_2.toInt r_50.toInt ≤ 20)))] H_110 locs_110 := (hh_106.callG hb_1101 hb_1102 hb_1103 hb_1104 hb_1105 hS_110 rfl (L1 := [(js, 6, 7, .int qv_2), (js, 6, 8, .int qu_2), (r0, 13, 4, .ref bo), (r0, 13, 3, .ref ou), (r0, 13, 1, .ref fm), (fm, 4, 1, .int fl), (r0, 13, 2, .ref js), (js, 6, 0, .ref wk), (js, 6, 1, .ref wi), (js, 6, 2, .ref wz), (js, 6, 3, .ref jnx), (js, 6, 4, .ref jkf), (js, 6, 5, .ref jks), (js, 6, 6, .ref jun), (fm, 4, 0, .ref bd_)]) [2, 3, 4, 5, 6, 7, 8, 9, 10, 11, 12, 13, 14, 15, 16] rfl rfl (M1 := [(wk, 140, 1502, ca 1, gk_2), (wi, 141, 1502, ca 1, gi_2), (wz, 142, 1502, ca 1, gz_2), (jnx, 143, 1502, ca 1, gn_2), (jkf, 144, 1502, ca 1, ga_2), (jks, 145, 1502, ca 1, gs_2), (jun, 146, 3000, ca 1, gu_2), (bd_, 100, 3000, ca 0, fb)]) [0, 1, 2, 3, 4, 5, 6, 7] rfl rfl (I1 := [([(10, 0)], jRi dC dI G_52 H_49.size (jqK T18 qv_2.toInt r_50.toInt = 4 ∨ (jqK T18 qv_2.toInt r_50.toInt = 3 ∧ jqZ T18 qv_2.toInt r_50.toInt ≤ 20)))]) [0] rfl rfl).more hb_1106
            have hNn_110 : (jNk [0, 1, 3, 4, 5, 6, 7, 8, 9, 11, 12, 13, 14, 15, 16]) G0 G_110 := (hNn_52).tr hN_110
            have hg_112 := hb_1102 _ _ hgc_52
            have hg_113 := hb_1102 _ _ hg_54
            have hg_114 := hb_1102 _ _ hg_55
            have hg_115 := hb_1102 _ _ hg_56
            have hg_116 := hb_1102 _ _ hg_57
            have hg_117 := hb_1102 _ _ hg_58
            have hg_118 := hb_1102 _ _ hg_59
            have hg_119 := hb_1102 _ _ hg_60
            have hg_120 := hb_1102 _ _ hg_61
            have hg_121 := hb_1102 _ _ hg_62
            have hg_122 := hb_1102 _ _ hg_63
            have hg_123 := hb_1102 _ _ hg_64
            have hg_124 := hb_1102 _ _ hg_65
            have hg_125 := hb_1102 _ _ hg_66
            have hh_126 := hh_110.addIs hbE_110
            have hd_127 := jOl.trL (hh_106.iv 1 rfl) hh_106.2.2.2.2.1 hbO_110 (by simp)
            have hh_128 := hh_126.addI (jOl.ie (dC := dC) (dI := dI) (G0 := G0) (k := 2) (rs := [bo, ou]) (H0 := s.heap) (F := [(2, 0), (2, 1)]) (C := RX0) (T := TX0) (N := 2) rfl (by decide) hh_126.2.2.2.2.1 (hd_127))
            clear hh_126
            try simp only at hr_111
            obtain ⟨hr_111_0, hr_111_1, hr_111_2, hr_111_3, hr_111_4⟩ := hr_111
            have hh_129 := hh_128.wk (zc1 := (m_qa_110 - n_pa) / 16 + 11) (zs1 := 2 * (m_qa_110 - n_pa) + 267) (by omega) (by omega)
            clear hh_128
            try clear hsz_110 htt_110 hrc_110 hrs_110
            try clear hb_1104 hb_1105
            refine lv_null hx hb dX11_understood_177 ?_
            have hsz_130 := hh_129.2.2.2.2.2.1
            have htt_130 := hh_129.2.2.2.2.2.2.1
            refine W.room (fun hrc_130 hrs_130 => ?_)
            refine W.widen (k := LC - s.heap.size) (n := LS - jTot s.heap) (by omega) (by omega) ?_
            rw [hQ]
            exact W.aret (v := .null) hx hb hr (Or.inl ⟨_, rfl⟩) (Or.inl rfl) (fun t ht hW => ⟨⟨.null, (qc_110, qv_2, qu_2, qa_110, m_qa_110, gk_2, gi_2, gz_2, gn_2, ga_2, gs_2, gu_2, none, T18, 0, G_110), rfl, ⟨Or.inl rfl, by skip; (try dsimp only); refine ⟨by omega, by omega, by omega, by omega, by assumption, by omega, by omega, by omega, hr_3p_2, Or.inl rfl, rfl, ?_⟩; exact Or.inl ⟨rfl, Or.inr ⟨hX18, hgd9⟩⟩⟩, ⟨hh_129.ra (by first | (simp only; omega) | omega) (by first | (simp only; omega) | omega) (M1 := [(bo, 2, 1, .int qc_110), (js, 6, 7, .int qv_2), (js, 6, 8, .int qu_2), (bo, 2, 0, .ref qa_110)]) [0, 2, 3, 1] rfl ht, hgq_110_0, hNn_110, by rw [ht]; exact hh_129.iv 0 rfl, by rw [ht]; exact hh_129.2.2.2.2.2.2.2.2.sub (L1 := [(jFy, jYb dC dI G_110)]) [1] rfl, by rw [ht]; exact hh_129.2.2.2.2.2.2.2.1.sub [0, 1, 2, 3, 4, 5, 6] rfl, by rw [ht]; exact fun x h9 => by cases h9⟩⟩, by rw [ht]; try exact hh_129.1.1, fun q h9 hq => by rw [ht]; try exact hh_129.1.2.1 q h9 hq⟩) hh_129.1.2.2 dX11_understood_178
        · skip
          have c_108' : r_107.toInt = 3 := jb_ne_n (rfl) ((by decide)) c_108
          first | (have hr_105_2q := hr_105_2.resolve_left (by omega); clear hr_105_2) | (have hr_105_2q := hr_105_2.resolve_right (by omega); clear hr_105_2) | try clear hr_105_2
          first | (have hr_107_0q := hr_107_0.resolve_left (by omega); clear hr_107_0) | (have hr_107_0q := hr_107_0.resolve_right (by omega); clear hr_107_0) | try clear hr_107_0
          refine lv_iload hx hb dX11_understood_128 (lv_at hl 0 rfl) ?_
          refine lv_if_lt (tgt := 146) hx hb dX11_understood_130 (by decide) (fun c_131 => ?_) (fun c_131 => ?_)
          · skip
            have c_131' : r_76.toInt < 0 := jb_lt (rfl) ((by decide)) c_131
            first | (have hr_50_2q := hr_50_2.resolve_left (by omega); clear hr_50_2) | (have hr_50_2q := hr_50_2.resolve_right (by omega); clear hr_50_2) | skip
            first | (have hr_76_2q := hr_76_2.resolve_left (by omega); clear hr_76_2) | (have hr_76_2q := hr_76_2.resolve_right (by omega); clear hr_76_2) | skip
            refine lv_iload_n hx hb dX11_understood_146 rfl (lv_at hl 2 rfl) ?_
            refine lv_if_lt (tgt := 157) hx hb dX11_understood_147 (by decide) (fun c_132 => ?_) (fun c_132 => ?_)
            · skip
              have c_132' : r_50.toInt < 0 := jb_lt (rfl) ((by decide)) c_132
              first | (have hr_50_2q := hr_50_2.resolve_left (by omega); clear hr_50_2) | (have hr_50_2q := hr_50_2.resolve_right (by omega); clear hr_50_2) | skip
              first | (have hr_76_2q := hr_76_2.resolve_left (by omega); clear hr_76_2) | (have hr_76_2q := hr_76_2.resolve_right (by omega); clear hr_76_2) | skip
              have hgd9 : jdGd T18 qv_2.toInt = 1 := jdGd.y hk0 hr_78_3 hr_105_3 hr_76_3 hid9 (by rw [← hr_80p_1]; omega) (by rw [← hr_107_1]; omega) (Or.inl (by omega)) (Or.inl (by omega))
              refine lv_iconst (v := 1) hx hb dX11_understood_157 (by decide) ?_
              refine lv_goto (tgt := 162) hx hb dX11_understood_158 (by decide) ?_
              refine lv_istore (lv' := [(5, .int 1), (4, .int r_76), (3, .ref H_49.size), (2, .int r_50), (1, .int r_3), (0, .ref r0)]) hx hb dX11_understood_162 hl (by decide) rfl (fun ls hl => ?_)
              refine lv_iload hx hb dX11_understood_164 (lv_at hl 0 rfl) ?_
              refine lv_if_ne (tgt := 179) hx hb dX11_understood_166 (by decide) (fun c_133 => ?_) (fun c_133 => ?_)
              · skip
                refine lv_aload_n hx hb dX11_understood_179 rfl (lv_at hl 2 rfl) ?_
                have hsz_134 := hh_106.2.2.2.2.2.1
                have htt_134 := hh_106.2.2.2.2.2.2.1
                refine W.room (fun hrc_134 hrs_134 => ?_)
                refine W.widen (k := LC - s.heap.size) (n := LS - jTot s.heap) (by omega) (by omega) ?_
                rw [hQ]
                exact W.aret (v := .ref H_49.size) hx hb hr (Or.inl ⟨_, rfl⟩) (Or.inr ⟨_, rfl⟩) (fun t ht hW => ⟨⟨.ref H_49.size, (pc, qv_2, qu_2, pa, n_pa, gk_2, gi_2, gz_2, gn_2, ga_2, gs_2, gu_2, (some H_49.size), T18, 0, G_52), rfl, ⟨Or.inr ⟨⟨_, rfl, hgc_52⟩, ⟨_, rfl, hsy_51⟩⟩, by skip; (try dsimp only); refine ⟨by omega, by omega, by omega, by omega, by assumption, by omega, by omega, by omega, hr_3p_2, Or.inr (jUd.of (j := r_78.toInt) (by omega) (by omega) (by omega) (by omega) (by omega) (by omega)), rfl, ?_⟩; exact Or.inr ⟨(fun q => by cases q), hX18, hgd9, hTb18, hco18⟩⟩, ⟨hh_106.ra (by first | (simp only; omega) | omega) (by first | (simp only; omega) | omega) (M1 := [(bo, 2, 1, .int pc), (js, 6, 7, .int qv_2), (js, 6, 8, .int qu_2), (bo, 2, 0, .ref pa)]) [0, 2, 3, 1] rfl ht, hg_69, hNn_52, by rw [ht]; exact hh_106.iv 1 rfl, by rw [ht]; exact hh_106.2.2.2.2.2.2.2.2.sub (L1 := [(jFy, jYb dC dI G_52)]) [2] rfl, by rw [ht]; exact hh_106.2.2.2.2.2.2.2.1.sub [0, 1, 2, 3, 4, 5, 6] rfl, by rw [ht]; exact fun x h9 => by cases h9; exact jRi.to (hh_106.iv 0 rfl) ⟨fun q => by have e9 := jqK.ng (T := T18) (v := qv_2.toInt) (a := r_50.toInt) (by omega); omega, fun q => by have q : (0 : Int) ≤ jdId T18 qv_2.toInt := q; have e9 : r_50.toInt = jdId T18 qv_2.toInt := (by have h9 := hid9; rw [hk0] at h9; exact h9); omega⟩⟩⟩, by rw [ht]; try exact hh_106.1.1, fun q h9 hq => by rw [ht]; try exact hh_106.1.2.1 q h9 hq⟩) hh_106.1.2.2 dX11_understood_180
              · skip
                exact absurd c_133 (by decide)
            · skip
              have c_132' : r_50.toInt ≥ 0 := jb_lt_n (rfl) ((by decide)) c_132
              first | (have hr_50_2q := hr_50_2.resolve_left (by omega); clear hr_50_2) | (have hr_50_2q := hr_50_2.resolve_right (by omega); clear hr_50_2) | skip
              first | (have hr_76_2q := hr_76_2.resolve_left (by omega); clear hr_76_2) | (have hr_76_2q := hr_76_2.resolve_right (by omega); clear hr_76_2) | skip
              refine lv_aload_n hx hb dX11_understood_150 rfl (lv_at hl 1 rfl) ?_
              obtain ⟨v_135, hv_135, hh_136⟩ := hh_106.pin (C := RX8) (T := TX8) (N := 5) hB10 rfl (by decide) hgc_52 (i := 0) (by decide) rfl
              clear hh_106
              rcases hv_135 with rfl | ⟨id_137, rfl, hg_id_137⟩
              · refine j7_read hx hb hown hK (C := RX8) (T := TX8) (N := 5) rfl hly_10_0 hlk_114 (hh_136.at 0 rfl) dX11_understood_151 ?_
                refine lv_ifnullN (tgt := 161) hx hb dX11_understood_154 (by decide) ?_
                have hgd9 : jdGd T18 qv_2.toInt ≠ 1 := jdGd.n hk0 hr_78_3 (fun _ => hr_105_3) hr_76_3 hid9 (Or.inr ⟨by rw [← hr_80p_1]; omega, Or.inr (Or.inr ⟨by omega, jRi.n (hh_136.iv 0 rfl) (hh_136.at 0 rfl)⟩)⟩)
                refine lv_iconst (v := 0) hx hb dX11_understood_161 (by decide) ?_
                refine lv_istore (lv' := [(5, .int 0), (4, .int r_76), (3, .ref H_49.size), (2, .int r_50), (1, .int r_3), (0, .ref r0)]) hx hb dX11_understood_162 hl (by decide) rfl (fun ls hl => ?_)
                refine lv_iload hx hb dX11_understood_164 (lv_at hl 0 rfl) ?_
                refine lv_if_ne (tgt := 179) hx hb dX11_understood_166 (by decide) (fun c_138 => ?_) (fun c_138 => ?_)
                · skip
                  exact absurd c_138 (by decide)
                · skip
                  first | (have hr_50_2q := hr_50_2.resolve_left (by omega); clear hr_50_2) | (have hr_50_2q := hr_50_2.resolve_right (by omega); clear hr_50_2) | skip
                  first | (have hr_76_2q := hr_76_2.resolve_left (by omega); clear hr_76_2) | (have hr_76_2q := hr_76_2.resolve_right (by omega); clear hr_76_2) | skip
                  refine lv_aload_n hx hb dX11_understood_169 rfl (lv_at hl 5 rfl) ?_
                  refine lv_aload_n hx hb dX11_understood_170 rfl (lv_at hl 2 rfl) ?_
                  refine lv_sipush (v := (-32600)) hx hb dX11_understood_171 (by decide) ?_
                  have hsz_139 := hh_136.2.2.2.2.2.1
                  have htt_139 := hh_136.2.2.2.2.2.2.1
                  refine W.room (fun hrc_139 hrs_139 => ?_)
                  refine va_callv (A0 := jA base) (H0 := s.heap) (va_runV (As := [.ref H_49.size, .int (-32600)]) (rest := []) ⟨hx, hb, hml, hown, hts⟩ (uX11_refuse l dC dI ca base B hB hAp hB2 hB4 hB10 hB13 hB196 G_52 H_106 r0 H_49.size (-32600) bo pc pa n_pa ou LC LS) (cwV 2 hts (jgV (jWr_26 _ (List.mem_of_getElem? (i := 3) rfl)) (jWr_26 _ (List.mem_of_getElem? (i := 4) rfl)) (jWr_26 _ (List.mem_of_getElem? (i := 5) rfl)) (jWr_1 _ (List.mem_of_getElem? (i := 2) rfl)) (jWr_26 _ (List.mem_of_getElem? (i := 6) rfl))) rfl rfl rfl (by decide +kernel) ⟨by rw [← hR]; exact Nat.le_of_ble_eq_true rfl, by rw [← hR]; exact Nat.le_of_ble_eq_true rfl⟩) ⟨fun a U g mk q => by obtain ⟨q0, q1, q2, qK, q10, q11, q12, q13, q14, q15, q16, q17⟩ := q; exact ⟨q0, q1, q2, jG.calling g mk a qK, q10, q11, q12, q13, q14, q15, q16, q17⟩, hh_136.recv (C := RX11) (T := TX11) (N := 19) hB13 rfl (by decide) hg_54 hK, fun U hU hW => ⟨rfl, hU, hh_136.2.1, hG.step hW hU hh_136.1, hgc_52, hg_54, hg_55, hg_69, hg_56, (hh_136.2.2.1.sub (L1 := [(r0, 13, 4, .ref bo), (bo, 2, 1, .int pc), (bo, 2, 0, .ref pa), (r0, 13, 3, .ref ou)]) [5, 1, 2, 6] rfl), (hh_136.2.2.2.2.2.2.2.2.sub (L1 := [(jFy, jYb dC dI G_52)]) [2] rfl), (by omega), (by omega), ⟨(by first | omega | rfl | assumption | fail), (by first | omega | rfl | assumption | fail), (by first | omega | rfl | assumption | fail), (by first | omega | rfl | assumption | fail), (by first | assumption | fail | omega)⟩⟩⟩ rfl rfl hl.1 rfl (lv_room (Nat.le_of_ble_eq_true rfl)) dX11_understood_174 ⟨by rw [hRc]; omega, by rw [hRs]; omega⟩) hh_136.1 (fun q _ h => h) (fun q h => h) (fun u_139 t_139 H_139 locs_139 ht_139 hvm_139 hr_140 hb_139 hz_139 hk_139 hS_139 => ?_)
                  obtain ⟨qc_139, qa_139, m_qa_139, G_139⟩ := u_139
                  rw [ht_139] at hb_139
                  simp only at hb_139
                  obtain ⟨⟨hb_1391, hb_1392, hb_1393, hb_1394, hb_1395, hb_1396⟩, hgq_139_0, hN_139, hbO_139, hbE_139⟩ := hb_139
                  have hY_139 := hN_139
                  have hN_139 : (jNk [0, 1, 3, 4, 5, 6, 7, 8, 9, 11, 12, 13, 14, 15, 16]) G_52 G_139 := hN_139.sub (by decide)
                  have hh_139 : jSt (dC, dI) B base G0 G_139 EX11_understoodU s.heap (((n_pa - n_pa) / 16 + 11) + ((m_qa_139 - n_pa) / 16)) ((2 * (n_pa - n_pa) + 267) + (2 * (m_qa_139 - n_pa))) [(bo, 2, 1, .int qc_139), (bo, 2, 0, .ref qa_139), (H_49.size, 10, 0, .null), (js, 6, 7, .int qv_2), (js, 6, 8, .int qu_2), (r0, 13, 4, .ref bo), (r0, 13, 3, .ref ou), (r0, 13, 1, .ref fm), (fm, 4, 1, .int fl), (r0, 13, 2, .ref js), (js, 6, 0, .ref wk), (js, 6, 1, .ref wi), (js, 6, 2, .ref wz), (js, 6, 3, .ref jnx), (js, 6, 4, .ref jkf), (js, 6, 5, .ref jks), (js, 6, 6, .ref jun), (fm, 4, 0, .ref bd_)] [(wk, 140, 1502, ca 1, gk_2), (wi, 141, 1502, ca 1, gi_2), (wz, 142, 1502, ca 1, gz_2), (jnx, 143, 1502, ca 1, gn_2), (jkf, 144, 1502, ca 1, ga_2), (jks, 145, 1502, ca 1, gs_2), (jun, 146, 3000, ca 1, gu_2), (bd_, 100, 3000, ca 0, fb)] [([(10, 0)], jRi dC dI G_52 H_49.size (jqK T18 qv_2.toInt r_50.toInt = 4 ∨ (jqK T18 qv_2.toInt r_50.toInt = 3 ∧ jqZ T18 qv_2.toInt r_50.toInt ≤ 20)))] H_139 locs_139 := (hh_136.callG hb_1391 hb_1392 hb_1393 hb_1394 hb_1395 hS_139 rfl (L1 := [(H_49.size, 10, 0, .null), (js, 6, 7, .int qv_2), (js, 6, 8, .int qu_2), (r0, 13, 4, .ref bo), (r0, 13, 3, .ref ou), (r0, 13, 1, .ref fm), (fm, 4, 1, .int fl), (r0, 13, 2, .ref js), (js, 6, 0, .ref wk), (js, 6, 1, .ref wi), (js, 6, 2, .ref wz), (js, 6, 3, .ref jnx), (js, 6, 4, .ref jkf), (js, 6, 5, .ref jks), (js, 6, 6, .ref jun), (fm, 4, 0, .ref bd_)]) [0, 3, 4, 5, 6, 7, 8, 9, 10, 11, 12, 13, 14, 15, 16, 17] rfl rfl (M1 := [(wk, 140, 1502, ca 1, gk_2), (wi, 141, 1502, ca 1, gi_2), (wz, 142, 1502, ca 1, gz_2), (jnx, 143, 1502, ca 1, gn_2), (jkf, 144, 1502, ca 1, ga_2), (jks, 145, 1502, ca 1, gs_2), (jun, 146, 3000, ca 1, gu_2), (bd_, 100, 3000, ca 0, fb)]) [0, 1, 2, 3, 4, 5, 6, 7] rfl rfl (I1 := [([(10, 0)], jRi dC dI G_52 H_49.size (jqK T18 qv_2.toInt r_50.toInt = 4 ∨ (jqK T18 qv_2.toInt r_50.toInt = 3 ∧ jqZ T18 qv_2.toInt r_50.toInt ≤ 20)))]) [0] rfl rfl).more hb_1396
                  have hNn_139 : (jNk [0, 1, 3, 4, 5, 6, 7, 8, 9, 11, 12, 13, 14, 15, 16]) G0 G_139 := (hNn_52).tr hN_139
                  have hg_141 := hb_1392 _ _ hgc_52
                  have hg_142 := hb_1392 _ _ hg_54
                  have hg_143 := hb_1392 _ _ hg_55
                  have hg_144 := hb_1392 _ _ hg_56
                  have hg_145 := hb_1392 _ _ hg_57
                  have hg_146 := hb_1392 _ _ hg_58
                  have hg_147 := hb_1392 _ _ hg_59
                  have hg_148 := hb_1392 _ _ hg_60
                  have hg_149 := hb_1392 _ _ hg_61
                  have hg_150 := hb_1392 _ _ hg_62
                  have hg_151 := hb_1392 _ _ hg_63
                  have hg_152 := hb_1392 _ _ hg_64
                  have hg_153 := hb_1392 _ _ hg_65
                  have hg_154 := hb_1392 _ _ hg_66
                  have hh_155 := hh_139.addIs hbE_139
                  have hd_156 := jOl.trL (hh_136.iv 1 rfl) hh_136.2.2.2.2.1 hbO_139 (by simp)
                  have hh_157 := hh_155.addI (jOl.ie (dC := dC) (dI := dI) (G0 := G0) (k := 2) (rs := [bo, ou]) (H0 := s.heap) (F := [(2, 0), (2, 1)]) (C := RX0) (T := TX0) (N := 2) rfl (by decide) hh_155.2.2.2.2.1 (hd_156))
                  clear hh_155
                  try simp only at hr_140
                  obtain ⟨hr_140_0, hr_140_1, hr_140_2, hr_140_3, hr_140_4⟩ := hr_140
                  have hh_158 := hh_157.wk (zc1 := (m_qa_139 - n_pa) / 16 + 11) (zs1 := 2 * (m_qa_139 - n_pa) + 267) (by omega) (by omega)
                  clear hh_157
                  try clear hsz_139 htt_139 hrc_139 hrs_139
                  try clear hb_1394 hb_1395
                  refine lv_null hx hb dX11_understood_177 ?_
                  have hsz_159 := hh_158.2.2.2.2.2.1
                  have htt_159 := hh_158.2.2.2.2.2.2.1
                  refine W.room (fun hrc_159 hrs_159 => ?_)
                  refine W.widen (k := LC - s.heap.size) (n := LS - jTot s.heap) (by omega) (by omega) ?_
                  rw [hQ]
                  exact W.aret (v := .null) hx hb hr (Or.inl ⟨_, rfl⟩) (Or.inl rfl) (fun t ht hW => ⟨⟨.null, (qc_139, qv_2, qu_2, qa_139, m_qa_139, gk_2, gi_2, gz_2, gn_2, ga_2, gs_2, gu_2, none, T18, 0, G_139), rfl, ⟨Or.inl rfl, by skip; (try dsimp only); refine ⟨by omega, by omega, by omega, by omega, by assumption, by omega, by omega, by omega, hr_3p_2, Or.inl rfl, rfl, ?_⟩; exact Or.inl ⟨rfl, Or.inr ⟨hX18, hgd9⟩⟩⟩, ⟨hh_158.ra (by first | (simp only; omega) | omega) (by first | (simp only; omega) | omega) (M1 := [(bo, 2, 1, .int qc_139), (js, 6, 7, .int qv_2), (js, 6, 8, .int qu_2), (bo, 2, 0, .ref qa_139)]) [0, 3, 4, 1] rfl ht, hgq_139_0, hNn_139, by rw [ht]; exact hh_158.iv 0 rfl, by rw [ht]; exact hh_158.2.2.2.2.2.2.2.2.sub (L1 := [(jFy, jYb dC dI G_139)]) [1] rfl, by rw [ht]; exact hh_158.2.2.2.2.2.2.2.1.sub [0, 1, 2, 3, 4, 5, 6] rfl, by rw [ht]; exact fun x h9 => by cases h9⟩⟩, by rw [ht]; try exact hh_158.1.1, fun q h9 hq => by rw [ht]; try exact hh_158.1.2.1 q h9 hq⟩) hh_158.1.2.2 dX11_understood_178
              · refine j7_read hx hb hown hK (C := RX8) (T := TX8) (N := 5) rfl hly_10_0 hlk_114 (hh_136.at 0 rfl) dX11_understood_151 ?_
                refine lv_ifnull hx hb dX11_understood_154 ?_
                have hgd9 : jdGd T18 qv_2.toInt = 1 := jdGd.y hk0 hr_78_3 hr_105_3 hr_76_3 hid9 (by rw [← hr_80p_1]; omega) (by rw [← hr_107_1]; omega) (Or.inl (by omega)) (Or.inr (jRi.y (hh_136.iv 0 rfl) (hh_136.at 0 rfl)))
                refine lv_iconst (v := 1) hx hb dX11_understood_157 (by decide) ?_
                refine lv_goto (tgt := 162) hx hb dX11_understood_158 (by decide) ?_
                refine lv_istore (lv' := [(5, .int 1), (4, .int r_76), (3, .ref H_49.size), (2, .int r_50), (1, .int r_3), (0, .ref r0)]) hx hb dX11_understood_162 hl (by decide) rfl (fun ls hl => ?_)
                refine lv_iload hx hb dX11_understood_164 (lv_at hl 0 rfl) ?_
                refine lv_if_ne (tgt := 179) hx hb dX11_understood_166 (by decide) (fun c_160 => ?_) (fun c_160 => ?_)
                · skip
                  refine lv_aload_n hx hb dX11_understood_179 rfl (lv_at hl 2 rfl) ?_
                  have hsz_161 := hh_136.2.2.2.2.2.1
                  have htt_161 := hh_136.2.2.2.2.2.2.1
                  refine W.room (fun hrc_161 hrs_161 => ?_)
                  refine W.widen (k := LC - s.heap.size) (n := LS - jTot s.heap) (by omega) (by omega) ?_
                  rw [hQ]
                  exact W.aret (v := .ref H_49.size) hx hb hr (Or.inl ⟨_, rfl⟩) (Or.inr ⟨_, rfl⟩) (fun t ht hW => ⟨⟨.ref H_49.size, (pc, qv_2, qu_2, pa, n_pa, gk_2, gi_2, gz_2, gn_2, ga_2, gs_2, gu_2, (some H_49.size), T18, 0, G_52), rfl, ⟨Or.inr ⟨⟨_, rfl, hgc_52⟩, ⟨_, rfl, hsy_51⟩⟩, by skip; (try dsimp only); refine ⟨by omega, by omega, by omega, by omega, by assumption, by omega, by omega, by omega, hr_3p_2, Or.inr (jUd.of (j := r_78.toInt) (by omega) (by omega) (by omega) (by omega) (by omega) (by omega)), rfl, ?_⟩; exact Or.inr ⟨(fun q => by cases q), hX18, hgd9, hTb18, hco18⟩⟩, ⟨hh_136.ra (by first | (simp only; omega) | omega) (by first | (simp only; omega) | omega) (M1 := [(bo, 2, 1, .int pc), (js, 6, 7, .int qv_2), (js, 6, 8, .int qu_2), (bo, 2, 0, .ref pa)]) [1, 3, 4, 2] rfl ht, hg_69, hNn_52, by rw [ht]; exact hh_136.iv 1 rfl, by rw [ht]; exact hh_136.2.2.2.2.2.2.2.2.sub (L1 := [(jFy, jYb dC dI G_52)]) [2] rfl, by rw [ht]; exact hh_136.2.2.2.2.2.2.2.1.sub [0, 1, 2, 3, 4, 5, 6] rfl, by rw [ht]; exact fun x h9 => by cases h9; exact jRi.to (hh_136.iv 0 rfl) ⟨fun _ => by show (0 : Int) ≤ jdId T18 qv_2.toInt; have e9 : r_50.toInt = jdId T18 qv_2.toInt := (by have h9 := hid9; rw [hk0] at h9; exact h9); omega, fun _ => jRi.y (hh_136.iv 0 rfl) (hh_136.at 0 rfl)⟩⟩⟩, by rw [ht]; try exact hh_136.1.1, fun q h9 hq => by rw [ht]; try exact hh_136.1.2.1 q h9 hq⟩) hh_136.1.2.2 dX11_understood_180
                · skip
                  exact absurd c_160 (by decide)
          · skip
            have c_131' : r_76.toInt ≥ 0 := jb_lt_n (rfl) ((by decide)) c_131
            first | (have hr_50_2q := hr_50_2.resolve_left (by omega); clear hr_50_2) | (have hr_50_2q := hr_50_2.resolve_right (by omega); clear hr_50_2) | skip
            first | (have hr_76_2q := hr_76_2.resolve_left (by omega); clear hr_76_2) | (have hr_76_2q := hr_76_2.resolve_right (by omega); clear hr_76_2) | skip
            refine lv_aload_n hx hb dX11_understood_133 rfl (lv_at hl 4 rfl) ?_
            refine j7_read hx hb hown hK (C := RX11) (T := TX11) (N := 19) rfl hly_13_2 hlk_28 (hh_106.at 8 rfl) dX11_understood_134 ?_
            refine lv_iload hx hb dX11_understood_137 (lv_at hl 0 rfl) ?_
            have hsz_162 := hh_106.2.2.2.2.2.1
            have htt_162 := hh_106.2.2.2.2.2.2.1
            refine W.room (fun hrc_162 hrs_162 => ?_)
            refine va_calli (A0 := jA base) (H0 := s.heap) (va_runV (As := [.int r_76]) (rest := []) ⟨hx, hb, hml, hown, hts⟩ (uX4_kindOfJ l dC dI ca base B hB hAp hB6 hB140 G_52 H_106 js r_76 qv_2 qu_2 wk wi wz jnx jkf jks jun T18 gk_2 gi_2 gz_2 gn_2 ga_2 gs_2 gu_2) (cwV 1 hts (jgV (jWr_27 _ (List.mem_of_getElem? (i := 5) rfl)) (jWr_23 _ (List.mem_of_getElem? (i := 15) rfl)) (jWr_23 _ (List.mem_of_getElem? (i := 16) rfl)) (jWr_1 _ (List.mem_of_getElem? (i := 22) rfl)) (jWr_23 _ (List.mem_of_getElem? (i := 17) rfl))) rfl rfl rfl (by decide +kernel) ⟨by rw [← hR]; exact Nat.le_of_ble_eq_true rfl, by rw [← hR]; exact Nat.le_of_ble_eq_true rfl⟩) ⟨fun a U g mk q => by obtain ⟨q0, q1, q2, qK, q10, q11, q12, q13, q14, q15, q16, q17, q18, q19, q20⟩ := q; exact ⟨q0, q1, q2, jG.calling g mk a qK, q10, q11, q12, q13, q14, q15, q16, q17, q18, q19, q20⟩, hh_106.recv (C := RX4) (T := TX4) (N := 12) hB6 rfl (by decide) hg_58 hK, fun U hU hW => ⟨rfl, hU, hh_106.2.1, hG.step hW hU hh_106.1, hg_58, hg_59, hg_60, hg_61, hg_62, hg_63, hg_64, hg_65, (hh_106.2.2.1.sub (L1 := [(js, 6, 7, .int qv_2), (js, 6, 8, .int qu_2), (js, 6, 0, .ref wk), (js, 6, 1, .ref wi), (js, 6, 2, .ref wz), (js, 6, 3, .ref jnx), (js, 6, 4, .ref jkf), (js, 6, 5, .ref jks), (js, 6, 6, .ref jun)]) [2, 3, 9, 10, 11, 12, 13, 14, 15] rfl), (hh_106.2.2.2.2.2.2.2.1.sub (L1 := [(wk, 140, 1502, ca 1, gk_2), (wi, 141, 1502, ca 1, gi_2), (wz, 142, 1502, ca 1, gz_2), (jnx, 143, 1502, ca 1, gn_2), (jkf, 144, 1502, ca 1, ga_2), (jks, 145, 1502, ca 1, gs_2), (jun, 146, 3000, ca 1, gu_2)]) [0, 1, 2, 3, 4, 5, 6] rfl), ⟨(by first | omega | rfl | assumption | exact hTb18 | exact hqR18 | exact hco18), (by first | omega | rfl | assumption | exact hTb18 | exact hqR18 | exact hco18), (by first | omega | rfl | assumption | exact hTb18 | exact hqR18 | exact hco18), (by first | omega | rfl | assumption | exact hTb18 | exact hqR18 | exact hco18), (by first | assumption | exact hTb18 | exact hqR18 | exact hco18 | omega)⟩⟩⟩ rfl rfl hl.1 rfl (lv_room (Nat.le_of_ble_eq_true rfl)) dX11_understood_139 ⟨by rw [hRc]; show _ + 0 ≤ _; omega, by rw [hRs]; show _ + 0 ≤ _; omega⟩) hh_106.1 (fun q _ h => h) (fun q h => h) (fun r_163 u_162 t_162 H_162 locs_162 ht_162 hvm_162 hr_163 hb_162 hz_162 hk_162 hS_162 => ?_)
            rw [ht_162] at hb_162
            obtain ⟨hb_162, hbF_162⟩ := hb_162
            obtain ⟨hb_1621, hb_1622, hb_1623, hb_1624, hb_1625⟩ := hb_162
            have hh_162 : jSt (dC, dI) B base G0 G_52 EX11_understoodU s.heap ((n_pa - n_pa) / 16 + 11) (2 * (n_pa - n_pa) + 267) [(bo, 2, 1, .int pc), (bo, 2, 0, .ref pa), (js, 6, 7, .int qv_2), (js, 6, 8, .int qu_2), (r0, 13, 4, .ref bo), (r0, 13, 3, .ref ou), (r0, 13, 1, .ref fm), (fm, 4, 1, .int fl), (r0, 13, 2, .ref js), (js, 6, 0, .ref wk), (js, 6, 1, .ref wi), (js, 6, 2, .ref wz), (js, 6, 3, .ref jnx), (js, 6, 4, .ref jkf), (js, 6, 5, .ref jks), (js, 6, 6, .ref jun), (fm, 4, 0, .ref bd_)] [(wk, 140, 1502, ca 1, gk_2), (wi, 141, 1502, ca 1, gi_2), (wz, 142, 1502, ca 1, gz_2), (jnx, 143, 1502, ca 1, gn_2), (jkf, 144, 1502, ca 1, ga_2), (jks, 145, 1502, ca 1, gs_2), (jun, 146, 3000, ca 1, gu_2), (bd_, 100, 3000, ca 0, fb)] [([(10, 0)], jRi dC dI G_52 H_49.size (jqK T18 qv_2.toInt r_50.toInt = 4 ∨ (jqK T18 qv_2.toInt r_50.toInt = 3 ∧ jqZ T18 qv_2.toInt r_50.toInt ≤ 20))), ([(2, 0), (2, 1)], jOl (dC, dI) G0 2 [bo, ou] s.heap), (jFy, jYb dC dI G_52)] H_162 locs_162 := ((hh_106.call hb_1621 hb_1622 hb_1623 hb_1624 hS_162 rfl (L1 := [(bo, 2, 1, .int pc), (bo, 2, 0, .ref pa), (js, 6, 7, .int qv_2), (js, 6, 8, .int qu_2), (r0, 13, 4, .ref bo), (r0, 13, 3, .ref ou), (r0, 13, 1, .ref fm), (fm, 4, 1, .int fl), (r0, 13, 2, .ref js), (js, 6, 0, .ref wk), (js, 6, 1, .ref wi), (js, 6, 2, .ref wz), (js, 6, 3, .ref jnx), (js, 6, 4, .ref jkf), (js, 6, 5, .ref jks), (js, 6, 6, .ref jun), (fm, 4, 0, .ref bd_)]) [0, 1, 2, 3, 4, 5, 6, 7, 8, 9, 10, 11, 12, 13, 14, 15, 16] rfl rfl (M1 := [(wk, 140, 1502, ca 1, gk_2), (wi, 141, 1502, ca 1, gi_2), (wz, 142, 1502, ca 1, gz_2), (jnx, 143, 1502, ca 1, gn_2), (jkf, 144, 1502, ca 1, ga_2), (jks, 145, 1502, ca 1, gs_2), (jun, 146, 3000, ca 1, gu_2), (bd_, 100, 3000, ca 0, fb)]) [0, 1, 2, 3, 4, 5, 6, 7] rfl rfl (I1 := [([(10, 0)], jRi dC dI G_52 H_49.size (jqK T18 qv_2.toInt r_50.toInt = 4 ∨ (jqK T18 qv_2.toInt r_50.toInt = 3 ∧ jqZ T18 qv_2.toInt r_50.toInt ≤ 20))), ([(2, 0), (2, 1)], jOl (dC, dI) G0 2 [bo, ou] s.heap), (jFy, jYb dC dI G_52)]) [0, 1, 2] rfl rfl).more hb_1625)
            clear hh_106 ht_162 hvm_162 hz_162 hk_162 hS_162 hb_1621 hb_1622 hb_1623 hb_1624 hb_1625
            obtain ⟨hr_163_0, hr_163_1⟩ := hr_163
            refine lv_iconst (v := 1) hx hb dX11_understood_142 (by decide) ?_
            refine lv_icmp_ne (tgt := 161) hx hb dX11_understood_143 (by decide) (fun c_164 => ?_) (fun c_164 => ?_)
            · skip
              have c_164' : r_163.toInt ≠ 1 := jb_ne (rfl) ((by decide)) c_164
              try clear hr_163_0
              have hgd9 : jdGd T18 qv_2.toInt ≠ 1 := jdGd.n hk0 hr_78_3 (fun _ => hr_105_3) hr_76_3 hid9 (Or.inr ⟨by rw [← hr_80p_1]; omega, Or.inr (Or.inl ⟨by omega, by rw [← hr_163_1]; omega⟩)⟩)
              refine lv_iconst (v := 0) hx hb dX11_understood_161 (by decide) ?_
              refine lv_istore (lv' := [(5, .int 0), (4, .int r_76), (3, .ref H_49.size), (2, .int r_50), (1, .int r_3), (0, .ref r0)]) hx hb dX11_understood_162 hl (by decide) rfl (fun ls hl => ?_)
              refine lv_iload hx hb dX11_understood_164 (lv_at hl 0 rfl) ?_
              refine lv_if_ne (tgt := 179) hx hb dX11_understood_166 (by decide) (fun c_165 => ?_) (fun c_165 => ?_)
              · skip
                exact absurd c_165 (by decide)
              · skip
                first | (have hr_50_2q := hr_50_2.resolve_left (by omega); clear hr_50_2) | (have hr_50_2q := hr_50_2.resolve_right (by omega); clear hr_50_2) | skip
                first | (have hr_76_2q := hr_76_2.resolve_left (by omega); clear hr_76_2) | (have hr_76_2q := hr_76_2.resolve_right (by omega); clear hr_76_2) | skip
                refine lv_aload_n hx hb dX11_understood_169 rfl (lv_at hl 5 rfl) ?_
                refine lv_aload_n hx hb dX11_understood_170 rfl (lv_at hl 2 rfl) ?_
                refine lv_sipush (v := (-32600)) hx hb dX11_understood_171 (by decide) ?_
                have hsz_166 := hh_162.2.2.2.2.2.1
                have htt_166 := hh_162.2.2.2.2.2.2.1
                refine W.room (fun hrc_166 hrs_166 => ?_)
                refine va_callv (A0 := jA base) (H0 := s.heap) (va_runV (As := [.ref H_49.size, .int (-32600)]) (rest := []) ⟨hx, hb, hml, hown, hts⟩ (uX11_refuse l dC dI ca base B hB hAp hB2 hB4 hB10 hB13 hB196 G_52 H_162 r0 H_49.size (-32600) bo pc pa n_pa ou LC LS) (cwV 2 hts (jgV (jWr_26 _ (List.mem_of_getElem? (i := 3) rfl)) (jWr_26 _ (List.mem_of_getElem? (i := 4) rfl)) (jWr_26 _ (List.mem_of_getElem? (i := 5) rfl)) (jWr_1 _ (List.mem_of_getElem? (i := 2) rfl)) (jWr_26 _ (List.mem_of_getElem? (i := 6) rfl))) rfl rfl rfl (by decide +kernel) ⟨by rw [← hR]; exact Nat.le_of_ble_eq_true rfl, by rw [← hR]; exact Nat.le_of_ble_eq_true rfl⟩) ⟨fun a U g mk q => by obtain ⟨q0, q1, q2, qK, q10, q11, q12, q13, q14, q15, q16, q17⟩ := q; exact ⟨q0, q1, q2, jG.calling g mk a qK, q10, q11, q12, q13, q14, q15, q16, q17⟩, hh_162.recv (C := RX11) (T := TX11) (N := 19) hB13 rfl (by decide) hg_54 hK, fun U hU hW => ⟨rfl, hU, hh_162.2.1, hG.step hW hU hh_162.1, hgc_52, hg_54, hg_55, hg_69, hg_56, (hh_162.2.2.1.sub (L1 := [(r0, 13, 4, .ref bo), (bo, 2, 1, .int pc), (bo, 2, 0, .ref pa), (r0, 13, 3, .ref ou)]) [4, 0, 1, 5] rfl), (hh_162.2.2.2.2.2.2.2.2.sub (L1 := [(jFy, jYb dC dI G_52)]) [2] rfl), (by omega), (by omega), ⟨(by first | omega | rfl | assumption | fail), (by first | omega | rfl | assumption | fail), (by first | omega | rfl | assumption | fail), (by first | omega | rfl | assumption | fail), (by first | assumption | fail | omega)⟩⟩⟩ rfl rfl hl.1 rfl (lv_room (Nat.le_of_ble_eq_true rfl)) dX11_understood_174 ⟨by rw [hRc]; omega, by rw [hRs]; omega⟩) hh_162.1 (fun q _ h => h) (fun q h => h) (fun u_166 t_166 H_166 locs_166 ht_166 hvm_166 hr_167 hb_166 hz_166 hk_166 hS_166 => ?_)
                obtain ⟨qc_166, qa_166, m_qa_166, G_166⟩ := u_166
                rw [ht_166] at hb_166
                simp only at hb_166
                obtain ⟨⟨hb_1661, hb_1662, hb_1663, hb_1664, hb_1665, hb_1666⟩, hgq_166_0, hN_166, hbO_166, hbE_166⟩ := hb_166
                have hY_166 := hN_166
                have hN_166 : (jNk [0, 1, 3, 4, 5, 6, 7, 8, 9, 11, 12, 13, 14, 15, 16]) G_52 G_166 := hN_166.sub (by decide)
                have hh_166 : jSt (dC, dI) B base G0 G_166 EX11_understoodU s.heap (((n_pa - n_pa) / 16 + 11) + ((m_qa_166 - n_pa) / 16)) ((2 * (n_pa - n_pa) + 267) + (2 * (m_qa_166 - n_pa))) [(bo, 2, 1, .int qc_166), (bo, 2, 0, .ref qa_166), (js, 6, 7, .int qv_2), (js, 6, 8, .int qu_2), (r0, 13, 4, .ref bo), (r0, 13, 3, .ref ou), (r0, 13, 1, .ref fm), (fm, 4, 1, .int fl), (r0, 13, 2, .ref js), (js, 6, 0, .ref wk), (js, 6, 1, .ref wi), (js, 6, 2, .ref wz), (js, 6, 3, .ref jnx), (js, 6, 4, .ref jkf), (js, 6, 5, .ref jks), (js, 6, 6, .ref jun), (fm, 4, 0, .ref bd_)] [(wk, 140, 1502, ca 1, gk_2), (wi, 141, 1502, ca 1, gi_2), (wz, 142, 1502, ca 1, gz_2), (jnx, 143, 1502, ca 1, gn_2), (jkf, 144, 1502, ca 1, ga_2), (jks, 145, 1502, ca 1, gs_2), (jun, 146, 3000, ca 1, gu_2), (bd_, 100, 3000, ca 0, fb)] [([(10, 0)], jRi dC dI G_52 H_49.size (jqK T18 qv_2.toInt r_50.toInt = 4 ∨ (jqK T18 qv_2.toInt r_50.toInt = 3 ∧ jqZ T18 qv_2.toInt r_50.toInt ≤ 20)))] H_166 locs_166 := (hh_162.callG hb_1661 hb_1662 hb_1663 hb_1664 hb_1665 hS_166 rfl (L1 := [(js, 6, 7, .int qv_2), (js, 6, 8, .int qu_2), (r0, 13, 4, .ref bo), (r0, 13, 3, .ref ou), (r0, 13, 1, .ref fm), (fm, 4, 1, .int fl), (r0, 13, 2, .ref js), (js, 6, 0, .ref wk), (js, 6, 1, .ref wi), (js, 6, 2, .ref wz), (js, 6, 3, .ref jnx), (js, 6, 4, .ref jkf), (js, 6, 5, .ref jks), (js, 6, 6, .ref jun), (fm, 4, 0, .ref bd_)]) [2, 3, 4, 5, 6, 7, 8, 9, 10, 11, 12, 13, 14, 15, 16] rfl rfl (M1 := [(wk, 140, 1502, ca 1, gk_2), (wi, 141, 1502, ca 1, gi_2), (wz, 142, 1502, ca 1, gz_2), (jnx, 143, 1502, ca 1, gn_2), (jkf, 144, 1502, ca 1, ga_2), (jks, 145, 1502, ca 1, gs_2), (jun, 146, 3000, ca 1, gu_2), (bd_, 100, 3000, ca 0, fb)]) [0, 1, 2, 3, 4, 5, 6, 7] rfl rfl (I1 := [([(10, 0)], jRi dC dI G_52 H_49.size (jqK T18 qv_2.toInt r_50.toInt = 4 ∨ (jqK T18 qv_2.toInt r_50.toInt = 3 ∧ jqZ T18 qv_2.toInt r_50.toInt ≤ 20)))]) [0] rfl rfl).more hb_1666
                have hNn_166 : (jNk [0, 1, 3, 4, 5, 6, 7, 8, 9, 11, 12, 13, 14, 15, 16]) G0 G_166 := (hNn_52).tr hN_166
                have hg_168 := hb_1662 _ _ hgc_52
                have hg_169 := hb_1662 _ _ hg_54
                have hg_170 := hb_1662 _ _ hg_55
                have hg_171 := hb_1662 _ _ hg_56
                have hg_172 := hb_1662 _ _ hg_57
                have hg_173 := hb_1662 _ _ hg_58
                have hg_174 := hb_1662 _ _ hg_59
                have hg_175 := hb_1662 _ _ hg_60
                have hg_176 := hb_1662 _ _ hg_61
                have hg_177 := hb_1662 _ _ hg_62
                have hg_178 := hb_1662 _ _ hg_63
                have hg_179 := hb_1662 _ _ hg_64
                have hg_180 := hb_1662 _ _ hg_65
                have hg_181 := hb_1662 _ _ hg_66
                have hh_182 := hh_166.addIs hbE_166
                have hd_183 := jOl.trL (hh_162.iv 1 rfl) hh_162.2.2.2.2.1 hbO_166 (by simp)
                have hh_184 := hh_182.addI (jOl.ie (dC := dC) (dI := dI) (G0 := G0) (k := 2) (rs := [bo, ou]) (H0 := s.heap) (F := [(2, 0), (2, 1)]) (C := RX0) (T := TX0) (N := 2) rfl (by decide) hh_182.2.2.2.2.1 (hd_183))
                clear hh_182
                try simp only at hr_167
                obtain ⟨hr_167_0, hr_167_1, hr_167_2, hr_167_3, hr_167_4⟩ := hr_167
                have hh_185 := hh_184.wk (zc1 := (m_qa_166 - n_pa) / 16 + 11) (zs1 := 2 * (m_qa_166 - n_pa) + 267) (by omega) (by omega)
                clear hh_184
                try clear hsz_166 htt_166 hrc_166 hrs_166
                try clear hb_1664 hb_1665
                refine lv_null hx hb dX11_understood_177 ?_
                have hsz_186 := hh_185.2.2.2.2.2.1
                have htt_186 := hh_185.2.2.2.2.2.2.1
                refine W.room (fun hrc_186 hrs_186 => ?_)
                refine W.widen (k := LC - s.heap.size) (n := LS - jTot s.heap) (by omega) (by omega) ?_
                rw [hQ]
                exact W.aret (v := .null) hx hb hr (Or.inl ⟨_, rfl⟩) (Or.inl rfl) (fun t ht hW => ⟨⟨.null, (qc_166, qv_2, qu_2, qa_166, m_qa_166, gk_2, gi_2, gz_2, gn_2, ga_2, gs_2, gu_2, none, T18, 0, G_166), rfl, ⟨Or.inl rfl, by skip; (try dsimp only); refine ⟨by omega, by omega, by omega, by omega, by assumption, by omega, by omega, by omega, hr_3p_2, Or.inl rfl, rfl, ?_⟩; exact Or.inl ⟨rfl, Or.inr ⟨hX18, hgd9⟩⟩⟩, ⟨hh_185.ra (by first | (simp only; omega) | omega) (by first | (simp only; omega) | omega) (M1 := [(bo, 2, 1, .int qc_166), (js, 6, 7, .int qv_2), (js, 6, 8, .int qu_2), (bo, 2, 0, .ref qa_166)]) [0, 2, 3, 1] rfl ht, hgq_166_0, hNn_166, by rw [ht]; exact hh_185.iv 0 rfl, by rw [ht]; exact hh_185.2.2.2.2.2.2.2.2.sub (L1 := [(jFy, jYb dC dI G_166)]) [1] rfl, by rw [ht]; exact hh_185.2.2.2.2.2.2.2.1.sub [0, 1, 2, 3, 4, 5, 6] rfl, by rw [ht]; exact fun x h9 => by cases h9⟩⟩, by rw [ht]; try exact hh_185.1.1, fun q h9 hq => by rw [ht]; try exact hh_185.1.2.1 q h9 hq⟩) hh_185.1.2.2 dX11_understood_178
            · skip
              have c_164' : r_163.toInt = 1 := jb_ne_n (rfl) ((by decide)) c_164
              first | (have hr_76_2q := hr_76_2.resolve_left (by omega); clear hr_76_2) | (have hr_76_2q := hr_76_2.resolve_right (by omega); clear hr_76_2) | skip
              first | (have hr_163_0q := hr_163_0.resolve_left (by omega); clear hr_163_0) | (have hr_163_0q := hr_163_0.resolve_right (by omega); clear hr_163_0) | try clear hr_163_0
              refine lv_iload_n hx hb dX11_understood_146 rfl (lv_at hl 2 rfl) ?_
              refine lv_if_lt (tgt := 157) hx hb dX11_understood_147 (by decide) (fun c_187 => ?_) (fun c_187 => ?_)
              · skip
                have c_187' : r_50.toInt < 0 := jb_lt (rfl) ((by decide)) c_187
                first | (have hr_50_2q := hr_50_2.resolve_left (by omega); clear hr_50_2) | (have hr_50_2q := hr_50_2.resolve_right (by omega); clear hr_50_2) | skip
                first | (have hr_76_2q := hr_76_2.resolve_left (by omega); clear hr_76_2) | (have hr_76_2q := hr_76_2.resolve_right (by omega); clear hr_76_2) | skip
                have hgd9 : jdGd T18 qv_2.toInt = 1 := jdGd.y hk0 hr_78_3 hr_105_3 hr_76_3 hid9 (by rw [← hr_80p_1]; omega) (by rw [← hr_107_1]; omega) (Or.inr (by rw [← hr_163_1]; omega)) (Or.inl (by omega))
                refine lv_iconst (v := 1) hx hb dX11_understood_157 (by decide) ?_
                refine lv_goto (tgt := 162) hx hb dX11_understood_158 (by decide) ?_
                refine lv_istore (lv' := [(5, .int 1), (4, .int r_76), (3, .ref H_49.size), (2, .int r_50), (1, .int r_3), (0, .ref r0)]) hx hb dX11_understood_162 hl (by decide) rfl (fun ls hl => ?_)
                refine lv_iload hx hb dX11_understood_164 (lv_at hl 0 rfl) ?_
                refine lv_if_ne (tgt := 179) hx hb dX11_understood_166 (by decide) (fun c_188 => ?_) (fun c_188 => ?_)
                · skip
                  refine lv_aload_n hx hb dX11_understood_179 rfl (lv_at hl 2 rfl) ?_
                  have hsz_189 := hh_162.2.2.2.2.2.1
                  have htt_189 := hh_162.2.2.2.2.2.2.1
                  refine W.room (fun hrc_189 hrs_189 => ?_)
                  refine W.widen (k := LC - s.heap.size) (n := LS - jTot s.heap) (by omega) (by omega) ?_
                  rw [hQ]
                  exact W.aret (v := .ref H_49.size) hx hb hr (Or.inl ⟨_, rfl⟩) (Or.inr ⟨_, rfl⟩) (fun t ht hW => ⟨⟨.ref H_49.size, (pc, qv_2, qu_2, pa, n_pa, gk_2, gi_2, gz_2, gn_2, ga_2, gs_2, gu_2, (some H_49.size), T18, 0, G_52), rfl, ⟨Or.inr ⟨⟨_, rfl, hgc_52⟩, ⟨_, rfl, hsy_51⟩⟩, by skip; (try dsimp only); refine ⟨by omega, by omega, by omega, by omega, by assumption, by omega, by omega, by omega, hr_3p_2, Or.inr (jUd.of (j := r_78.toInt) (by omega) (by omega) (by omega) (by omega) (by omega) (by omega)), rfl, ?_⟩; exact Or.inr ⟨(fun q => by cases q), hX18, hgd9, hTb18, hco18⟩⟩, ⟨hh_162.ra (by first | (simp only; omega) | omega) (by first | (simp only; omega) | omega) (M1 := [(bo, 2, 1, .int pc), (js, 6, 7, .int qv_2), (js, 6, 8, .int qu_2), (bo, 2, 0, .ref pa)]) [0, 2, 3, 1] rfl ht, hg_69, hNn_52, by rw [ht]; exact hh_162.iv 1 rfl, by rw [ht]; exact hh_162.2.2.2.2.2.2.2.2.sub (L1 := [(jFy, jYb dC dI G_52)]) [2] rfl, by rw [ht]; exact hh_162.2.2.2.2.2.2.2.1.sub [0, 1, 2, 3, 4, 5, 6] rfl, by rw [ht]; exact fun x h9 => by cases h9; exact jRi.to (hh_162.iv 0 rfl) ⟨fun q => by have e9 := jqK.ng (T := T18) (v := qv_2.toInt) (a := r_50.toInt) (by omega); omega, fun q => by have q : (0 : Int) ≤ jdId T18 qv_2.toInt := q; have e9 : r_50.toInt = jdId T18 qv_2.toInt := (by have h9 := hid9; rw [hk0] at h9; exact h9); omega⟩⟩⟩, by rw [ht]; try exact hh_162.1.1, fun q h9 hq => by rw [ht]; try exact hh_162.1.2.1 q h9 hq⟩) hh_162.1.2.2 dX11_understood_180
                · skip
                  exact absurd c_188 (by decide)
              · skip
                have c_187' : r_50.toInt ≥ 0 := jb_lt_n (rfl) ((by decide)) c_187
                first | (have hr_50_2q := hr_50_2.resolve_left (by omega); clear hr_50_2) | (have hr_50_2q := hr_50_2.resolve_right (by omega); clear hr_50_2) | skip
                first | (have hr_76_2q := hr_76_2.resolve_left (by omega); clear hr_76_2) | (have hr_76_2q := hr_76_2.resolve_right (by omega); clear hr_76_2) | skip
                refine lv_aload_n hx hb dX11_understood_150 rfl (lv_at hl 1 rfl) ?_
                obtain ⟨v_190, hv_190, hh_191⟩ := hh_162.pin (C := RX8) (T := TX8) (N := 5) hB10 rfl (by decide) hgc_52 (i := 0) (by decide) rfl
                clear hh_162
                rcases hv_190 with rfl | ⟨id_192, rfl, hg_id_192⟩
                · refine j7_read hx hb hown hK (C := RX8) (T := TX8) (N := 5) rfl hly_10_0 hlk_114 (hh_191.at 0 rfl) dX11_understood_151 ?_
                  refine lv_ifnullN (tgt := 161) hx hb dX11_understood_154 (by decide) ?_
                  have hgd9 : jdGd T18 qv_2.toInt ≠ 1 := jdGd.n hk0 hr_78_3 (fun _ => hr_105_3) hr_76_3 hid9 (Or.inr ⟨by rw [← hr_80p_1]; omega, Or.inr (Or.inr ⟨by omega, jRi.n (hh_191.iv 0 rfl) (hh_191.at 0 rfl)⟩)⟩)
                  refine lv_iconst (v := 0) hx hb dX11_understood_161 (by decide) ?_
                  refine lv_istore (lv' := [(5, .int 0), (4, .int r_76), (3, .ref H_49.size), (2, .int r_50), (1, .int r_3), (0, .ref r0)]) hx hb dX11_understood_162 hl (by decide) rfl (fun ls hl => ?_)
                  refine lv_iload hx hb dX11_understood_164 (lv_at hl 0 rfl) ?_
                  refine lv_if_ne (tgt := 179) hx hb dX11_understood_166 (by decide) (fun c_193 => ?_) (fun c_193 => ?_)
                  · skip
                    exact absurd c_193 (by decide)
                  · skip
                    first | (have hr_50_2q := hr_50_2.resolve_left (by omega); clear hr_50_2) | (have hr_50_2q := hr_50_2.resolve_right (by omega); clear hr_50_2) | skip
                    first | (have hr_76_2q := hr_76_2.resolve_left (by omega); clear hr_76_2) | (have hr_76_2q := hr_76_2.resolve_right (by omega); clear hr_76_2) | skip
                    refine lv_aload_n hx hb dX11_understood_169 rfl (lv_at hl 5 rfl) ?_
                    refine lv_aload_n hx hb dX11_understood_170 rfl (lv_at hl 2 rfl) ?_
                    refine lv_sipush (v := (-32600)) hx hb dX11_understood_171 (by decide) ?_
                    have hsz_194 := hh_191.2.2.2.2.2.1
                    have htt_194 := hh_191.2.2.2.2.2.2.1
                    refine W.room (fun hrc_194 hrs_194 => ?_)
                    refine va_callv (A0 := jA base) (H0 := s.heap) (va_runV (As := [.ref H_49.size, .int (-32600)]) (rest := []) ⟨hx, hb, hml, hown, hts⟩ (uX11_refuse l dC dI ca base B hB hAp hB2 hB4 hB10 hB13 hB196 G_52 H_162 r0 H_49.size (-32600) bo pc pa n_pa ou LC LS) (cwV 2 hts (jgV (jWr_26 _ (List.mem_of_getElem? (i := 3) rfl)) (jWr_26 _ (List.mem_of_getElem? (i := 4) rfl)) (jWr_26 _ (List.mem_of_getElem? (i := 5) rfl)) (jWr_1 _ (List.mem_of_getElem? (i := 2) rfl)) (jWr_26 _ (List.mem_of_getElem? (i := 6) rfl))) rfl rfl rfl (by decide +kernel) ⟨by rw [← hR]; exact Nat.le_of_ble_eq_true rfl, by rw [← hR]; exact Nat.le_of_ble_eq_true rfl⟩) ⟨fun a U g mk q => by obtain ⟨q0, q1, q2, qK, q10, q11, q12, q13, q14, q15, q16, q17⟩ := q; exact ⟨q0, q1, q2, jG.calling g mk a qK, q10, q11, q12, q13, q14, q15, q16, q17⟩, hh_191.recv (C := RX11) (T := TX11) (N := 19) hB13 rfl (by decide) hg_54 hK, fun U hU hW => ⟨rfl, hU, hh_191.2.1, hG.step hW hU hh_191.1, hgc_52, hg_54, hg_55, hg_69, hg_56, (hh_191.2.2.1.sub (L1 := [(r0, 13, 4, .ref bo), (bo, 2, 1, .int pc), (bo, 2, 0, .ref pa), (r0, 13, 3, .ref ou)]) [5, 1, 2, 6] rfl), (hh_191.2.2.2.2.2.2.2.2.sub (L1 := [(jFy, jYb dC dI G_52)]) [2] rfl), (by omega), (by omega), ⟨(by first | omega | rfl | assumption | fail), (by first | omega | rfl | assumption | fail), (by first | omega | rfl | assumption | fail), (by first | omega | rfl | assumption | fail), (by first | assumption | fail | omega)⟩⟩⟩ rfl rfl hl.1 rfl (lv_room (Nat.le_of_ble_eq_true rfl)) dX11_understood_174 ⟨by rw [hRc]; omega, by rw [hRs]; omega⟩) hh_191.1 (fun q _ h => h) (fun q h => h) (fun u_194 t_194 H_194 locs_194 ht_194 hvm_194 hr_195 hb_194 hz_194 hk_194 hS_194 => ?_)
                    obtain ⟨qc_194, qa_194, m_qa_194, G_194⟩ := u_194
                    rw [ht_194] at hb_194
                    simp only at hb_194
                    obtain ⟨⟨hb_1941, hb_1942, hb_1943, hb_1944, hb_1945, hb_1946⟩, hgq_194_0, hN_194, hbO_194, hbE_194⟩ := hb_194
                    have hY_194 := hN_194
                    have hN_194 : (jNk [0, 1, 3, 4, 5, 6, 7, 8, 9, 11, 12, 13, 14, 15, 16]) G_52 G_194 := hN_194.sub (by decide)
                    have hh_194 : jSt (dC, dI) B base G0 G_194 EX11_understoodU s.heap (((n_pa - n_pa) / 16 + 11) + ((m_qa_194 - n_pa) / 16)) ((2 * (n_pa - n_pa) + 267) + (2 * (m_qa_194 - n_pa))) [(bo, 2, 1, .int qc_194), (bo, 2, 0, .ref qa_194), (H_49.size, 10, 0, .null), (js, 6, 7, .int qv_2), (js, 6, 8, .int qu_2), (r0, 13, 4, .ref bo), (r0, 13, 3, .ref ou), (r0, 13, 1, .ref fm), (fm, 4, 1, .int fl), (r0, 13, 2, .ref js), (js, 6, 0, .ref wk), (js, 6, 1, .ref wi), (js, 6, 2, .ref wz), (js, 6, 3, .ref jnx), (js, 6, 4, .ref jkf), (js, 6, 5, .ref jks), (js, 6, 6, .ref jun), (fm, 4, 0, .ref bd_)] [(wk, 140, 1502, ca 1, gk_2), (wi, 141, 1502, ca 1, gi_2), (wz, 142, 1502, ca 1, gz_2), (jnx, 143, 1502, ca 1, gn_2), (jkf, 144, 1502, ca 1, ga_2), (jks, 145, 1502, ca 1, gs_2), (jun, 146, 3000, ca 1, gu_2), (bd_, 100, 3000, ca 0, fb)] [([(10, 0)], jRi dC dI G_52 H_49.size (jqK T18 qv_2.toInt r_50.toInt = 4 ∨ (jqK T18 qv_2.toInt r_50.toInt = 3 ∧ jqZ T18 qv_2.toInt r_50.toInt ≤ 20)))] H_194 locs_194 := (hh_191.callG hb_1941 hb_1942 hb_1943 hb_1944 hb_1945 hS_194 rfl (L1 := [(H_49.size, 10, 0, .null), (js, 6, 7, .int qv_2), (js, 6, 8, .int qu_2), (r0, 13, 4, .ref bo), (r0, 13, 3, .ref ou), (r0, 13, 1, .ref fm), (fm, 4, 1, .int fl), (r0, 13, 2, .ref js), (js, 6, 0, .ref wk), (js, 6, 1, .ref wi), (js, 6, 2, .ref wz), (js, 6, 3, .ref jnx), (js, 6, 4, .ref jkf), (js, 6, 5, .ref jks), (js, 6, 6, .ref jun), (fm, 4, 0, .ref bd_)]) [0, 3, 4, 5, 6, 7, 8, 9, 10, 11, 12, 13, 14, 15, 16, 17] rfl rfl (M1 := [(wk, 140, 1502, ca 1, gk_2), (wi, 141, 1502, ca 1, gi_2), (wz, 142, 1502, ca 1, gz_2), (jnx, 143, 1502, ca 1, gn_2), (jkf, 144, 1502, ca 1, ga_2), (jks, 145, 1502, ca 1, gs_2), (jun, 146, 3000, ca 1, gu_2), (bd_, 100, 3000, ca 0, fb)]) [0, 1, 2, 3, 4, 5, 6, 7] rfl rfl (I1 := [([(10, 0)], jRi dC dI G_52 H_49.size (jqK T18 qv_2.toInt r_50.toInt = 4 ∨ (jqK T18 qv_2.toInt r_50.toInt = 3 ∧ jqZ T18 qv_2.toInt r_50.toInt ≤ 20)))]) [0] rfl rfl).more hb_1946
                    have hNn_194 : (jNk [0, 1, 3, 4, 5, 6, 7, 8, 9, 11, 12, 13, 14, 15, 16]) G0 G_194 := (hNn_52).tr hN_194
                    have hg_196 := hb_1942 _ _ hgc_52
                    have hg_197 := hb_1942 _ _ hg_54
                    have hg_198 := hb_1942 _ _ hg_55
                    have hg_199 := hb_1942 _ _ hg_56
                    have hg_200 := hb_1942 _ _ hg_57
                    have hg_201 := hb_1942 _ _ hg_58
                    have hg_202 := hb_1942 _ _ hg_59
                    have hg_203 := hb_1942 _ _ hg_60
                    have hg_204 := hb_1942 _ _ hg_61
                    have hg_205 := hb_1942 _ _ hg_62
                    have hg_206 := hb_1942 _ _ hg_63
                    have hg_207 := hb_1942 _ _ hg_64
                    have hg_208 := hb_1942 _ _ hg_65
                    have hg_209 := hb_1942 _ _ hg_66
                    have hh_210 := hh_194.addIs hbE_194
                    have hd_211 := jOl.trL (hh_191.iv 1 rfl) hh_191.2.2.2.2.1 hbO_194 (by simp)
                    have hh_212 := hh_210.addI (jOl.ie (dC := dC) (dI := dI) (G0 := G0) (k := 2) (rs := [bo, ou]) (H0 := s.heap) (F := [(2, 0), (2, 1)]) (C := RX0) (T := TX0) (N := 2) rfl (by decide) hh_210.2.2.2.2.1 (hd_211))
                    clear hh_210
                    try simp only at hr_195
                    obtain ⟨hr_195_0, hr_195_1, hr_195_2, hr_195_3, hr_195_4⟩ := hr_195
                    have hh_213 := hh_212.wk (zc1 := (m_qa_194 - n_pa) / 16 + 11) (zs1 := 2 * (m_qa_194 - n_pa) + 267) (by omega) (by omega)
                    clear hh_212
                    try clear hsz_194 htt_194 hrc_194 hrs_194
                    try clear hb_1944 hb_1945
                    refine lv_null hx hb dX11_understood_177 ?_
                    have hsz_214 := hh_213.2.2.2.2.2.1
                    have htt_214 := hh_213.2.2.2.2.2.2.1
                    refine W.room (fun hrc_214 hrs_214 => ?_)
                    refine W.widen (k := LC - s.heap.size) (n := LS - jTot s.heap) (by omega) (by omega) ?_
                    rw [hQ]
                    exact W.aret (v := .null) hx hb hr (Or.inl ⟨_, rfl⟩) (Or.inl rfl) (fun t ht hW => ⟨⟨.null, (qc_194, qv_2, qu_2, qa_194, m_qa_194, gk_2, gi_2, gz_2, gn_2, ga_2, gs_2, gu_2, none, T18, 0, G_194), rfl, ⟨Or.inl rfl, by skip; (try dsimp only); refine ⟨by omega, by omega, by omega, by omega, by assumption, by omega, by omega, by omega, hr_3p_2, Or.inl rfl, rfl, ?_⟩; exact Or.inl ⟨rfl, Or.inr ⟨hX18, hgd9⟩⟩⟩, ⟨hh_213.ra (by first | (simp only; omega) | omega) (by first | (simp only; omega) | omega) (M1 := [(bo, 2, 1, .int qc_194), (js, 6, 7, .int qv_2), (js, 6, 8, .int qu_2), (bo, 2, 0, .ref qa_194)]) [0, 3, 4, 1] rfl ht, hgq_194_0, hNn_194, by rw [ht]; exact hh_213.iv 0 rfl, by rw [ht]; exact hh_213.2.2.2.2.2.2.2.2.sub (L1 := [(jFy, jYb dC dI G_194)]) [1] rfl, by rw [ht]; exact hh_213.2.2.2.2.2.2.2.1.sub [0, 1, 2, 3, 4, 5, 6] rfl, by rw [ht]; exact fun x h9 => by cases h9⟩⟩, by rw [ht]; try exact hh_213.1.1, fun q h9 hq => by rw [ht]; try exact hh_213.1.2.1 q h9 hq⟩) hh_213.1.2.2 dX11_understood_178
                · refine j7_read hx hb hown hK (C := RX8) (T := TX8) (N := 5) rfl hly_10_0 hlk_114 (hh_191.at 0 rfl) dX11_understood_151 ?_
                  refine lv_ifnull hx hb dX11_understood_154 ?_
                  have hgd9 : jdGd T18 qv_2.toInt = 1 := jdGd.y hk0 hr_78_3 hr_105_3 hr_76_3 hid9 (by rw [← hr_80p_1]; omega) (by rw [← hr_107_1]; omega) (Or.inr (by rw [← hr_163_1]; omega)) (Or.inr (jRi.y (hh_191.iv 0 rfl) (hh_191.at 0 rfl)))
                  refine lv_iconst (v := 1) hx hb dX11_understood_157 (by decide) ?_
                  refine lv_goto (tgt := 162) hx hb dX11_understood_158 (by decide) ?_
                  refine lv_istore (lv' := [(5, .int 1), (4, .int r_76), (3, .ref H_49.size), (2, .int r_50), (1, .int r_3), (0, .ref r0)]) hx hb dX11_understood_162 hl (by decide) rfl (fun ls hl => ?_)
                  refine lv_iload hx hb dX11_understood_164 (lv_at hl 0 rfl) ?_
                  refine lv_if_ne (tgt := 179) hx hb dX11_understood_166 (by decide) (fun c_215 => ?_) (fun c_215 => ?_)
                  · skip
                    refine lv_aload_n hx hb dX11_understood_179 rfl (lv_at hl 2 rfl) ?_
                    have hsz_216 := hh_191.2.2.2.2.2.1
                    have htt_216 := hh_191.2.2.2.2.2.2.1
                    refine W.room (fun hrc_216 hrs_216 => ?_)
                    refine W.widen (k := LC - s.heap.size) (n := LS - jTot s.heap) (by omega) (by omega) ?_
                    rw [hQ]
                    exact W.aret (v := .ref H_49.size) hx hb hr (Or.inl ⟨_, rfl⟩) (Or.inr ⟨_, rfl⟩) (fun t ht hW => ⟨⟨.ref H_49.size, (pc, qv_2, qu_2, pa, n_pa, gk_2, gi_2, gz_2, gn_2, ga_2, gs_2, gu_2, (some H_49.size), T18, 0, G_52), rfl, ⟨Or.inr ⟨⟨_, rfl, hgc_52⟩, ⟨_, rfl, hsy_51⟩⟩, by skip; (try dsimp only); refine ⟨by omega, by omega, by omega, by omega, by assumption, by omega, by omega, by omega, hr_3p_2, Or.inr (jUd.of (j := r_78.toInt) (by omega) (by omega) (by omega) (by omega) (by omega) (by omega)), rfl, ?_⟩; exact Or.inr ⟨(fun q => by cases q), hX18, hgd9, hTb18, hco18⟩⟩, ⟨hh_191.ra (by first | (simp only; omega) | omega) (by first | (simp only; omega) | omega) (M1 := [(bo, 2, 1, .int pc), (js, 6, 7, .int qv_2), (js, 6, 8, .int qu_2), (bo, 2, 0, .ref pa)]) [1, 3, 4, 2] rfl ht, hg_69, hNn_52, by rw [ht]; exact hh_191.iv 1 rfl, by rw [ht]; exact hh_191.2.2.2.2.2.2.2.2.sub (L1 := [(jFy, jYb dC dI G_52)]) [2] rfl, by rw [ht]; exact hh_191.2.2.2.2.2.2.2.1.sub [0, 1, 2, 3, 4, 5, 6] rfl, by rw [ht]; exact fun x h9 => by cases h9; exact jRi.to (hh_191.iv 0 rfl) ⟨fun _ => by show (0 : Int) ≤ jdId T18 qv_2.toInt; have e9 : r_50.toInt = jdId T18 qv_2.toInt := (by have h9 := hid9; rw [hk0] at h9; exact h9); omega, fun _ => jRi.y (hh_191.iv 0 rfl) (hh_191.at 0 rfl)⟩⟩⟩, by rw [ht]; try exact hh_191.1.1, fun q h9 hq => by rw [ht]; try exact hh_191.1.2.1 q h9 hq⟩) hh_191.1.2.2 dX11_understood_180
                  · skip
                    exact absurd c_215 (by decide)
    · skip
      have c_74' : r_3.toInt = 0 := jb_ne_n (rfl) ((by decide)) c_74
      exact (by omega : False).elim
end
