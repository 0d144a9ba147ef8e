section
def EX11_addressedU : List (Nat × Nat) := []
set_option maxHeartbeats 4000000 in
set_option maxRecDepth 20000 in
theorem uX11_addressedU (l : Launch) (dC : Nat → ClassId) (dI : Nat → Nat → Nat) (ca : Nat → ClassId) (base : Nat) (B : jF) (hB : jBok B) (hAp : jAp (dC, dI)) (hB1 : ∀ n G a H, B 1 n G a H ↔ jOb (dC, dI) 1 3 (F1 n G) a H) (hB3 : ∀ n G a H, B 3 n G a H ↔ jOb (dC, dI) 3 17 (F3 n G) a H) (hB6 : ∀ n G a H, B 6 n G a H ↔ jOb (dC, dI) 6 12 (F6 n G) a H) (hB13 : ∀ n G a H, B 13 n G a H ↔ jOb (dC, dI) 13 19 (F13 n G) a H) (hB101 : ∀ n G a H, B 101 n G a H ↔ jAr (dC, dI) (ca 1) (fun j z => True) n a H) (hB140 : ∀ n G a H, B 140 n G a H ↔ jAr (dC, dI) (ca 1) (fun j z => True) n a H) (hB141 : ∀ n G a H, B 141 n G a H ↔ jAr (dC, dI) (ca 1) (fun j z => True) n a H) (hB142 : ∀ n G a H, B 142 n G a H ↔ jAr (dC, dI) (ca 1) (fun j z => True) n a H) (hB143 : ∀ n G a H, B 143 n G a H ↔ jAr (dC, dI) (ca 1) (fun j z => True) n a H) (hB144 : ∀ n G a H, B 144 n G a H ↔ jAr (dC, dI) (ca 1) (fun j z => 0 ≤ z.toInt ∧ z.toInt ≤ 3000) n a H) (hB145 : ∀ n G a H, B 145 n G a H ↔ jAr (dC, dI) (ca 1) (fun j z => True) n a H) (hB146 : ∀ n G a H, B 146 n G a H ↔ jAr (dC, dI) (ca 1) (fun j z => True) n a H) (hB174 : ∀ n G a H, B 174 n G a H ↔ jAr (dC, dI) (ca 1) (fun j z => True) n a H) (hB221 : ∀ n G a H, B 221 n G a H ↔ jAq (dC, dI) (ca 9) (jQn 3 0) n G a H) (G0 : jT) (H0 : Heap) (r0 : Nat) (js : Nat) (pv : Int32) (pu : Int32) (wk : Nat) (wi : Nat) (wz : Nat) (jnx : Nat) (jkf : Nat) (jks : Nat) (jun : Nat) (op : Nat) (sz : Int32) (T9 : Nat → Int → Int) (tq : jDtl) (wl : jWl9) (fk : Nat → Int32) (fi : Nat → Int32) (fz : Nat → Int32) (fn : Nat → Int32) (fa : Nat → Int32) (fs : Nat → Int32) (fu : Nat → Int32) : Met l yX11_addressed (jw yX11_addressed cX11_addressed 3 (some (.object "ProofServer$Document"))) ({ frames := 6, cells := 0, slots := 0, locals := 190 }) (va_Pc [.ref r0] (fun U => U.heap = H0 ∧ jX B base G0 [] H0 ∧ jG dC dI ca base U ∧ jK7 dC dI ca base U ∧ G0 r0 = some (13, 0) ∧ G0 js = some (6, 0) ∧ G0 wk = some (140, 1502) ∧ G0 wi = some (141, 1502) ∧ G0 wz = some (142, 1502) ∧ G0 jnx = some (143, 1502) ∧ G0 jkf = some (144, 1502) ∧ G0 jks = some (145, 1502) ∧ G0 jun = some (146, 3000) ∧ G0 op = some (1, 1) ∧ jP (dC, dI) G0 H0 [(r0, 13, 2, .ref js), (js, 6, 7, .int pv), (js, 6, 8, .int pu), (js, 6, 0, .ref wk), (js, 6, 1, .ref wi), (js, 6, 2, .ref wz), (js, 6, 3, .ref jnx), (js, 6, 4, .ref jkf), (js, 6, 5, .ref jks), (js, 6, 6, .ref jun), (r0, 13, 7, .ref op), (op, 1, 2, .int sz)] ∧ jMc (dC, dI) G0 H0 [(wk, 140, 1502, ca 1, fk), (wi, 141, 1502, ca 1, fi), (wz, 142, 1502, ca 1, fz), (jnx, 143, 1502, ca 1, fn), (jkf, 144, 1502, ca 1, fa), (jks, 145, 1502, ca 1, fs), (jun, 146, 3000, ca 1, fu)] ∧ jIs (dC, dI) G0 H0 [(jFl, jLs dC dI ca G0 3 none wl), (jFcd, jCD dC dI ca G0 none tq)] ∧ 0 ≤ pv.toInt ∧ pv.toInt ≤ 1502 ∧ 0 ≤ pu.toInt ∧ pu.toInt ≤ 3000 ∧ jjTC T9 pv.toInt pu.toInt fk fi fz fn fa fs fu ∧ jqR fk fi fz fa fs pv.toInt pu.toInt ∧ jjCo T9 0 pv.toInt ∧ 0 ≤ sz.toInt ∧ sz.toInt ≤ 40)) (jQx (S := Unit) (fun v u => jRn G0 3 0 v ∧ (v = .null ∨ (∃ u : Int, 0 ≤ u ∧ u < pv.toInt ∧ jSo fs u = 3 ∧ jSo fk u = 3)) ∧ v = jdRf wl (jdF T9 pv.toInt (jdUr T9 pv.toInt) (jdUl tq wl) (jdUx tq wl) (wl.1).toNat 0)) (fun u t => (jRt (dC, dI) B base G0 EX11_addressedU H0 [] t.heap) ∧ jIs (dC, dI) G0 t.heap [(jFl, jLs dC dI ca G0 3 none wl), (jFcd, jCD dC dI ca G0 none tq)]) (jA base)) 0 0 (jA base) := by
  refine Met.ofW (cc := cX11_addressed) (maxL := 3) (ret := (some (.object "ProofServer$Document"))) (by decide) rfl ?_
  intro p e s m args below meth c s₁ Bd hml hv
  obtain ⟨rfl, hH0, hX, hG, hK7, hg_r0, hg_js, hg_wk, hg_wi, hg_wz, hg_jnx, hg_jkf, hg_jks, hg_jun, hg_op, hP0, hM0, hI0, hp0, hp1, hp2, hp3, hp4, hp5, hp6, hp7, hp8⟩ := hv
  have hK := hG.1
  have hx := Bd.exec
  have hb := Bd.bytes
  have hr := Bd.returns
  have hts := atoms_spec (ws := (jw yX11_addressed cX11_addressed 3 (some (.object "ProofServer$Document")))) Bd.pre
  have htw : ∀ w ∈ jWl, w.before _ s = true := fun w h => hts w (List.mem_cons_of_mem _ h)
  have hown : s.vm.findClass RX11 = some m.cls := findClass_of_methodNamed Bd.named
  have hlocks := Bd.notSynchronized
  obtain ⟨Q, hQ⟩ : ∃ Q, Q = MQ below (jQx (S := Unit) (fun v u => jRn G0 3 0 v ∧ (v = .null ∨ (∃ u : Int, 0 ≤ u ∧ u < pv.toInt ∧ jSo fs u = 3 ∧ jSo fk u = 3)) ∧ v = jdRf wl (jdF T9 pv.toInt (jdUr T9 pv.toInt) (jdUl tq wl) (jdUx tq wl) (wl.1).toNat 0)) (fun u t => (jRt (dC, dI) B base G0 EX11_addressedU H0 [] t.heap) ∧ jIs (dC, dI) G0 t.heap [(jFl, jLs dC dI ca G0 3 none wl), (jFcd, jCD dC dI ca G0 none tq)]) (jA base)) ([.ref r0] : List Value).toArray s 0 0 (jA base) := ⟨_, rfl⟩
  rw [← hQ]
  have hl := lv_entry ([.ref r0]) (n := 3) (Nat.le_of_ble_eq_true rfl)
  rw [lg_entry_eq]
  generalize (lg_sl ([.ref r0]) ++ List.replicate (3 - (lg_sl ([.ref r0])).length) Slot.unset).toArray = ls at hl ⊢
  have hl : lv_has ls 3 [(0, .ref r0)] := hl
  generalize hR : (headSpec (jw yX11_addressed cX11_addressed 3 (some (.object "ProofServer$Document"))) ({ frames := 6, cells := 0, slots := 0, locals := 190 })).room = R
  subst hH0
  have hh : jSt (dC, dI) B base G0 G0 EX11_addressedU s.heap 0 0 [(r0, 13, 2, .ref js), (js, 6, 7, .int pv), (js, 6, 8, .int pu), (js, 6, 0, .ref wk), (js, 6, 1, .ref wi), (js, 6, 2, .ref wz), (js, 6, 3, .ref jnx), (js, 6, 4, .ref jkf), (js, 6, 5, .ref jks), (js, 6, 6, .ref jun), (r0, 13, 7, .ref op), (op, 1, 2, .int sz)] [(wk, 140, 1502, ca 1, fk), (wi, 141, 1502, ca 1, fi), (wz, 142, 1502, ca 1, fz), (jnx, 143, 1502, ca 1, fn), (jkf, 144, 1502, ca 1, fa), (jks, 145, 1502, ca 1, fs), (jun, 146, 3000, ca 1, fu)] [(jFl, jLs dC dI ca G0 3 none wl), (jFcd, jCD dC dI ca G0 none tq)] s.heap [] := jSt.start hX hP0 hM0 hI0
  clear hX hP0
  have hk0 : (0 : Int32).toInt = 0 := by decide
  have hk1 : (1 : Int32).toInt = 1 := by decide
  have hly_3_0 := htw (u_lay RX1 TX1 0) (jWc_wsX10 _ (u_in_lay (by decide)))
  have hly_13_2 := htw (u_lay RX11 TX11 2) (jWc_wsX110 _ (u_in_lay (by decide)))
  have hly_13_7 := htw (u_lay RX11 TX11 7) (jWc_wsX110 _ (u_in_lay (by decide)))
  have hlk_28 := (htw (.fieldLink RX11 28 "ProofServer" "json" "LProofServer$Json;") (jWr_1 _ (List.mem_of_getElem? (i := 23) rfl)))
  obtain ⟨str271, rstr271, hstr2710⟩ := hG.strT (o := RX11) (k := 271) (tx := "params") (List.mem_of_getElem? (i := 852) (by decide +kernel))
  have hTstr271 : jStrF base str271 6 (jChT "params") s s.heap := hstr2710.F (by decide +kernel)
  have hstr271 : jStr base str271 6 s s.heap := hTstr271.str
  obtain ⟨str344, rstr344, hstr3440⟩ := hG.strT (o := RX11) (k := 344) (tx := "textDocument") (List.mem_of_getElem? (i := 879) (by decide +kernel))
  have hTstr344 : jStrF base str344 12 (jChT "textDocument") s s.heap := hstr3440.F (by decide +kernel)
  have hstr344 : jStr base str344 12 s s.heap := hTstr344.str
  obtain ⟨str346, rstr346, hstr3460⟩ := hG.strT (o := RX11) (k := 346) (tx := "uri") (List.mem_of_getElem? (i := 880) (by decide +kernel))
  have hTstr346 : jStrF base str346 3 (jChT "uri") s s.heap := hstr3460.F (by decide +kernel)
  have hstr346 : jStr base str346 3 s s.heap := hTstr346.str
  have hlk_61 := (htw (.fieldLink RX11 61 "ProofServer" "open" "Ljava/util/List;") (jWr_2 _ (List.mem_of_getElem? (i := 14) rfl)))
  have hlk_348 := (htw (.fieldLink RX11 348 "ProofServer$Document" "uri" "[I") (jWr_27 _ (List.mem_of_getElem? (i := 21) rfl)))
  have hws : wl.1 = sz.toInt := jLs.sz (hh.iv 0 rfl) hg_op (hh.at 11 rfl)
  refine lv_aload_n hx hb dX11_addressed_0 rfl (lv_at hl 0 rfl) ?_
  refine j7_read hx hb hown hK (C := RX11) (T := TX11) (N := 19) rfl hly_13_2 hlk_28 (hh.at 0 rfl) dX11_addressed_1 ?_
  refine lv_aload_n hx hb dX11_addressed_4 rfl (lv_at hl 0 rfl) ?_
  refine j7_read hx hb hown hK (C := RX11) (T := TX11) (N := 19) rfl hly_13_2 hlk_28 (hh.at 0 rfl) dX11_addressed_5 ?_
  refine lv_aload_n hx hb dX11_addressed_8 rfl (lv_at hl 0 rfl) ?_
  refine j7_read hx hb hown hK (C := RX11) (T := TX11) (N := 19) rfl hly_13_2 hlk_28 (hh.at 0 rfl) dX11_addressed_9 ?_
  refine lv_iconst (v := 0) hx hb dX11_addressed_12 (by decide) ?_
  refine j_ldcSw hx hb hown rstr271 dX11_addressed_13 ?_
  refine va_calli (A0 := jA base) (H0 := s.heap) (va_runV (As := [.int 0, .ref str271]) (rest := [.ref js, .ref js]) ⟨hx, hb, hml, hown, hts⟩ (uX4_memberJ l dC dI ca base B hB hAp hB6 hB140 hB141 hB142 hB143 hB144 hB145 hB146 G0 s.heap js 0 str271 6 (jChT "params") pv pu wk wi wz jnx jkf jks jun T9 fk fi fz fn fa fs fu) (cwV 2 hts (jgV (jWr_23 _ (List.mem_of_getElem? (i := 10) rfl)) (jWr_23 _ (List.mem_of_getElem? (i := 11) rfl)) (jWr_23 _ (List.mem_of_getElem? (i := 12) rfl)) (jWr_1 _ (List.mem_of_getElem? (i := 22) rfl)) (jWr_23 _ (List.mem_of_getElem? (i := 13) rfl))) rfl rfl rfl (by decide +kernel) ⟨by rw [← hR]; exact Nat.le_of_ble_eq_true rfl, by rw [← hR]; exact Nat.le_of_ble_eq_true rfl⟩) ⟨fun a U g mk q => by obtain ⟨q0, q1, q2, qK, q10, q11, q12, q13, q14, q15, q16, q17, q18, q19, q20, q21⟩ := q; exact ⟨q0, q1, q2, jG.calling g mk a qK, (q10.moved (Vm.Alike.refl U.vm)), q11, q12, q13, q14, q15, q16, q17, q18, q19, q20, q21⟩, hh.recv (C := RX4) (T := TX4) (N := 12) hB6 rfl (by decide) hg_js hK, fun U hU hW => ⟨rfl, hU, hh.2.1, hG.step hW hU hh.1, (hTstr271.moved hW.alike).kept hh.1.2.1, hg_js, hg_wk, hg_wi, hg_wz, hg_jnx, hg_jkf, hg_jks, hg_jun, (hh.2.2.1.sub (L1 := [(js, 6, 7, .int pv), (js, 6, 8, .int pu), (js, 6, 0, .ref wk), (js, 6, 1, .ref wi), (js, 6, 2, .ref wz), (js, 6, 3, .ref jnx), (js, 6, 4, .ref jkf), (js, 6, 5, .ref jks), (js, 6, 6, .ref jun)]) [1, 2, 3, 4, 5, 6, 7, 8, 9] rfl), (hh.2.2.2.2.2.2.2.1.sub (L1 := [(wk, 140, 1502, ca 1, fk), (wi, 141, 1502, ca 1, fi), (wz, 142, 1502, ca 1, fz), (jnx, 143, 1502, ca 1, fn), (jkf, 144, 1502, ca 1, fa), (jks, 145, 1502, ca 1, fs), (jun, 146, 3000, ca 1, fu)]) [0, 1, 2, 3, 4, 5, 6] rfl), by first | omega | (refine ⟨?_, ?_, ?_, ?_, ?_, ?_, ?_, ?_⟩ <;> (first | omega | rfl | assumption | decide | exact Or.inl rfl | exact Or.inr rfl | (simp only; omega)))⟩⟩ rfl rfl hl.1 rfl (lv_room (Nat.le_of_ble_eq_true rfl)) dX11_addressed_16 ⟨Nat.zero_le _, Nat.zero_le _⟩) hh.1 (fun q _ h => h) (fun q h => h) (fun r_2 u_1 t_1 H_1 locs_1 ht_1 hvm_1 hr_2 hb_1 hz_1 hk_1 hS_1 => ?_)
  rw [ht_1] at hb_1
  obtain ⟨hb_1, hbF_1⟩ := hb_1
  obtain ⟨hb_11, hb_12, hb_13, hb_14, hb_15⟩ := hb_1
  have hh_1 : jSt (dC, dI) B base G0 G0 EX11_addressedU s.heap 0 0 [(r0, 13, 2, .ref js), (js, 6, 7, .int pv), (js, 6, 8, .int pu), (js, 6, 0, .ref wk), (js, 6, 1, .ref wi), (js, 6, 2, .ref wz), (js, 6, 3, .ref jnx), (js, 6, 4, .ref jkf), (js, 6, 5, .ref jks), (js, 6, 6, .ref jun), (r0, 13, 7, .ref op), (op, 1, 2, .int sz)] [(wk, 140, 1502, ca 1, fk), (wi, 141, 1502, ca 1, fi), (wz, 142, 1502, ca 1, fz), (jnx, 143, 1502, ca 1, fn), (jkf, 144, 1502, ca 1, fa), (jks, 145, 1502, ca 1, fs), (jun, 146, 3000, ca 1, fu)] [(jFl, jLs dC dI ca G0 3 none wl), (jFcd, jCD dC dI ca G0 none tq)] H_1 locs_1 := ((hh.call hb_11 hb_12 hb_13 hb_14 hS_1 rfl (L1 := [(r0, 13, 2, .ref js), (js, 6, 7, .int pv), (js, 6, 8, .int pu), (js, 6, 0, .ref wk), (js, 6, 1, .ref wi), (js, 6, 2, .ref wz), (js, 6, 3, .ref jnx), (js, 6, 4, .ref jkf), (js, 6, 5, .ref jks), (js, 6, 6, .ref jun), (r0, 13, 7, .ref op), (op, 1, 2, .int sz)]) [0, 1, 2, 3, 4, 5, 6, 7, 8, 9, 10, 11] rfl rfl (M1 := [(wk, 140, 1502, ca 1, fk), (wi, 141, 1502, ca 1, fi), (wz, 142, 1502, ca 1, fz), (jnx, 143, 1502, ca 1, fn), (jkf, 144, 1502, ca 1, fa), (jks, 145, 1502, ca 1, fs), (jun, 146, 3000, ca 1, fu)]) [0, 1, 2, 3, 4, 5, 6] rfl rfl (I1 := [(jFl, jLs dC dI ca G0 3 none wl), (jFcd, jCD dC dI ca G0 none tq)]) [0, 1] rfl rfl).more hb_15)
  clear hh ht_1 hvm_1 hz_1 hk_1 hS_1 hb_11 hb_12 hb_13 hb_14 hb_15
  obtain ⟨hr_2_0, hr_2_1, hr_2_2, hr_2_3⟩ := hr_2
  refine j_ldcSw hx hb hown rstr344 dX11_addressed_19 ?_
  refine va_calli (A0 := jA base) (H0 := s.heap) (va_runV (As := [.int r_2, .ref str344]) (rest := [.ref js]) ⟨hx, hb, hml, hown, hts⟩ (uX4_memberJ l dC dI ca base B hB hAp hB6 hB140 hB141 hB142 hB143 hB144 hB145 hB146 G0 H_1 js r_2 str344 12 (jChT "textDocument") pv pu wk wi wz jnx jkf jks jun T9 fk fi fz fn fa fs fu) (cwV 2 hts (jgV (jWr_23 _ (List.mem_of_getElem? (i := 10) rfl)) (jWr_23 _ (List.mem_of_getElem? (i := 11) rfl)) (jWr_23 _ (List.mem_of_getElem? (i := 12) rfl)) (jWr_1 _ (List.mem_of_getElem? (i := 22) rfl)) (jWr_23 _ (List.mem_of_getElem? (i := 13) rfl))) rfl rfl rfl (by decide +kernel) ⟨by rw [← hR]; exact Nat.le_of_ble_eq_true rfl, by rw [← hR]; exact Nat.le_of_ble_eq_true rfl⟩) ⟨fun a U g mk q => by obtain ⟨q0, q1, q2, qK, q10, q11, q12, q13, q14, q15, q16, q17, q18, q19, q20, q21⟩ := q; exact ⟨q0, q1, q2, jG.calling g mk a qK, (q10.moved (Vm.Alike.refl U.vm)), q11, q12, q13, q14, q15, q16, q17, q18, q19, q20, q21⟩, hh_1.recv (C := RX4) (T := TX4) (N := 12) hB6 rfl (by decide) hg_js hK, fun U hU hW => ⟨rfl, hU, hh_1.2.1, hG.step hW hU hh_1.1, (hTstr344.moved hW.alike).kept hh_1.1.2.1, hg_js, hg_wk, hg_wi, hg_wz, hg_jnx, hg_jkf, hg_jks, hg_jun, (hh_1.2.2.1.sub (L1 := [(js, 6, 7, .int pv), (js, 6, 8, .int pu), (js, 6, 0, .ref wk), (js, 6, 1, .ref wi), (js, 6, 2, .ref wz), (js, 6, 3, .ref jnx), (js, 6, 4, .ref jkf), (js, 6, 5, .ref jks), (js, 6, 6, .ref jun)]) [1, 2, 3, 4, 5, 6, 7, 8, 9] rfl), (hh_1.2.2.2.2.2.2.2.1.sub (L1 := [(wk, 140, 1502, ca 1, fk), (wi, 141, 1502, ca 1, fi), (wz, 142, 1502, ca 1, fz), (jnx, 143, 1502, ca 1, fn), (jkf, 144, 1502, ca 1, fa), (jks, 145, 1502, ca 1, fs), (jun, 146, 3000, ca 1, fu)]) [0, 1, 2, 3, 4, 5, 6] rfl), by first | omega | (refine ⟨?_, ?_, ?_, ?_, ?_, ?_, ?_, ?_⟩ <;> (first | omega | rfl | assumption | decide | exact Or.inl rfl | exact Or.inr rfl | (simp only; omega)))⟩⟩ rfl rfl hl.1 rfl (lv_room (Nat.le_of_ble_eq_true rfl)) dX11_addressed_22 ⟨Nat.zero_le _, Nat.zero_le _⟩) hh_1.1 (fun q _ h => h) (fun q h => h) (fun r_4 u_3 t_3 H_3 locs_3 ht_3 hvm_3 hr_4 hb_3 hz_3 hk_3 hS_3 => ?_)
  rw [ht_3] at hb_3
  obtain ⟨hb_3, hbF_3⟩ := hb_3
  obtain ⟨hb_31, hb_32, hb_33, hb_34, hb_35⟩ := hb_3
  have hh_3 : jSt (dC, dI) B base G0 G0 EX11_addressedU s.heap 0 0 [(r0, 13, 2, .ref js), (js, 6, 7, .int pv), (js, 6, 8, .int pu), (js, 6, 0, .ref wk), (js, 6, 1, .ref wi), (js, 6, 2, .ref wz), (js, 6, 3, .ref jnx), (js, 6, 4, .ref jkf), (js, 6, 5, .ref jks), (js, 6, 6, .ref jun), (r0, 13, 7, .ref op), (op, 1, 2, .int sz)] [(wk, 140, 1502, ca 1, fk), (wi, 141, 1502, ca 1, fi), (wz, 142, 1502, ca 1, fz), (jnx, 143, 1502, ca 1, fn), (jkf, 144, 1502, ca 1, fa), (jks, 145, 1502, ca 1, fs), (jun, 146, 3000, ca 1, fu)] [(jFl, jLs dC dI ca G0 3 none wl), (jFcd, jCD dC dI ca G0 none tq)] H_3 locs_3 := ((hh_1.call hb_31 hb_32 hb_33 hb_34 hS_3 rfl (L1 := [(r0, 13, 2, .ref js), (js, 6, 7, .int pv), (js, 6, 8, .int pu), (js, 6, 0, .ref wk), (js, 6, 1, .ref wi), (js, 6, 2, .ref wz), (js, 6, 3, .ref jnx), (js, 6, 4, .ref jkf), (js, 6, 5, .ref jks), (js, 6, 6, .ref jun), (r0, 13, 7, .ref op), (op, 1, 2, .int sz)]) [0, 1, 2, 3, 4, 5, 6, 7, 8, 9, 10, 11] rfl rfl (M1 := [(wk, 140, 1502, ca 1, fk), (wi, 141, 1502, ca 1, fi), (wz, 142, 1502, ca 1, fz), (jnx, 143, 1502, ca 1, fn), (jkf, 144, 1502, ca 1, fa), (jks, 145, 1502, ca 1, fs), (jun, 146, 3000, ca 1, fu)]) [0, 1, 2, 3, 4, 5, 6] rfl rfl (I1 := [(jFl, jLs dC dI ca G0 3 none wl), (jFcd, jCD dC dI ca G0 none tq)]) [0, 1] rfl rfl).more hb_35)
  clear hh_1 ht_3 hvm_3 hz_3 hk_3 hS_3 hb_31 hb_32 hb_33 hb_34 hb_35
  obtain ⟨hr_4_0, hr_4_1, hr_4_2, hr_4_3⟩ := hr_4
  refine j_ldcSw hx hb hown rstr346 dX11_addressed_25 ?_
  refine va_calli (A0 := jA base) (H0 := s.heap) (va_runV (As := [.int r_4, .ref str346]) (rest := []) ⟨hx, hb, hml, hown, hts⟩ (uX4_memberJ l dC dI ca base B hB hAp hB6 hB140 hB141 hB142 hB143 hB144 hB145 hB146 G0 H_3 js r_4 str346 3 (jChT "uri") pv pu wk wi wz jnx jkf jks jun T9 fk fi fz fn fa fs fu) (cwV 2 hts (jgV (jWr_23 _ (List.mem_of_getElem? (i := 10) rfl)) (jWr_23 _ (List.mem_of_getElem? (i := 11) rfl)) (jWr_23 _ (List.mem_of_getElem? (i := 12) rfl)) (jWr_1 _ (List.mem_of_getElem? (i := 22) rfl)) (jWr_23 _ (List.mem_of_getElem? (i := 13) rfl))) rfl rfl rfl (by decide +kernel) ⟨by rw [← hR]; exact Nat.le_of_ble_eq_true rfl, by rw [← hR]; exact Nat.le_of_ble_eq_true rfl⟩) ⟨fun a U g mk q => by obtain ⟨q0, q1, q2, qK, q10, q11, q12, q13, q14, q15, q16, q17, q18, q19, q20, q21⟩ := q; exact ⟨q0, q1, q2, jG.calling g mk a qK, (q10.moved (Vm.Alike.refl U.vm)), q11, q12, q13, q14, q15, q16, q17, q18, q19, q20, q21⟩, hh_3.recv (C := RX4) (T := TX4) (N := 12) hB6 rfl (by decide) hg_js hK, fun U hU hW => ⟨rfl, hU, hh_3.2.1, hG.step hW hU hh_3.1, (hTstr346.moved hW.alike).kept hh_3.1.2.1, hg_js, hg_wk, hg_wi, hg_wz, hg_jnx, hg_jkf, hg_jks, hg_jun, (hh_3.2.2.1.sub (L1 := [(js, 6, 7, .int pv), (js, 6, 8, .int pu), (js, 6, 0, .ref wk), (js, 6, 1, .ref wi), (js, 6, 2, .ref wz), (js, 6, 3, .ref jnx), (js, 6, 4, .ref jkf), (js, 6, 5, .ref jks), (js, 6, 6, .ref jun)]) [1, 2, 3, 4, 5, 6, 7, 8, 9] rfl), (hh_3.2.2.2.2.2.2.2.1.sub (L1 := [(wk, 140, 1502, ca 1, fk), (wi, 141, 1502, ca 1, fi), (wz, 142, 1502, ca 1, fz), (jnx, 143, 1502, ca 1, fn), (jkf, 144, 1502, ca 1, fa), (jks, 145, 1502, ca 1, fs), (jun, 146, 3000, ca 1, fu)]) [0, 1, 2, 3, 4, 5, 6] rfl), by first | omega | (refine ⟨?_, ?_, ?_, ?_, ?_, ?_, ?_, ?_⟩ <;> (first | omega | rfl | assumption | decide | exact Or.inl rfl | exact Or.inr rfl | (simp only; omega)))⟩⟩ rfl rfl hl.1 rfl (lv_room (Nat.le_of_ble_eq_true rfl)) dX11_addressed_28 ⟨Nat.zero_le _, Nat.zero_le _⟩) hh_3.1 (fun q _ h => h) (fun q h => h) (fun r_6 u_5 t_5 H_5 locs_5 ht_5 hvm_5 hr_6 hb_5 hz_5 hk_5 hS_5 => ?_)
  rw [ht_5] at hb_5
  obtain ⟨hb_5, hbF_5⟩ := hb_5
  obtain ⟨hb_51, hb_52, hb_53, hb_54, hb_55⟩ := hb_5
  have hh_5 : jSt (dC, dI) B base G0 G0 EX11_addressedU s.heap 0 0 [(r0, 13, 2, .ref js), (js, 6, 7, .int pv), (js, 6, 8, .int pu), (js, 6, 0, .ref wk), (js, 6, 1, .ref wi), (js, 6, 2, .ref wz), (js, 6, 3, .ref jnx), (js, 6, 4, .ref jkf), (js, 6, 5, .ref jks), (js, 6, 6, .ref jun), (r0, 13, 7, .ref op), (op, 1, 2, .int sz)] [(wk, 140, 1502, ca 1, fk), (wi, 141, 1502, ca 1, fi), (wz, 142, 1502, ca 1, fz), (jnx, 143, 1502, ca 1, fn), (jkf, 144, 1502, ca 1, fa), (jks, 145, 1502, ca 1, fs), (jun, 146, 3000, ca 1, fu)] [(jFl, jLs dC dI ca G0 3 none wl), (jFcd, jCD dC dI ca G0 none tq)] H_5 locs_5 := ((hh_3.call hb_51 hb_52 hb_53 hb_54 hS_5 rfl (L1 := [(r0, 13, 2, .ref js), (js, 6, 7, .int pv), (js, 6, 8, .int pu), (js, 6, 0, .ref wk), (js, 6, 1, .ref wi), (js, 6, 2, .ref wz), (js, 6, 3, .ref jnx), (js, 6, 4, .ref jkf), (js, 6, 5, .ref jks), (js, 6, 6, .ref jun), (r0, 13, 7, .ref op), (op, 1, 2, .int sz)]) [0, 1, 2, 3, 4, 5, 6, 7, 8, 9, 10, 11] rfl rfl (M1 := [(wk, 140, 1502, ca 1, fk), (wi, 141, 1502, ca 1, fi), (wz, 142, 1502, ca 1, fz), (jnx, 143, 1502, ca 1, fn), (jkf, 144, 1502, ca 1, fa), (jks, 145, 1502, ca 1, fs), (jun, 146, 3000, ca 1, fu)]) [0, 1, 2, 3, 4, 5, 6] rfl rfl (I1 := [(jFl, jLs dC dI ca G0 3 none wl), (jFcd, jCD dC dI ca G0 none tq)]) [0, 1] rfl rfl).more hb_55)
  clear hh_3 ht_5 hvm_5 hz_5 hk_5 hS_5 hb_51 hb_52 hb_53 hb_54 hb_55
  obtain ⟨hr_6_0, hr_6_1, hr_6_2, hr_6_3⟩ := hr_6
  refine lv_istore_n (lv' := [(1, .int r_6), (0, .ref r0)]) hx hb dX11_addressed_31 rfl hl (by decide) rfl (fun ls hl => ?_)
  have hu9 := jdUr.of (z := (0 : Int32).toInt) hk0 hr_2_3 hr_4_3 hr_6_3
  refine lv_iconst (v := 0) hx hb dX11_addressed_32 (by decide) ?_
  refine lv_istore_n (lv' := [(2, .int 0), (1, .int r_6), (0, .ref r0)]) hx hb dX11_addressed_33 rfl hl (by decide) rfl (fun ls hl => ?_)
  have L34 : ∀ (N : Nat) (v2_7 : Int32) (H_7 : Heap) (locs_7 : List Loc), jSt (dC, dI) B base G0 G0 EX11_addressedU s.heap 0 0 [(r0, 13, 2, .ref js), (js, 6, 7, .int pv), (js, 6, 8, .int pu), (js, 6, 0, .ref wk), (js, 6, 1, .ref wi), (js, 6, 2, .ref wz), (js, 6, 3, .ref jnx), (js, 6, 4, .ref jkf), (js, 6, 5, .ref jks), (js, 6, 6, .ref jun), (r0, 13, 7, .ref op), (op, 1, 2, .int sz)] [(wk, 140, 1502, ca 1, fk), (wi, 141, 1502, ca 1, fi), (wz, 142, 1502, ca 1, fz), (jnx, 143, 1502, ca 1, fn), (jkf, 144, 1502, ca 1, fa), (jks, 145, 1502, ca 1, fs), (jun, 146, 3000, ca 1, fu)] [(jFl, jLs dC dI ca G0 3 none wl), (jFcd, jCD dC dI ca G0 none tq)] H_7 locs_7 → (0 ≤ v2_7.toInt ∧ v2_7.toInt ≤ sz.toInt ∧ jdF T9 pv.toInt r_6.toInt (jdUl tq wl) (jdUx tq wl) (sz.toInt - v2_7.toInt).toNat v2_7.toInt = jdF T9 pv.toInt (jdUr T9 pv.toInt) (jdUl tq wl) (jdUx tq wl) (wl.1).toNat 0 ∧ (r_6.toInt < 0 ∨ (r_6.toInt < pv.toInt ∧ jSo fs r_6.toInt = 3))) → (sz.toInt - v2_7.toInt : Int) < N → ∀ ls : Array Slot, lv_has ls 3 [(0, .ref r0), (1, .int r_6), (2, .int v2_7)] → W p l e R s m ([.ref r0] : List Value).toArray below meth c H_7 locs_7 0 0 Q (F0 m 34 ls []) := by
    intro N
    induction N with
    | zero => intro v2_7 H_7 locs_7 hh_7  hi_7 hm; exact absurd hm (by omega)
    | succ N L34 =>
      intro v2_7 H_7 locs_7 hh_7  hi_7 hm_7 ls hl
      obtain ⟨hi_7_0, hi_7_1, hi_7_2, hi_7_3⟩ := hi_7
      try clear hr_2_2; try clear hr_4_2; try clear hr_6_2
      refine lv_iload_n hx hb dX11_addressed_34 rfl (lv_at hl 2 rfl) ?_
      refine lv_aload_n hx hb dX11_addressed_35 rfl (lv_at hl 0 rfl) ?_
      refine j7_read hx hb hown hK (C := RX11) (T := TX11) (N := 19) rfl hly_13_7 hlk_61 (hh_7.at 10 rfl) dX11_addressed_36 ?_
      refine va_callFi (A0 := jA base) (H0 := s.heap) (va_runF (hK.1 1 _ rfl).2 (As := []) (rest := [.int v2_7]) ⟨hx, hb, hml, hown, hts⟩ (uJx4a65c_size_8abf5 l dC dI ca base B hB hAp hB1 G0 H_7 op 1 sz) (va_cwF 0 hts (jgF (jWr_27 _ (List.mem_of_getElem? (i := 22) rfl)) (jWr_27 _ (List.mem_of_getElem? (i := 23) rfl)) (jWr_28 _ (List.mem_of_getElem? (i := 0) rfl)) (jWr_2 _ (List.mem_of_getElem? (i := 13) rfl)) (jWr_28 _ (List.mem_of_getElem? (i := 1) rfl))) rfl rfl rfl hK7.2.2.2.2.2.1.1 ⟨by decide, by decide, by decide +kernel⟩ ⟨by rw [← hR]; exact Nat.le_of_ble_eq_true rfl, by rw [← hR]; exact Nat.le_of_ble_eq_true rfl⟩) ⟨fun a U g mk q => by obtain ⟨q0, q1, q2, qK, q10, q11, q12⟩ := q; exact ⟨q0, q1, q2, jG.calling g mk a qK, q10, q11, q12⟩, hh_7.recv (C := RJx4a65c) (T := TJx4a65c) (N := 3) hB1 rfl (by decide) hg_op hK, fun U hU hW => ⟨rfl, hU, hh_7.2.1, hG.step hW hU hh_7.1, hg_op, (hh_7.2.2.1.sub (L1 := [(op, 1, 2, .int sz)]) [11] rfl), trivial⟩⟩ rfl rfl hl.1 rfl (lv_room (Nat.le_of_ble_eq_true rfl)) dX11_addressed_39 ⟨Nat.zero_le _, Nat.zero_le _⟩) hh_7.1 (fun q _ h => h) (fun q h => h) (fun r_9 u_8 t_8 H_8 locs_8 ht_8 hvm_8 hr_9 hb_8 hz_8 hk_8 hS_8 => ?_)
      rw [ht_8] at hb_8
      obtain ⟨hb_81, hb_82, hb_83, hb_84, hb_85⟩ := hb_8
      have hh_8 : jSt (dC, dI) B base G0 G0 EX11_addressedU s.heap 0 0 [(r0, 13, 2, .ref js), (js, 6, 7, .int pv), (js, 6, 8, .int pu), (js, 6, 0, .ref wk), (js, 6, 1, .ref wi), (js, 6, 2, .ref wz), (js, 6, 3, .ref jnx), (js, 6, 4, .ref jkf), (js, 6, 5, .ref jks), (js, 6, 6, .ref jun), (r0, 13, 7, .ref op), (op, 1, 2, .int sz)] [(wk, 140, 1502, ca 1, fk), (wi, 141, 1502, ca 1, fi), (wz, 142, 1502, ca 1, fz), (jnx, 143, 1502, ca 1, fn), (jkf, 144, 1502, ca 1, fa), (jks, 145, 1502, ca 1, fs), (jun, 146, 3000, ca 1, fu)] [(jFl, jLs dC dI ca G0 3 none wl), (jFcd, jCD dC dI ca G0 none tq)] H_8 locs_8 := ((hh_7.call hb_81 hb_82 hb_83 hb_84 hS_8 rfl (L1 := [(r0, 13, 2, .ref js), (js, 6, 7, .int pv), (js, 6, 8, .int pu), (js, 6, 0, .ref wk), (js, 6, 1, .ref wi), (js, 6, 2, .ref wz), (js, 6, 3, .ref jnx), (js, 6, 4, .ref jkf), (js, 6, 5, .ref jks), (js, 6, 6, .ref jun), (r0, 13, 7, .ref op), (op, 1, 2, .int sz)]) [0, 1, 2, 3, 4, 5, 6, 7, 8, 9, 10, 11] rfl rfl (M1 := [(wk, 140, 1502, ca 1, fk), (wi, 141, 1502, ca 1, fi), (wz, 142, 1502, ca 1, fz), (jnx, 143, 1502, ca 1, fn), (jkf, 144, 1502, ca 1, fa), (jks, 145, 1502, ca 1, fs), (jun, 146, 3000, ca 1, fu)]) [0, 1, 2, 3, 4, 5, 6] rfl rfl (I1 := [(jFl, jLs dC dI ca G0 3 none wl), (jFcd, jCD dC dI ca G0 none tq)]) [0, 1] rfl rfl).more hb_85)
      clear hh_7 ht_8 hvm_8 hz_8 hk_8 hS_8 hb_81 hb_82 hb_83 hb_84 hb_85
      refine lv_icmp_ge (tgt := 94) hx hb dX11_addressed_44 (by decide) (fun c_10 => ?_) (fun c_10 => ?_)
      · skip
        have c_10' : v2_7.toInt ≥ r_9.toInt := jb_ge (rfl) (rfl) c_10
        refine lv_null hx hb dX11_addressed_94 ?_
        rw [hQ]
        exact W.aret (v := .null) hx hb hr (Or.inl ⟨_, rfl⟩) (Or.inl rfl) (fun t ht hW => ⟨⟨.null, (), rfl, ⟨Or.inl rfl, ⟨Or.inl rfl, by rw [← hi_7_2, show (sz.toInt - v2_7.toInt).toNat = 0 by omega]; rfl⟩⟩, ⟨hh_8.rt (M1 := []) [] rfl ht, by rw [ht]; exact hh_8.2.2.2.2.2.2.2.2.sub (L1 := [(jFl, jLs dC dI ca G0 3 none wl), (jFcd, jCD dC dI ca G0 none tq)]) [0, 1] rfl⟩⟩, by rw [ht]; try exact hh_8.1.1, fun q h9 hq => by rw [ht]; try exact hh_8.1.2.1 q h9 hq⟩) hh_8.1.2.2 dX11_addressed_95
      · skip
        have c_10' : v2_7.toInt < r_9.toInt := jb_ge_n (rfl) (rfl) c_10
        refine lv_aload_n hx hb dX11_addressed_47 rfl (lv_at hl 0 rfl) ?_
        refine j7_read hx hb hown hK (C := RX11) (T := TX11) (N := 19) rfl hly_13_2 hlk_28 (hh_8.at 0 rfl) dX11_addressed_48 ?_
        refine lv_iload_n hx hb dX11_addressed_51 rfl (lv_at hl 1 rfl) ?_
        refine lv_aload_n hx hb dX11_addressed_52 rfl (lv_at hl 0 rfl) ?_
        refine j7_read hx hb hown hK (C := RX11) (T := TX11) (N := 19) rfl hly_13_7 hlk_61 (hh_8.at 10 rfl) dX11_addressed_53 ?_
        refine lv_iload_n hx hb dX11_addressed_56 rfl (lv_at hl 2 rfl) ?_
        refine j_callFx (A0 := jA base) (H0 := s.heap) (va_runF (hK.1 1 _ rfl).2 (As := [.int v2_7]) (rest := [.int r_6, .ref js]) ⟨hx, hb, hml, hown, hts⟩ (uJx4a65c_get_915e3L1 l dC dI ca base B hB hAp hB1 hB3 hB221 G0 H_8 op v2_7 sz wl) (va_cwF 1 hts (jgF (jWr_28 _ (List.mem_of_getElem? (i := 3) rfl)) (jWr_28 _ (List.mem_of_getElem? (i := 4) rfl)) (jWr_28 _ (List.mem_of_getElem? (i := 5) rfl)) (jWr_2 _ (List.mem_of_getElem? (i := 13) rfl)) (jWr_28 _ (List.mem_of_getElem? (i := 6) rfl))) rfl rfl rfl hK7.2.2.2.2.2.1.2.1 ⟨by decide, by decide, by decide +kernel⟩ ⟨by rw [← hR]; exact Nat.le_of_ble_eq_true rfl, by rw [← hR]; exact Nat.le_of_ble_eq_true rfl⟩) ⟨fun a U g mk q => by obtain ⟨q0, q1, q2, qK, q10, q11, q12, q13, q14⟩ := q; exact ⟨q0, q1, q2, jG.calling g mk a qK, (jK7.calling g mk a q10), q11, q12, q13, q14⟩, hh_8.recv (C := RJx4a65c) (T := TJx4a65c) (N := 3) hB1 rfl (by decide) hg_op hK, fun U hU hW => ⟨rfl, hU, hh_8.2.1, hG.step hW hU hh_8.1, (hK7.step hW hU hh_8.1), hg_op, (hh_8.2.2.1.sub (L1 := [(op, 1, 2, .int sz)]) [11] rfl), (hh_8.2.2.2.2.2.2.2.2.sub (L1 := [(jFl, jLs dC dI ca G0 3 none wl)]) [0] rfl), by first | omega | (refine ⟨?_, ?_⟩ <;> (first | omega | rfl | assumption | decide | exact Or.inl rfl | exact Or.inr rfl | (simp only; omega)))⟩⟩ rfl rfl hl.1 rfl (lv_room (Nat.le_of_ble_eq_true rfl)) dX11_addressed_57 ⟨Nat.zero_le _, Nat.zero_le _⟩) hh_8.1 (fun q _ h => h) (fun q h => h) (fun r_12 u_11 t_11 H_11 locs_11 ht_11 hvm_11 hr_12 hb_11 hz_11 hk_11 hS_11 => ?_)
        rw [ht_11] at hb_11
        obtain ⟨hb_11, hbE_11⟩ := hb_11
        obtain ⟨hb_111, hb_112, hb_113, hb_114, hb_115⟩ := hb_11
        have hh_11 : jSt (dC, dI) B base G0 G0 EX11_addressedU s.heap 0 0 [(r0, 13, 2, .ref js), (js, 6, 7, .int pv), (js, 6, 8, .int pu), (js, 6, 0, .ref wk), (js, 6, 1, .ref wi), (js, 6, 2, .ref wz), (js, 6, 3, .ref jnx), (js, 6, 4, .ref jkf), (js, 6, 5, .ref jks), (js, 6, 6, .ref jun), (r0, 13, 7, .ref op), (op, 1, 2, .int sz)] [(wk, 140, 1502, ca 1, fk), (wi, 141, 1502, ca 1, fi), (wz, 142, 1502, ca 1, fz), (jnx, 143, 1502, ca 1, fn), (jkf, 144, 1502, ca 1, fa), (jks, 145, 1502, ca 1, fs), (jun, 146, 3000, ca 1, fu)] [(jFl, jLs dC dI ca G0 3 none wl), (jFcd, jCD dC dI ca G0 none tq)] H_11 locs_11 := (((hh_8.call hb_111 hb_112 hb_113 hb_114 hS_11 rfl (L1 := [(r0, 13, 2, .ref js), (js, 6, 7, .int pv), (js, 6, 8, .int pu), (js, 6, 0, .ref wk), (js, 6, 1, .ref wi), (js, 6, 2, .ref wz), (js, 6, 3, .ref jnx), (js, 6, 4, .ref jkf), (js, 6, 5, .ref jks), (js, 6, 6, .ref jun), (r0, 13, 7, .ref op), (op, 1, 2, .int sz)]) [0, 1, 2, 3, 4, 5, 6, 7, 8, 9, 10, 11] rfl rfl (M1 := [(wk, 140, 1502, ca 1, fk), (wi, 141, 1502, ca 1, fi), (wz, 142, 1502, ca 1, fz), (jnx, 143, 1502, ca 1, fn), (jkf, 144, 1502, ca 1, fa), (jks, 145, 1502, ca 1, fs), (jun, 146, 3000, ca 1, fu)]) [0, 1, 2, 3, 4, 5, 6] rfl rfl (I1 := [(jFcd, jCD dC dI ca G0 none tq)]) [1] rfl rfl).more hb_115)).addIs hbE_11
        clear hh_8 ht_11 hvm_11 hz_11 hk_11 hS_11 hb_111 hb_112 hb_113 hb_114 hb_115
        clear  hbE_11
        obtain ⟨hr_12, hr_12p⟩ := hr_12
        obtain ⟨ret_13, rfl, hg_ret_13⟩ := hr_12
        refine va_castY hx hb hown (htw (.classLink RX11 71 "ProofServer$Document") (jWr_27 _ (List.mem_of_getElem? (i := 20) rfl))) hK7.2.2.1.1.2 (hh_11.recv (C := RX1) (T := TX1) (N := 17) hB3 rfl (by decide) hg_ret_13 hK) dX11_addressed_62 ?_
        have hat9 := jdAt hr_12p
        obtain ⟨ut_14, uz_14, hgt_14, hgz_14, huP_14, huM_14, hul9_14⟩ := jCD.at (hh_11.iv 1 rfl) hg_ret_13 (fun q => by cases q)
        have hh_15 := ((hh_11.sub (L1 := [(r0, 13, 2, .ref js), (js, 6, 7, .int pv), (js, 6, 8, .int pu), (js, 6, 0, .ref wk), (js, 6, 1, .ref wi), (js, 6, 2, .ref wz), (js, 6, 3, .ref jnx), (js, 6, 4, .ref jkf), (js, 6, 5, .ref jks), (js, 6, 6, .ref jun), (r0, 13, 7, .ref op), (op, 1, 2, .int sz)]) [0, 1, 2, 3, 4, 5, 6, 7, 8, 9, 10, 11] rfl (M1 := [(wk, 140, 1502, ca 1, fk), (wi, 141, 1502, ca 1, fi), (wz, 142, 1502, ca 1, fz), (jnx, 143, 1502, ca 1, fn), (jkf, 144, 1502, ca 1, fa), (jks, 145, 1502, ca 1, fs), (jun, 146, 3000, ca 1, fu)]) [0, 1, 2, 3, 4, 5, 6] rfl (I1 := [(jFl, jLs dC dI ca G0 3 none wl), (jFcd, jCD dC dI ca G0 none tq)]) [0, 1] rfl).more huP_14).moreM huM_14
        clear hh_11
        refine j7_read hx hb hown hK (C := RX1) (T := TX1) (N := 17) rfl hly_3_0 hlk_348 (hh_15.at 3 rfl) dX11_addressed_65 ?_
        refine va_calli (A0 := jA base) (H0 := s.heap) (va_runV (As := [.int r_6, .ref uz_14]) (rest := []) ⟨hx, hb, hml, hown, hts⟩ (uX4_isUnitsJu9 l dC dI ca base B hB hAp hB6 hB140 hB141 hB142 hB146 hB174 G0 H_11 js r_6 uz_14 (tq.ul ret_13) pv pu wk wi wz jnx jkf jks jun T9 (tq.ux ret_13) fk fi fz fn fa fs fu) (cwV 2 hts (jgV (jWr_28 _ (List.mem_of_getElem? (i := 16) rfl)) (jWr_28 _ (List.mem_of_getElem? (i := 17) rfl)) (jWr_28 _ (List.mem_of_getElem? (i := 18) rfl)) (jWr_1 _ (List.mem_of_getElem? (i := 22) rfl)) (jWr_28 _ (List.mem_of_getElem? (i := 19) rfl))) rfl rfl rfl (by decide +kernel) ⟨by rw [← hR]; exact Nat.le_of_ble_eq_true rfl, by rw [← hR]; exact Nat.le_of_ble_eq_true rfl⟩) ⟨fun a U g mk q => by obtain ⟨q0, q1, q2, qK, q10, q11, q12, q13, q14, q15, q16, q17, q18, q19, q20, q21⟩ := q; exact ⟨q0, q1, q2, jG.calling g mk a qK, q10, q11, q12, q13, q14, q15, q16, q17, q18, q19, q20, q21⟩, hh_15.recv (C := RX4) (T := TX4) (N := 12) hB6 rfl (by decide) hg_js hK, fun U hU hW => ⟨rfl, hU, hh_15.2.1, hG.step hW hU hh_15.1, hg_js, hgz_14, hg_wk, hg_wi, hg_wz, hg_jnx, hg_jkf, hg_jks, hg_jun, (hh_15.2.2.1.sub (L1 := [(js, 6, 7, .int pv), (js, 6, 8, .int pu), (js, 6, 0, .ref wk), (js, 6, 1, .ref wi), (js, 6, 2, .ref wz), (js, 6, 3, .ref jnx), (js, 6, 4, .ref jkf), (js, 6, 5, .ref jks), (js, 6, 6, .ref jun)]) [5, 6, 7, 8, 9, 10, 11, 12, 13] rfl), (hh_15.2.2.2.2.2.2.2.1.sub (L1 := [(uz_14, 174, (tq.ul ret_13), ca 1, (tq.ux ret_13)), (wk, 140, 1502, ca 1, fk), (wi, 141, 1502, ca 1, fi), (wz, 142, 1502, ca 1, fz), (jnx, 143, 1502, ca 1, fn), (jkf, 144, 1502, ca 1, fa), (jks, 145, 1502, ca 1, fs), (jun, 146, 3000, ca 1, fu)]) [1, 2, 3, 4, 5, 6, 7, 8] rfl), ⟨(by first | omega | rfl | assumption | (first | omega)), (by first | omega | rfl | assumption | (first | omega)), (by first | omega | rfl | assumption | (first | omega)), (by first | omega | rfl | assumption | (first | omega)), (by first | assumption | (first | omega) | omega), (by first | assumption | (first | omega) | omega), (by first | omega | rfl | assumption | (first | omega))⟩⟩⟩ rfl rfl hl.1 rfl (lv_room (Nat.le_of_ble_eq_true rfl)) dX11_addressed_68 ⟨Nat.zero_le _, Nat.zero_le _⟩) hh_15.1 (fun q _ h => h) (fun q h => h) (fun r_17 u_16 t_16 H_16 locs_16 ht_16 hvm_16 hr_17 hb_16 hz_16 hk_16 hS_16 => ?_)
        rw [ht_16] at hb_16
        obtain ⟨hb_161, hb_162, hb_163, hb_164, hb_165⟩ := hb_16
        have hh_16 : jSt (dC, dI) B base G0 G0 EX11_addressedU s.heap 0 0 [(ret_13, 3, 2, .ref ut_14), (ret_13, 3, 1, .int (tq.ve ret_13)), (ret_13, 3, 3, .int (tq.ln ret_13)), (ret_13, 3, 0, .ref uz_14), (r0, 13, 2, .ref js), (js, 6, 7, .int pv), (js, 6, 8, .int pu), (js, 6, 0, .ref wk), (js, 6, 1, .ref wi), (js, 6, 2, .ref wz), (js, 6, 3, .ref jnx), (js, 6, 4, .ref jkf), (js, 6, 5, .ref jks), (js, 6, 6, .ref jun), (r0, 13, 7, .ref op), (op, 1, 2, .int sz)] [(ut_14, 173, 1500, ca 1, (tq.tx ret_13)), (uz_14, 174, (tq.ul ret_13), ca 1, (tq.ux ret_13)), (wk, 140, 1502, ca 1, fk), (wi, 141, 1502, ca 1, fi), (wz, 142, 1502, ca 1, fz), (jnx, 143, 1502, ca 1, fn), (jkf, 144, 1502, ca 1, fa), (jks, 145, 1502, ca 1, fs), (jun, 146, 3000, ca 1, fu)] [(jFl, jLs dC dI ca G0 3 none wl), (jFcd, jCD dC dI ca G0 none tq)] H_16 locs_16 := ((hh_15.call hb_161 hb_162 hb_163 hb_164 hS_16 rfl (L1 := [(ret_13, 3, 2, .ref ut_14), (ret_13, 3, 1, .int (tq.ve ret_13)), (ret_13, 3, 3, .int (tq.ln ret_13)), (ret_13, 3, 0, .ref uz_14), (r0, 13, 2, .ref js), (js, 6, 7, .int pv), (js, 6, 8, .int pu), (js, 6, 0, .ref wk), (js, 6, 1, .ref wi), (js, 6, 2, .ref wz), (js, 6, 3, .ref jnx), (js, 6, 4, .ref jkf), (js, 6, 5, .ref jks), (js, 6, 6, .ref jun), (r0, 13, 7, .ref op), (op, 1, 2, .int sz)]) [0, 1, 2, 3, 4, 5, 6, 7, 8, 9, 10, 11, 12, 13, 14, 15] rfl rfl (M1 := [(ut_14, 173, 1500, ca 1, (tq.tx ret_13)), (uz_14, 174, (tq.ul ret_13), ca 1, (tq.ux ret_13)), (wk, 140, 1502, ca 1, fk), (wi, 141, 1502, ca 1, fi), (wz, 142, 1502, ca 1, fz), (jnx, 143, 1502, ca 1, fn), (jkf, 144, 1502, ca 1, fa), (jks, 145, 1502, ca 1, fs), (jun, 146, 3000, ca 1, fu)]) [0, 1, 2, 3, 4, 5, 6, 7, 8] rfl rfl (I1 := [(jFl, jLs dC dI ca G0 3 none wl), (jFcd, jCD dC dI ca G0 none tq)]) [0, 1] rfl rfl).more hb_165)
        clear hh_15 ht_16 hvm_16 hz_16 hk_16 hS_16 hb_161 hb_162 hb_163 hb_164 hb_165
        obtain ⟨hr_17b, hr_17p⟩ := hr_17
        obtain ⟨hr_17p_0, hr_17p_1⟩ := hr_17p
        have hr_17' := jb_01 hr_17b
        refine lv_if_eq (tgt := 88) hx hb dX11_addressed_71 (by decide) (fun c_18 => ?_) (fun c_18 => ?_)
        · skip
          have c_18' : r_17.toInt = 0 := jb_eq (rfl) ((by decide)) c_18
          first | (have hr_17p_0q := hr_17p_0.resolve_left (by omega); clear hr_17p_0) | (have hr_17p_0q := hr_17p_0.resolve_right (by omega); clear hr_17p_0) | try clear hr_17p_0
          obtain ⟨z_19, ez_19⟩ : ∃ y : Int32, y = v2_7 + 1 := ⟨_, rfl⟩
          refine lv_iinc (v := z_19) (lv' := [(2, .int z_19), (0, .ref r0), (1, .int r_6)]) hx hb dX11_addressed_88 hl (k := 2) rfl (by rw [ez_19]; rfl) (by decide) rfl (fun ls hl => ?_)
          have hz_19 : z_19.toInt = v2_7.toInt + 1 := by rw [ez_19]; exact jb_iadd2 (rfl) (by decide) (by omega)
          refine lv_goto (tgt := 34) hx hb dX11_addressed_91 (by decide) ?_
          exact L34 z_19 _ _ (hh_16.sub (L1 := [(r0, 13, 2, .ref js), (js, 6, 7, .int pv), (js, 6, 8, .int pu), (js, 6, 0, .ref wk), (js, 6, 1, .ref wi), (js, 6, 2, .ref wz), (js, 6, 3, .ref jnx), (js, 6, 4, .ref jkf), (js, 6, 5, .ref jks), (js, 6, 6, .ref jun), (r0, 13, 7, .ref op), (op, 1, 2, .int sz)]) [4, 5, 6, 7, 8, 9, 10, 11, 12, 13, 14, 15] rfl (M1 := [(wk, 140, 1502, ca 1, fk), (wi, 141, 1502, ca 1, fi), (wz, 142, 1502, ca 1, fz), (jnx, 143, 1502, ca 1, fn), (jkf, 144, 1502, ca 1, fa), (jks, 145, 1502, ca 1, fs), (jun, 146, 3000, ca 1, fu)]) [2, 3, 4, 5, 6, 7, 8] rfl (I1 := [(jFl, jLs dC dI ca G0 3 none wl), (jFcd, jCD dC dI ca G0 none tq)]) [0, 1] rfl) (by refine ⟨by omega, by omega, ?_, by omega⟩; rw [show (sz.toInt - (z_19).toInt).toNat = (sz.toInt - v2_7.toInt).toNat - 1 by omega]; exact (jdF_s (by omega) (by rw [jdUx.at hat9, jdUl.at hat9, ← hr_17p_1]; omega) (by omega)).trans hi_7_2) (by omega) _ (lv_sub hl [1, 2, 0] rfl)
        · skip
          have c_18' : r_17.toInt ≠ 0 := jb_eq_n (rfl) ((by decide)) c_18
          first | (have hr_17p_0q := hr_17p_0.resolve_left (by omega); clear hr_17p_0) | (have hr_17p_0q := hr_17p_0.resolve_right (by omega); clear hr_17p_0) | try clear hr_17p_0
          refine lv_aload_n hx hb dX11_addressed_74 rfl (lv_at hl 0 rfl) ?_
          refine j7_read hx hb hown hK (C := RX11) (T := TX11) (N := 19) rfl hly_13_7 hlk_61 (hh_16.at 14 rfl) dX11_addressed_75 ?_
          refine lv_iload_n hx hb dX11_addressed_78 rfl (lv_at hl 2 rfl) ?_
          refine j_callFx (A0 := jA base) (H0 := s.heap) (va_runF (hK.1 1 _ rfl).2 (As := [.int v2_7]) (rest := []) ⟨hx, hb, hml, hown, hts⟩ (uJx4a65c_get_915e3L1 l dC dI ca base B hB hAp hB1 hB3 hB221 G0 H_16 op v2_7 sz wl) (va_cwF 1 hts (jgF (jWr_28 _ (List.mem_of_getElem? (i := 3) rfl)) (jWr_28 _ (List.mem_of_getElem? (i := 4) rfl)) (jWr_28 _ (List.mem_of_getElem? (i := 5) rfl)) (jWr_2 _ (List.mem_of_getElem? (i := 13) rfl)) (jWr_28 _ (List.mem_of_getElem? (i := 6) rfl))) rfl rfl rfl hK7.2.2.2.2.2.1.2.1 ⟨by decide, by decide, by decide +kernel⟩ ⟨by rw [← hR]; exact Nat.le_of_ble_eq_true rfl, by rw [← hR]; exact Nat.le_of_ble_eq_true rfl⟩) ⟨fun a U g mk q => by obtain ⟨q0, q1, q2, qK, q10, q11, q12, q13, q14⟩ := q; exact ⟨q0, q1, q2, jG.calling g mk a qK, (jK7.calling g mk a q10), q11, q12, q13, q14⟩, hh_16.recv (C := RJx4a65c) (T := TJx4a65c) (N := 3) hB1 rfl (by decide) hg_op hK, fun U hU hW => ⟨rfl, hU, hh_16.2.1, hG.step hW hU hh_16.1, (hK7.step hW hU hh_16.1), hg_op, (hh_16.2.2.1.sub (L1 := [(op, 1, 2, .int sz)]) [15] rfl), (hh_16.2.2.2.2.2.2.2.2.sub (L1 := [(jFl, jLs dC dI ca G0 3 none wl)]) [0] rfl), by first | omega | (refine ⟨?_, ?_⟩ <;> (first | omega | rfl | assumption | decide | exact Or.inl rfl | exact Or.inr rfl | (simp only; omega)))⟩⟩ rfl rfl hl.1 rfl (lv_room (Nat.le_of_ble_eq_true rfl)) dX11_addressed_79 ⟨Nat.zero_le _, Nat.zero_le _⟩) hh_16.1 (fun q _ h => h) (fun q h => h) (fun r_21 u_20 t_20 H_20 locs_20 ht_20 hvm_20 hr_21 hb_20 hz_20 hk_20 hS_20 => ?_)
          rw [ht_20] at hb_20
          obtain ⟨hb_20, hbE_20⟩ := hb_20
          obtain ⟨hb_201, hb_202, hb_203, hb_204, hb_205⟩ := hb_20
          have hh_20 : jSt (dC, dI) B base G0 G0 EX11_addressedU s.heap 0 0 [(ret_13, 3, 2, .ref ut_14), (ret_13, 3, 1, .int (tq.ve ret_13)), (ret_13, 3, 3, .int (tq.ln ret_13)), (ret_13, 3, 0, .ref uz_14), (r0, 13, 2, .ref js), (js, 6, 7, .int pv), (js, 6, 8, .int pu), (js, 6, 0, .ref wk), (js, 6, 1, .ref wi), (js, 6, 2, .ref wz), (js, 6, 3, .ref jnx), (js, 6, 4, .ref jkf), (js, 6, 5, .ref jks), (js, 6, 6, .ref jun), (r0, 13, 7, .ref op), (op, 1, 2, .int sz)] [(ut_14, 173, 1500, ca 1, (tq.tx ret_13)), (uz_14, 174, (tq.ul ret_13), ca 1, (tq.ux ret_13)), (wk, 140, 1502, ca 1, fk), (wi, 141, 1502, ca 1, fi), (wz, 142, 1502, ca 1, fz), (jnx, 143, 1502, ca 1, fn), (jkf, 144, 1502, ca 1, fa), (jks, 145, 1502, ca 1, fs), (jun, 146, 3000, ca 1, fu)] [(jFl, jLs dC dI ca G0 3 none wl), (jFcd, jCD dC dI ca G0 none tq)] H_20 locs_20 := (((hh_16.call hb_201 hb_202 hb_203 hb_204 hS_20 rfl (L1 := [(ret_13, 3, 2, .ref ut_14), (ret_13, 3, 1, .int (tq.ve ret_13)), (ret_13, 3, 3, .int (tq.ln ret_13)), (ret_13, 3, 0, .ref uz_14), (r0, 13, 2, .ref js), (js, 6, 7, .int pv), (js, 6, 8, .int pu), (js, 6, 0, .ref wk), (js, 6, 1, .ref wi), (js, 6, 2, .ref wz), (js, 6, 3, .ref jnx), (js, 6, 4, .ref jkf), (js, 6, 5, .ref jks), (js, 6, 6, .ref jun), (r0, 13, 7, .ref op), (op, 1, 2, .int sz)]) [0, 1, 2, 3, 4, 5, 6, 7, 8, 9, 10, 11, 12, 13, 14, 15] rfl rfl (M1 := [(ut_14, 173, 1500, ca 1, (tq.tx ret_13)), (uz_14, 174, (tq.ul ret_13), ca 1, (tq.ux ret_13)), (wk, 140, 1502, ca 1, fk), (wi, 141, 1502, ca 1, fi), (wz, 142, 1502, ca 1, fz), (jnx, 143, 1502, ca 1, fn), (jkf, 144, 1502, ca 1, fa), (jks, 145, 1502, ca 1, fs), (jun, 146, 3000, ca 1, fu)]) [0, 1, 2, 3, 4, 5, 6, 7, 8] rfl rfl (I1 := [(jFcd, jCD dC dI ca G0 none tq)]) [1] rfl rfl).more hb_205)).addIs hbE_20
          clear hh_16 ht_20 hvm_20 hz_20 hk_20 hS_20 hb_201 hb_202 hb_203 hb_204 hb_205
          clear  hbE_20
          obtain ⟨hr_21, hr_21p⟩ := hr_21
          obtain ⟨ret_22, rfl, hg_ret_22⟩ := hr_21
          refine va_castY hx hb hown (htw (.classLink RX11 71 "ProofServer$Document") (jWr_27 _ (List.mem_of_getElem? (i := 20) rfl))) hK7.2.2.1.1.2 (hh_20.recv (C := RX1) (T := TX1) (N := 17) hB3 rfl (by decide) hg_ret_22 hK) dX11_addressed_84 ?_
          rw [hQ]
          exact W.aret (v := .ref ret_22) hx hb hr (Or.inl ⟨_, rfl⟩) (Or.inr ⟨_, rfl⟩) (fun t ht hW => ⟨⟨.ref ret_22, (), rfl, ⟨Or.inr ⟨_, rfl, hg_ret_22⟩, ⟨Or.inr ⟨r_6.toInt, by omega, by omega, by omega, by omega⟩, by rw [← hi_7_2, jdF_y (by omega) (by rw [jdUx.at hat9, jdUl.at hat9, ← hr_17p_1]; omega)]; exact hr_21p.trans (if_neg (by omega)).symm⟩⟩, ⟨hh_20.rt (M1 := []) [] rfl ht, by rw [ht]; exact hh_20.2.2.2.2.2.2.2.2.sub (L1 := [(jFl, jLs dC dI ca G0 3 none wl), (jFcd, jCD dC dI ca G0 none tq)]) [0, 1] rfl⟩⟩, by rw [ht]; try exact hh_20.1.1, fun q h9 hq => by rw [ht]; try exact hh_20.1.2.1 q h9 hq⟩) hh_20.1.2.2 dX11_addressed_87
  exact L34 (sz.toInt - (0 : Int32).toInt : Int).toNat.succ 0 _ _ hh_5 (by refine ⟨by omega, by omega, ?_, by omega⟩; rw [hk0, ← hu9, hws, show (sz.toInt - 0).toNat = sz.toInt.toNat by omega]) (by omega) _ (lv_sub hl [2, 1, 0] rfl)
end
section
-- how long a message is at least that opens or changes a document
theorem jOr.or {p q : Prop} (h : jOr p q) : p ∨ q := h
end
section
theorem dX11_openDocument_0 : decode cX11_openDocument 0 = .ok (.aload_n 0, 1) := by decide +kernel
theorem dX11_openDocument_1 : decode cX11_openDocument 1 = .ok (.getfield 28, 3) := by decide +kernel
theorem dX11_openDocument_4 : decode cX11_openDocument 4 = .ok (.aload_n 0, 1) := by decide +kernel
theorem dX11_openDocument_5 : decode cX11_openDocument 5 = .ok (.getfield 28, 3) := by decide +kernel
theorem dX11_openDocument_8 : decode cX11_openDocument 8 = .ok (.iconst 0, 1) := by decide +kernel
theorem dX11_openDocument_9 : decode cX11_openDocument 9 = .ok (.ldc_w 271, 3) := by decide +kernel
theorem dX11_openDocument_12 : decode cX11_openDocument 12 = .ok (.invokevirtual 260, 3) := by decide +kernel
theorem dX11_openDocument_15 : decode cX11_openDocument 15 = .ok (.ldc_w 344, 3) := by decide +kernel
theorem dX11_openDocument_18 : decode cX11_openDocument 18 = .ok (.invokevirtual 260, 3) := by decide +kernel
theorem dX11_openDocument_21 : decode cX11_openDocument 21 = .ok (.istore_n 1, 1) := by decide +kernel
theorem dX11_openDocument_22 : decode cX11_openDocument 22 = .ok (.aload_n 0, 1) := by decide +kernel
theorem dX11_openDocument_23 : decode cX11_openDocument 23 = .ok (.getfield 28, 3) := by decide +kernel
theorem dX11_openDocument_26 : decode cX11_openDocument 26 = .ok (.iload_n 1, 1) := by decide +kernel
theorem dX11_openDocument_27 : decode cX11_openDocument 27 = .ok (.ldc_w 346, 3) := by decide +kernel
theorem dX11_openDocument_30 : decode cX11_openDocument 30 = .ok (.invokevirtual 260, 3) := by decide +kernel
theorem dX11_openDocument_33 : decode cX11_openDocument 33 = .ok (.istore_n 2, 1) := by decide +kernel
theorem dX11_openDocument_34 : decode cX11_openDocument 34 = .ok (.aload_n 0, 1) := by decide +kernel
theorem dX11_openDocument_35 : decode cX11_openDocument 35 = .ok (.getfield 28, 3) := by decide +kernel
theorem dX11_openDocument_38 : decode cX11_openDocument 38 = .ok (.iload_n 1, 1) := by decide +kernel
theorem dX11_openDocument_39 : decode cX11_openDocument 39 = .ok (.ldc_w 354, 3) := by decide +kernel
theorem dX11_openDocument_42 : decode cX11_openDocument 42 = .ok (.invokevirtual 260, 3) := by decide +kernel
theorem dX11_openDocument_45 : decode cX11_openDocument 45 = .ok (.istore_n 3, 1) := by decide +kernel
theorem dX11_openDocument_46 : decode cX11_openDocument 46 = .ok (.aload_n 0, 1) := by decide +kernel
theorem dX11_openDocument_47 : decode cX11_openDocument 47 = .ok (.getfield 28, 3) := by decide +kernel
theorem dX11_openDocument_50 : decode cX11_openDocument 50 = .ok (.iload_n 1, 1) := by decide +kernel
theorem dX11_openDocument_51 : decode cX11_openDocument 51 = .ok (.ldc_w 355, 3) := by decide +kernel
theorem dX11_openDocument_54 : decode cX11_openDocument 54 = .ok (.invokevirtual 260, 3) := by decide +kernel
theorem dX11_openDocument_57 : decode cX11_openDocument 57 = .ok (.istore 4, 2) := by decide +kernel
theorem dX11_openDocument_59 : decode cX11_openDocument 59 = .ok (.aload_n 0, 1) := by decide +kernel
theorem dX11_openDocument_60 : decode cX11_openDocument 60 = .ok (.getfield 28, 3) := by decide +kernel
theorem dX11_openDocument_63 : decode cX11_openDocument 63 = .ok (.iload_n 2, 1) := by decide +kernel
theorem dX11_openDocument_64 : decode cX11_openDocument 64 = .ok (.invokevirtual 283, 3) := by decide +kernel
theorem dX11_openDocument_67 : decode cX11_openDocument 67 = .ok (.iconst 3, 1) := by decide +kernel
theorem dX11_openDocument_68 : decode cX11_openDocument 68 = .ok (.if_icmp .ne 72, 3) := by decide +kernel
theorem dX11_openDocument_71 : decode cX11_openDocument 71 = .ok (.aload_n 0, 1) := by decide +kernel
theorem dX11_openDocument_72 : decode cX11_openDocument 72 = .ok (.getfield 28, 3) := by decide +kernel
theorem dX11_openDocument_75 : decode cX11_openDocument 75 = .ok (.iload_n 2, 1) := by decide +kernel
theorem dX11_openDocument_76 : decode cX11_openDocument 76 = .ok (.invokevirtual 356, 3) := by decide +kernel
theorem dX11_openDocument_79 : decode cX11_openDocument 79 = .ok (.iconst 1, 1) := by decide +kernel
theorem dX11_openDocument_80 : decode cX11_openDocument 80 = .ok (.if_icmp .lt 60, 3) := by decide +kernel
theorem dX11_openDocument_83 : decode cX11_openDocument 83 = .ok (.aload_n 0, 1) := by decide +kernel
theorem dX11_openDocument_84 : decode cX11_openDocument 84 = .ok (.getfield 28, 3) := by decide +kernel
theorem dX11_openDocument_87 : decode cX11_openDocument 87 = .ok (.iload_n 2, 1) := by decide +kernel
theorem dX11_openDocument_88 : decode cX11_openDocument 88 = .ok (.invokevirtual 356, 3) := by decide +kernel
theorem dX11_openDocument_91 : decode cX11_openDocument 91 = .ok (.bipush 40, 2) := by decide +kernel
theorem dX11_openDocument_93 : decode cX11_openDocument 93 = .ok (.if_icmp .gt 47, 3) := by decide +kernel
theorem dX11_openDocument_96 : decode cX11_openDocument 96 = .ok (.aload_n 0, 1) := by decide +kernel
theorem dX11_openDocument_97 : decode cX11_openDocument 97 = .ok (.getfield 28, 3) := by decide +kernel
theorem dX11_openDocument_100 : decode cX11_openDocument 100 = .ok (.iload_n 3, 1) := by decide +kernel
theorem dX11_openDocument_101 : decode cX11_openDocument 101 = .ok (.invokevirtual 283, 3) := by decide +kernel
theorem dX11_openDocument_104 : decode cX11_openDocument 104 = .ok (.iconst 4, 1) := by decide +kernel
theorem dX11_openDocument_105 : decode cX11_openDocument 105 = .ok (.if_icmp .ne 35, 3) := by decide +kernel
theorem dX11_openDocument_108 : decode cX11_openDocument 108 = .ok (.aload_n 0, 1) := by decide +kernel
theorem dX11_openDocument_109 : decode cX11_openDocument 109 = .ok (.getfield 28, 3) := by decide +kernel
theorem dX11_openDocument_112 : decode cX11_openDocument 112 = .ok (.iload 4, 2) := by decide +kernel
theorem dX11_openDocument_114 : decode cX11_openDocument 114 = .ok (.invokevirtual 283, 3) := by decide +kernel
theorem dX11_openDocument_117 : decode cX11_openDocument 117 = .ok (.iconst 3, 1) := by decide +kernel
theorem dX11_openDocument_118 : decode cX11_openDocument 118 = .ok (.if_icmp .ne 22, 3) := by decide +kernel
theorem dX11_openDocument_121 : decode cX11_openDocument 121 = .ok (.aload_n 0, 1) := by decide +kernel
theorem dX11_openDocument_122 : decode cX11_openDocument 122 = .ok (.getfield 28, 3) := by decide +kernel
theorem dX11_openDocument_125 : decode cX11_openDocument 125 = .ok (.iload 4, 2) := by decide +kernel
theorem dX11_openDocument_127 : decode cX11_openDocument 127 = .ok (.invokevirtual 356, 3) := by decide +kernel
theorem dX11_openDocument_130 : decode cX11_openDocument 130 = .ok (.sipush 1500, 3) := by decide +kernel
theorem dX11_openDocument_133 : decode cX11_openDocument 133 = .ok (.if_icmp .gt 7, 3) := by decide +kernel
theorem dX11_openDocument_136 : decode cX11_openDocument 136 = .ok (.iconst 1, 1) := by decide +kernel
theorem dX11_openDocument_137 : decode cX11_openDocument 137 = .ok (.goto 4, 3) := by decide +kernel
theorem dX11_openDocument_140 : decode cX11_openDocument 140 = .ok (.iconst 0, 1) := by decide +kernel
theorem dX11_openDocument_141 : decode cX11_openDocument 141 = .ok (.istore 5, 2) := by decide +kernel
theorem dX11_openDocument_143 : decode cX11_openDocument 143 = .ok (.iload 5, 2) := by decide +kernel
theorem dX11_openDocument_145 : decode cX11_openDocument 145 = .ok (.ifCond .eq 23, 3) := by decide +kernel
theorem dX11_openDocument_148 : decode cX11_openDocument 148 = .ok (.aload_n 0, 1) := by decide +kernel
theorem dX11_openDocument_149 : decode cX11_openDocument 149 = .ok (.invokevirtual 359, 3) := by decide +kernel
theorem dX11_openDocument_152 : decode cX11_openDocument 152 = .ok (.ifnonnull 16, 3) := by decide +kernel
theorem dX11_openDocument_155 : decode cX11_openDocument 155 = .ok (.aload_n 0, 1) := by decide +kernel
theorem dX11_openDocument_156 : decode cX11_openDocument 156 = .ok (.getfield 61, 3) := by decide +kernel
theorem dX11_openDocument_159 : decode cX11_openDocument 159 = .ok (.invokeinterface 142 1, 5) := by decide +kernel
theorem dX11_openDocument_164 : decode cX11_openDocument 164 = .ok (.iconst 3, 1) := by decide +kernel
theorem dX11_openDocument_165 : decode cX11_openDocument 165 = .ok (.if_icmp .lt 4, 3) := by decide +kernel
theorem dX11_openDocument_168 : decode cX11_openDocument 168 = .ok (.return_, 1) := by decide +kernel
theorem dX11_openDocument_169 : decode cX11_openDocument 169 = .ok (.new 71, 3) := by decide +kernel
theorem dX11_openDocument_172 : decode cX11_openDocument 172 = .ok (.dup, 1) := by decide +kernel
theorem dX11_openDocument_173 : decode cX11_openDocument 173 = .ok (.invokespecial 81, 3) := by decide +kernel
theorem dX11_openDocument_176 : decode cX11_openDocument 176 = .ok (.astore 6, 2) := by decide +kernel
theorem dX11_openDocument_178 : decode cX11_openDocument 178 = .ok (.aload 6, 2) := by decide +kernel
theorem dX11_openDocument_180 : decode cX11_openDocument 180 = .ok (.aload_n 0, 1) := by decide +kernel
theorem dX11_openDocument_181 : decode cX11_openDocument 181 = .ok (.getfield 28, 3) := by decide +kernel
theorem dX11_openDocument_184 : decode cX11_openDocument 184 = .ok (.iload_n 2, 1) := by decide +kernel
theorem dX11_openDocument_185 : decode cX11_openDocument 185 = .ok (.invokevirtual 363, 3) := by decide +kernel
theorem dX11_openDocument_188 : decode cX11_openDocument 188 = .ok (.putfield 348, 3) := by decide +kernel
theorem dX11_openDocument_191 : decode cX11_openDocument 191 = .ok (.aload 6, 2) := by decide +kernel
theorem dX11_openDocument_193 : decode cX11_openDocument 193 = .ok (.aload_n 0, 1) := by decide +kernel
theorem dX11_openDocument_194 : decode cX11_openDocument 194 = .ok (.getfield 28, 3) := by decide +kernel
theorem dX11_openDocument_197 : decode cX11_openDocument 197 = .ok (.iload_n 3, 1) := by decide +kernel
theorem dX11_openDocument_198 : decode cX11_openDocument 198 = .ok (.invokevirtual 367, 3) := by decide +kernel
theorem dX11_openDocument_201 : decode cX11_openDocument 201 = .ok (.putfield 162, 3) := by decide +kernel
theorem dX11_openDocument_204 : decode cX11_openDocument 204 = .ok (.aload 6, 2) := by decide +kernel
theorem dX11_openDocument_206 : decode cX11_openDocument 206 = .ok (.iconst 0, 1) := by decide +kernel
theorem dX11_openDocument_207 : decode cX11_openDocument 207 = .ok (.iconst 0, 1) := by decide +kernel
theorem dX11_openDocument_208 : decode cX11_openDocument 208 = .ok (.aload_n 0, 1) := by decide +kernel
theorem dX11_openDocument_209 : decode cX11_openDocument 209 = .ok (.getfield 28, 3) := by decide +kernel
theorem dX11_openDocument_212 : decode cX11_openDocument 212 = .ok (.iload 4, 2) := by decide +kernel
theorem dX11_openDocument_214 : decode cX11_openDocument 214 = .ok (.invokevirtual 370, 3) := by decide +kernel
theorem dX11_openDocument_217 : decode cX11_openDocument 217 = .ok (.pop, 1) := by decide +kernel
theorem dX11_openDocument_218 : decode cX11_openDocument 218 = .ok (.aload 6, 2) := by decide +kernel
theorem dX11_openDocument_220 : decode cX11_openDocument 220 = .ok (.aload_n 0, 1) := by decide +kernel
theorem dX11_openDocument_221 : decode cX11_openDocument 221 = .ok (.getfield 41, 3) := by decide +kernel
theorem dX11_openDocument_224 : decode cX11_openDocument 224 = .ok (.getfield 203, 3) := by decide +kernel
theorem dX11_openDocument_227 : decode cX11_openDocument 227 = .ok (.invokevirtual 207, 3) := by decide +kernel
theorem dX11_openDocument_230 : decode cX11_openDocument 230 = .ok (.aload_n 0, 1) := by decide +kernel
theorem dX11_openDocument_231 : decode cX11_openDocument 231 = .ok (.getfield 61, 3) := by decide +kernel
theorem dX11_openDocument_234 : decode cX11_openDocument 234 = .ok (.aload 6, 2) := by decide +kernel
theorem dX11_openDocument_236 : decode cX11_openDocument 236 = .ok (.invokeinterface 374 2, 5) := by decide +kernel
theorem dX11_openDocument_241 : decode cX11_openDocument 241 = .ok (.pop, 1) := by decide +kernel
theorem dX11_openDocument_242 : decode cX11_openDocument 242 = .ok (.aload 6, 2) := by decide +kernel
theorem dX11_openDocument_244 : decode cX11_openDocument 244 = .ok (.getfield 171, 3) := by decide +kernel
theorem dX11_openDocument_247 : decode cX11_openDocument 247 = .ok (.aload 6, 2) := by decide +kernel
theorem dX11_openDocument_249 : decode cX11_openDocument 249 = .ok (.getfield 168, 3) := by decide +kernel
theorem dX11_openDocument_252 : decode cX11_openDocument 252 = .ok (.if_icmp .ne 10, 3) := by decide +kernel
theorem dX11_openDocument_255 : decode cX11_openDocument 255 = .ok (.aload_n 0, 1) := by decide +kernel
theorem dX11_openDocument_256 : decode cX11_openDocument 256 = .ok (.aload 6, 2) := by decide +kernel
theorem dX11_openDocument_258 : decode cX11_openDocument 258 = .ok (.iconst 1, 1) := by decide +kernel
theorem dX11_openDocument_259 : decode cX11_openDocument 259 = .ok (.invokevirtual 378, 3) := by decide +kernel
theorem dX11_openDocument_262 : decode cX11_openDocument 262 = .ok (.return_, 1) := by decide +kernel
end
