section
def EX11_requestU : List (Nat × Nat) := [(1, 0), (1, 1), (1, 2), (2, 0), (2, 1), (8, 3), (9, 2), (10, 1), (10, 2), (10, 3), (10, 4), (13, 11), (13, 14), (101, 0), (102, 0), (132, 0), (133, 0), (196, 0), (221, 0), (222, 0), (223, 0), (286, 0), (287, 0), (288, 0)]
set_option maxHeartbeats 4000000 in
set_option maxRecDepth 20000 in
theorem uX11_requestU (l : Launch) (dC : Nat → ClassId) (dI : Nat → Nat → Nat) (ca : Nat → ClassId) (base : Nat) (B : jF) (hB : jBok B) (hAp : jAp (dC, dI)) (hB1 : ∀ n G a H, B 1 n G a H ↔ jOb (dC, dI) 1 3 (F1 n G) a H) (hB2 : ∀ n G a H, B 2 n G a H ↔ jOb (dC, dI) 2 2 (F2 n G) a H) (hB3 : ∀ n G a H, B 3 n G a H ↔ jOb (dC, dI) 3 17 (F3 n G) a H) (hB4 : ∀ n G a H, B 4 n G a H ↔ jOb (dC, dI) 4 12 (F4 n G) a H) (hB5 : ∀ n G a H, B 5 n G a H ↔ jOb (dC, dI) 5 4 (F5 n G) a H) (hB6 : ∀ n G a H, B 6 n G a H ↔ jOb (dC, dI) 6 12 (F6 n G) a H) (hB7 : ∀ n G a H, B 7 n G a H ↔ jOb (dC, dI) 7 11 (F7 n G) a H) (hB8 : ∀ n G a H, B 8 n G a H ↔ jOb (dC, dI) 8 4 (F8 n G) a H) (hB9 : ∀ n G a H, B 9 n G a H ↔ jOb (dC, dI) 9 5 (F9b n G) a H) (hB10 : ∀ n G a H, B 10 n G a H ↔ jOb (dC, dI) 10 5 (F10 n G) a H) (hB11 : ∀ n G a H, B 11 n G a H ↔ jOb (dC, dI) 11 9 (F11 n G) a H) (hB13 : ∀ n G a H, B 13 n G a H ↔ jOb (dC, dI) 13 19 (F13 n G) a H) (hB101 : ∀ n G a H, B 101 n G a H ↔ jAr (dC, dI) (ca 1) (fun j z => True) n a H) (hB102 : ∀ n G a H, B 102 n G a H ↔ jAl (dC, dI) (ca 2) n a H) (hB132 : ∀ n G a H, B 132 n G a H ↔ jAr (dC, dI) (ca 1) (fun j z => 0 ≤ z.toInt ∧ z.toInt ≤ 10) n a H) (hB133 : ∀ n G a H, B 133 n G a H ↔ jAr (dC, dI) (ca 1) (fun j z => 0 ≤ z.toInt ∧ z.toInt ≤ 8192) n a H) (hB140 : ∀ n G a H, B 140 n G a H ↔ jAr (dC, dI) (ca 1) (fun j z => True) n a H) (hB141 : ∀ n G a H, B 141 n G a H ↔ jAr (dC, dI) (ca 1) (fun j z => True) n a H) (hB142 : ∀ n G a H, B 142 n G a H ↔ jAr (dC, dI) (ca 1) (fun j z => True) n a H) (hB143 : ∀ n G a H, B 143 n G a H ↔ jAr (dC, dI) (ca 1) (fun j z => True) n a H) (hB144 : ∀ n G a H, B 144 n G a H ↔ jAr (dC, dI) (ca 1) (fun j z => 0 ≤ z.toInt ∧ z.toInt ≤ 3000) n a H) (hB145 : ∀ n G a H, B 145 n G a H ↔ jAr (dC, dI) (ca 1) (fun j z => True) n a H) (hB146 : ∀ n G a H, B 146 n G a H ↔ jAr (dC, dI) (ca 1) (fun j z => True) n a H) (hB172 : ∀ n G a H, B 172 n G a H ↔ jAr (dC, dI) (ca 1) (fun j z => 0 ≤ z.toInt ∧ z.toInt ≤ 1500) n a H) (hB173 : ∀ n G a H, B 173 n G a H ↔ jAr (dC, dI) (ca 1) (fun j z => True) n a H) (hB174 : ∀ n G a H, B 174 n G a H ↔ jAr (dC, dI) (ca 1) (fun j z => True) n a H) (hB196 : ∀ n G a H, B 196 n G a H ↔ jAr (dC, dI) (ca 0) (fun j z => jBf j z) n a H) (hB210 : ∀ n G a H, B 210 n G a H ↔ jAq (dC, dI) (ca 6) (jQn 11 0) n G a H) (hB214 : ∀ n G a H, B 214 n G a H ↔ jAq (dC, dI) (ca 7) (jQg) n G a H) (hB221 : ∀ n G a H, B 221 n G a H ↔ jAq (dC, dI) (ca 9) (jQn 3 0) n G a H) (hB222 : ∀ n G a H, B 222 n G a H ↔ jAq (dC, dI) (ca 9) (jQn 10 0) n G a H) (hB280 : ∀ n G a H, B 280 n G a H ↔ jAr (dC, dI) (ca 1) (fun j z => -1 ≤ z.toInt) n a H) (hB286 : ∀ n G a H, B 286 n G a H ↔ jAr (dC, dI) (ca 1) (fun j z => (0 ≤ z.toInt ∨ z.toInt = -3)) n a H) (hB287 : ∀ n G a H, B 287 n G a H ↔ jAr (dC, dI) (ca 1) (fun j z => 0 ≤ z.toInt ∧ z.toInt ≤ 65535) n a H) (hB288 : ∀ n G a H, B 288 n G a H ↔ jAr (dC, dI) (ca 1) (fun j z => 0 ≤ z.toInt ∧ z.toInt ≤ 160) n a H) (hB313 : ∀ n G a H, B 313 n G a H ↔ jAq (dC, dI) (ca 8) (jQk 280 80) n G a H) (G0 : jT) (H0 : Heap) (r0 : Nat) (r1 : Nat) (bo : Nat) (pc : Int32) (pa : Nat) (n_pa : Nat) (ou : Nat) (js : Nat) (pv : Int32) (pu : Int32) (wk : Nat) (wi : Nat) (wz : Nat) (jnx : Nat) (jkf : Nat) (jks : Nat) (jun : Nat) (pz : Int32) (wl : jWl9) (T9 : Nat → Int → Int) (fk : Nat → Int32) (fi : Nat → Int32) (fz : Nat → Int32) (fn : Nat → Int32) (fa : Nat → Int32) (fs : Nat → Int32) (fu : Nat → Int32) (LC LS : Nat) : Met l yX11_request (jw yX11_request cX11_request 4 none) ({ frames := 9, cells := LC - H0.size, slots := LS - jTot H0, locals := 263 }) (va_Pc [.ref r0, .ref r1] (fun U => U.heap = H0 ∧ jX B base G0 [] H0 ∧ jG dC dI ca base U ∧ jK2 dC dI ca U ∧ jK5 dC dI ca U ∧ jK7 dC dI ca base U ∧ G0 r0 = some (13, 0) ∧ G0 r1 = some (10, 0) ∧ G0 bo = some (2, 0) ∧ G0 pa = some (196, n_pa) ∧ G0 ou = some (2, 20000) ∧ G0 js = some (6, 0) ∧ G0 wk = some (140, 1502) ∧ G0 wi = some (141, 1502) ∧ G0 wz = some (142, 1502) ∧ G0 jnx = some (143, 1502) ∧ G0 jkf = some (144, 1502) ∧ G0 jks = some (145, 1502) ∧ G0 jun = some (146, 3000) ∧ jP (dC, dI) G0 H0 [(r0, 13, 4, .ref bo), (bo, 2, 1, .int pc), (bo, 2, 0, .ref pa), (r0, 13, 3, .ref ou), (r0, 13, 2, .ref js), (js, 6, 7, .int pv), (js, 6, 8, .int pu), (js, 6, 0, .ref wk), (js, 6, 1, .ref wi), (js, 6, 2, .ref wz), (js, 6, 3, .ref jnx), (js, 6, 4, .ref jkf), (js, 6, 5, .ref jks), (js, 6, 6, .ref jun), (r0, 13, 11, .int pz)] ∧ jMc (dC, dI) G0 H0 [(wk, 140, 1502, ca 1, fk), (wi, 141, 1502, ca 1, fi), (wz, 142, 1502, ca 1, fz), (jnx, 143, 1502, ca 1, fn), (jkf, 144, 1502, ca 1, fa), (jks, 145, 1502, ca 1, fs), (jun, 146, 3000, ca 1, fu)] ∧ jIs (dC, dI) G0 H0 [(jFy, jYb dC dI G0), (jFs11, jSef dC dI G0), (jFl, jLs dC dI ca G0 3 none wl)] ∧ H0.size + (1048576 - n_pa) / 16 + 4 ≤ LC ∧ jTot H0 + 2 * (1048576 - n_pa) + 3100 ≤ LS ∧ 0 ≤ pc.toInt ∧ pc.toInt ≤ n_pa ∧ 16 ≤ n_pa ∧ n_pa ≤ 1048576 ∧ jPw n_pa ∧ 0 ≤ pv.toInt ∧ pv.toInt ≤ 1502 ∧ 0 ≤ pu.toInt ∧ pu.toInt ≤ 3000 ∧ jJq fk fi fz pv.toInt ∧ jJu fk fz pv.toInt pu.toInt ∧ jjTC T9 pv.toInt pu.toInt fk fi fz fn fa fs fu ∧ jqR fk fi fz fa fs pv.toInt pu.toInt ∧ jjCo T9 0 pv.toInt ∧ 0 ≤ pz.toInt ∧ pz.toInt ≤ 2)) (va_Qv (S := Int32 × Int32 × Nat × Nat × jT) (fun u => 0 ≤ u.1.toInt ∧ u.1.toInt ≤ u.2.2.2.1 ∧ n_pa ≤ u.2.2.2.1 ∧ u.2.2.2.1 ≤ 1048576 ∧ jPw u.2.2.2.1 ∧ u.2.1.toInt = jdRq T9 pv.toInt pz.toInt) (fun u t => jRa (dC, dI) B base G0 u.2.2.2.2 EX11_requestU H0 ((u.2.2.2.1 - n_pa) / 16 + 2) (2 * (u.2.2.2.1 - n_pa) + 40 + pu.toInt.toNat) [(bo, 2, 1, .int u.1), (r0, 13, 11, .int u.2.1), (bo, 2, 0, .ref u.2.2.1)] t.heap ∧ u.2.2.2.2 u.2.2.1 = some (196, u.2.2.2.1) ∧ (jNk [0, 1, 2, 3, 4, 5, 6, 7, 8, 9, 10, 11, 12, 13, 14, 15, 16]) G0 u.2.2.2.2 ∧ jOl (dC, dI) G0 2 [bo, ou] H0 t.heap ∧ jIs (dC, dI) u.2.2.2.2 t.heap [(jFy, jYb dC dI u.2.2.2.2), (jFs11, jSef dC dI u.2.2.2.2), (jFl, jLs dC dI ca u.2.2.2.2 3 none wl)]) (jA base)) (LC - H0.size) (LS - jTot H0) (jA base) := by
  refine Met.ofW (cc := cX11_request) (maxL := 4) (ret := none) (by decide) rfl ?_
  intro p e s m args below meth c s₁ Bd hml hv
  obtain ⟨rfl, hH0, hX, hG, hK2, hK5, hK7, hg_r0, hg_r1, hg_bo, hg_pa, hg_ou, hg_js, hg_wk, hg_wi, hg_wz, hg_jnx, hg_jkf, hg_jks, hg_jun, hP0, hM0, hI0, hLC0, hLS0, hp0, hp1, hp2, hp3, hp4, hp5, hp6, hp7, hp8, hp9, hp10, hp11, hp12, hp13, hp14, hp15⟩ := hv
  have hK := hG.1
  have hx := Bd.exec
  have hb := Bd.bytes
  have hr := Bd.returns
  have hts := atoms_spec (ws := (jw yX11_request cX11_request 4 none)) Bd.pre
  have htw : ∀ w ∈ jWl, w.before _ s = true := fun w h => hts w (List.mem_cons_of_mem _ h)
  have hown : s.vm.findClass RX11 = some m.cls := findClass_of_methodNamed Bd.named
  have hlocks := Bd.notSynchronized
  obtain ⟨Q, hQ⟩ : ∃ Q, Q = MQ below (va_Qv (S := Int32 × Int32 × Nat × Nat × jT) (fun u => 0 ≤ u.1.toInt ∧ u.1.toInt ≤ u.2.2.2.1 ∧ n_pa ≤ u.2.2.2.1 ∧ u.2.2.2.1 ≤ 1048576 ∧ jPw u.2.2.2.1 ∧ u.2.1.toInt = jdRq T9 pv.toInt pz.toInt) (fun u t => jRa (dC, dI) B base G0 u.2.2.2.2 EX11_requestU H0 ((u.2.2.2.1 - n_pa) / 16 + 2) (2 * (u.2.2.2.1 - n_pa) + 40 + pu.toInt.toNat) [(bo, 2, 1, .int u.1), (r0, 13, 11, .int u.2.1), (bo, 2, 0, .ref u.2.2.1)] t.heap ∧ u.2.2.2.2 u.2.2.1 = some (196, u.2.2.2.1) ∧ (jNk [0, 1, 2, 3, 4, 5, 6, 7, 8, 9, 10, 11, 12, 13, 14, 15, 16]) G0 u.2.2.2.2 ∧ jOl (dC, dI) G0 2 [bo, ou] H0 t.heap ∧ jIs (dC, dI) u.2.2.2.2 t.heap [(jFy, jYb dC dI u.2.2.2.2), (jFs11, jSef dC dI u.2.2.2.2), (jFl, jLs dC dI ca u.2.2.2.2 3 none wl)]) (jA base)) ([.ref r0, .ref r1] : List Value).toArray s (LC - H0.size) (LS - jTot H0) (jA base) := ⟨_, rfl⟩
  rw [← hQ]
  have hl := lv_entry ([.ref r0, .ref r1]) (n := 4) (Nat.le_of_ble_eq_true rfl)
  rw [lg_entry_eq]
  generalize (lg_sl ([.ref r0, .ref r1]) ++ List.replicate (4 - (lg_sl ([.ref r0, .ref r1])).length) Slot.unset).toArray = ls at hl ⊢
  have hl : lv_has ls 4 [(0, .ref r0), (1, .ref r1)] := hl
  generalize hR : (headSpec (jw yX11_request cX11_request 4 none) ({ frames := 9, cells := LC - H0.size, slots := LS - jTot H0, locals := 263 })).room = R
  subst hH0
  have hh : jSt (dC, dI) B base G0 G0 EX11_requestU s.heap 0 0 [(r0, 13, 4, .ref bo), (bo, 2, 1, .int pc), (bo, 2, 0, .ref pa), (r0, 13, 3, .ref ou), (r0, 13, 2, .ref js), (js, 6, 7, .int pv), (js, 6, 8, .int pu), (js, 6, 0, .ref wk), (js, 6, 1, .ref wi), (js, 6, 2, .ref wz), (js, 6, 3, .ref jnx), (js, 6, 4, .ref jkf), (js, 6, 5, .ref jks), (js, 6, 6, .ref jun), (r0, 13, 11, .int pz)] [(wk, 140, 1502, ca 1, fk), (wi, 141, 1502, ca 1, fi), (wz, 142, 1502, ca 1, fz), (jnx, 143, 1502, ca 1, fn), (jkf, 144, 1502, ca 1, fa), (jks, 145, 1502, ca 1, fs), (jun, 146, 3000, ca 1, fu)] [(jFy, jYb dC dI G0), (jFs11, jSef dC dI G0), (jFl, jLs dC dI ca G0 3 none wl)] s.heap [] := jSt.start hX hP0 hM0 hI0
  clear hX hP0
  have hkm32601 : ((-32601) : Int32).toInt = (-32601) := by decide
  have hkm32600 : ((-32600) : Int32).toInt = (-32600) := by decide
  have hkm32002 : ((-32002) : Int32).toInt = (-32002) := by decide
  have hk0 : (0 : Int32).toInt = 0 := by decide
  have hk1 : (1 : Int32).toInt = 1 := by decide
  have hk2 : (2 : Int32).toInt = 2 := by decide
  have hly_13_2 := htw (u_lay RX11 TX11 2) (jWc_wsX110 _ (u_in_lay (by decide)))
  have hly_13_4 := htw (u_lay RX11 TX11 4) (jWc_wsX110 _ (u_in_lay (by decide)))
  have hly_13_11 := htw (u_lay RX11 TX11 11) (jWc_wsX110 _ (u_in_lay (by decide)))
  have hlk_28 := (htw (.fieldLink RX11 28 "ProofServer" "json" "LProofServer$Json;") (jWr_1 _ (List.mem_of_getElem? (i := 23) rfl)))
  obtain ⟨str281, rstr281, hstr2810⟩ := hG.strT (o := RX11) (k := 281) (tx := "method") (List.mem_of_getElem? (i := 859) (by decide +kernel))
  have hTstr281 : jStrF base str281 6 (jChT "method") s s.heap := hstr2810.F (by decide +kernel)
  have hstr281 : jStr base str281 6 s s.heap := hTstr281.str
  obtain ⟨str287, rstr287, hstr2870⟩ := hG.strT (o := RX11) (k := 287) (tx := qtx865) (List.mem_of_getElem? (i := 865) (by decide +kernel))
  have hTstr287 : jStrF base str287 10 (jChT qtx865) s s.heap := hstr2870.F (by decide +kernel)
  have hstr287 : jStr base str287 10 s s.heap := hTstr287.str
  have hlk_77 := (htw (.fieldLink RX11 77 "ProofServer" "phase" "I") (jWr_2 _ (List.mem_of_getElem? (i := 19) rfl)))
  obtain ⟨str289, rstr289, hstr2890⟩ := hG.strT (o := RX11) (k := 289) (tx := ",\"result\":") (List.mem_of_getElem? (i := 866) (by decide +kernel))
  have hTstr289 : jStrF base str289 10 (jChT ",\"result\":") s s.heap := hstr2890.F (by decide +kernel)
  have hstr289 : jStr base str289 10 s s.heap := hTstr289.str
  have hlk_35 := (htw (.fieldLink RX11 35 "ProofServer" "body" "LProofServer$Bytes;") (jWr_2 _ (List.mem_of_getElem? (i := 1) rfl)))
  obtain ⟨str295, rstr295, hstr2950⟩ := hG.strT (o := RX11) (k := 295) (tx := "{\"capabilities\":{\"textDocumentSync\":2}}}") (List.mem_of_getElem? (i := 867) (by decide +kernel))
  have hTstr295 : jStrF base str295 40 (jChT "{\"capabilities\":{\"textDocumentSync\":2}}}") s s.heap := hstr2950.F (by decide +kernel)
  have hstr295 : jStr base str295 40 s s.heap := hTstr295.str
  obtain ⟨str303, rstr303, hstr3030⟩ := hG.strT (o := RX11) (k := 303) (tx := "shutdown") (List.mem_of_getElem? (i := 868) (by decide +kernel))
  have hTstr303 : jStrF base str303 8 (jChT "shutdown") s s.heap := hstr3030.F (by decide +kernel)
  have hstr303 : jStr base str303 8 s s.heap := hTstr303.str
  obtain ⟨str305, rstr305, hstr3050⟩ := hG.strT (o := RX11) (k := 305) (tx := "null}") (List.mem_of_getElem? (i := 869) (by decide +kernel))
  have hTstr305 : jStrF base str305 5 (jChT "null}") s s.heap := hstr3050.F (by decide +kernel)
  have hstr305 : jStr base str305 5 s s.heap := hTstr305.str
  obtain ⟨str307, rstr307, hstr3070⟩ := hG.strT (o := RX11) (k := 307) (tx := "proof/goals") (List.mem_of_getElem? (i := 870) (by decide +kernel))
  have hTstr307 : jStrF base str307 11 (jChT "proof/goals") s s.heap := hstr3070.F (by decide +kernel)
  have hstr307 : jStr base str307 11 s s.heap := hTstr307.str
  obtain ⟨str317, rstr317, hstr3170⟩ := hG.strT (o := RX11) (k := 317) (tx := "proof/statement") (List.mem_of_getElem? (i := 1083) (by decide +kernel))
  have hTstr317 : jStrF base str317 15 (jChT "proof/statement") s s.heap := hstr3170.F (by decide +kernel)
  have hstr317 : jStr base str317 15 s s.heap := hTstr317.str
  have hbs : base ≤ s.heap.size := Nat.le_of_lt (Nat.lt_of_le_of_lt (hh.ab hg_r0).1 (hh.ab hg_r0).2)
  have hRc : R.cells = LC - s.heap.size := by rw [← hR]; rfl
  have hRs : R.slots = LS - jTot s.heap := by rw [← hR]; rfl
  have hh_1 := hh.addI (jOl.ie (dC := dC) (dI := dI) (G0 := G0) (k := 2) (rs := [bo, ou]) (H0 := s.heap) (F := [(2, 0), (2, 1)]) (C := RX0) (T := TX0) (N := 2) rfl (by decide) hh.2.2.2.2.1 (jOl.rf))
  clear hh
  refine lv_aload_n hx hb dX11_request_0 rfl (lv_at hl 0 rfl) ?_
  refine j7_read hx hb hown hK (C := RX11) (T := TX11) (N := 19) rfl hly_13_2 hlk_28 (hh_1.at 4 rfl) dX11_request_1 ?_
  refine lv_iconst (v := 0) hx hb dX11_request_4 (by decide) ?_
  refine j_ldcSw hx hb hown rstr281 dX11_request_5 ?_
  have hsz_2 := hh_1.2.2.2.2.2.1
  have htt_2 := hh_1.2.2.2.2.2.2.1
  refine W.room (fun hrc_2 hrs_2 => ?_)
  refine va_calli (A0 := jA base) (H0 := s.heap) (va_runV (As := [.int 0, .ref str281]) (rest := []) ⟨hx, hb, hml, hown, hts⟩ (uX4_memberJ l dC dI ca base B hB hAp hB6 hB140 hB141 hB142 hB143 hB144 hB145 hB146 G0 s.heap js 0 str281 6 (jChT "method") pv pu wk wi wz jnx jkf jks jun T9 fk fi fz fn fa fs fu) (cwV 2 hts (jgV (jWr_23 _ (List.mem_of_getElem? (i := 10) rfl)) (jWr_23 _ (List.mem_of_getElem? (i := 11) rfl)) (jWr_23 _ (List.mem_of_getElem? (i := 12) rfl)) (jWr_1 _ (List.mem_of_getElem? (i := 22) rfl)) (jWr_23 _ (List.mem_of_getElem? (i := 13) rfl))) rfl rfl rfl (by decide +kernel) ⟨by rw [← hR]; exact Nat.le_of_ble_eq_true rfl, by rw [← hR]; exact Nat.le_of_ble_eq_true rfl⟩) ⟨fun a U g mk q => by obtain ⟨q0, q1, q2, qK, q10, q11, q12, q13, q14, q15, q16, q17, q18, q19, q20, q21⟩ := q; exact ⟨q0, q1, q2, jG.calling g mk a qK, (q10.moved (Vm.Alike.refl U.vm)), q11, q12, q13, q14, q15, q16, q17, q18, q19, q20, q21⟩, hh_1.recv (C := RX4) (T := TX4) (N := 12) hB6 rfl (by decide) hg_js hK, fun U hU hW => ⟨rfl, hU, hh_1.2.1, hG.step hW hU hh_1.1, (hTstr281.moved hW.alike).kept hh_1.1.2.1, hg_js, hg_wk, hg_wi, hg_wz, hg_jnx, hg_jkf, hg_jks, hg_jun, (hh_1.2.2.1.sub (L1 := [(js, 6, 7, .int pv), (js, 6, 8, .int pu), (js, 6, 0, .ref wk), (js, 6, 1, .ref wi), (js, 6, 2, .ref wz), (js, 6, 3, .ref jnx), (js, 6, 4, .ref jkf), (js, 6, 5, .ref jks), (js, 6, 6, .ref jun)]) [5, 6, 7, 8, 9, 10, 11, 12, 13] rfl), (hh_1.2.2.2.2.2.2.2.1.sub (L1 := [(wk, 140, 1502, ca 1, fk), (wi, 141, 1502, ca 1, fi), (wz, 142, 1502, ca 1, fz), (jnx, 143, 1502, ca 1, fn), (jkf, 144, 1502, ca 1, fa), (jks, 145, 1502, ca 1, fs), (jun, 146, 3000, ca 1, fu)]) [0, 1, 2, 3, 4, 5, 6] rfl), ⟨(by first | omega | rfl | assumption | fail), (by first | omega | rfl | assumption | fail), (by first | omega | rfl | assumption | fail), (by first | omega | rfl | assumption | fail), (by first | assumption | fail | omega), (by first | omega | rfl | assumption | fail), (by first | assumption | fail | omega), (by first | assumption | fail | omega)⟩⟩⟩ rfl rfl hl.1 rfl (lv_room (Nat.le_of_ble_eq_true rfl)) dX11_request_8 ⟨by rw [hRc]; show _ + 0 ≤ _; omega, by rw [hRs]; show _ + 0 ≤ _; omega⟩) hh_1.1 (fun q _ h => h) (fun q h => h) (fun r_3 u_2 t_2 H_2 locs_2 ht_2 hvm_2 hr_3 hb_2 hz_2 hk_2 hS_2 => ?_)
  rw [ht_2] at hb_2
  obtain ⟨hb_2, hbF_2⟩ := hb_2
  obtain ⟨hb_21, hb_22, hb_23, hb_24, hb_25⟩ := hb_2
  have hh_2 : jSt (dC, dI) B base G0 G0 EX11_requestU s.heap 0 0 [(r0, 13, 4, .ref bo), (bo, 2, 1, .int pc), (bo, 2, 0, .ref pa), (r0, 13, 3, .ref ou), (r0, 13, 2, .ref js), (js, 6, 7, .int pv), (js, 6, 8, .int pu), (js, 6, 0, .ref wk), (js, 6, 1, .ref wi), (js, 6, 2, .ref wz), (js, 6, 3, .ref jnx), (js, 6, 4, .ref jkf), (js, 6, 5, .ref jks), (js, 6, 6, .ref jun), (r0, 13, 11, .int pz)] [(wk, 140, 1502, ca 1, fk), (wi, 141, 1502, ca 1, fi), (wz, 142, 1502, ca 1, fz), (jnx, 143, 1502, ca 1, fn), (jkf, 144, 1502, ca 1, fa), (jks, 145, 1502, ca 1, fs), (jun, 146, 3000, ca 1, fu)] [([(2, 0), (2, 1)], jOl (dC, dI) G0 2 [bo, ou] s.heap), (jFy, jYb dC dI G0), (jFs11, jSef dC dI G0), (jFl, jLs dC dI ca G0 3 none wl)] H_2 locs_2 := ((hh_1.call hb_21 hb_22 hb_23 hb_24 hS_2 rfl (L1 := [(r0, 13, 4, .ref bo), (bo, 2, 1, .int pc), (bo, 2, 0, .ref pa), (r0, 13, 3, .ref ou), (r0, 13, 2, .ref js), (js, 6, 7, .int pv), (js, 6, 8, .int pu), (js, 6, 0, .ref wk), (js, 6, 1, .ref wi), (js, 6, 2, .ref wz), (js, 6, 3, .ref jnx), (js, 6, 4, .ref jkf), (js, 6, 5, .ref jks), (js, 6, 6, .ref jun), (r0, 13, 11, .int pz)]) [0, 1, 2, 3, 4, 5, 6, 7, 8, 9, 10, 11, 12, 13, 14] rfl rfl (M1 := [(wk, 140, 1502, ca 1, fk), (wi, 141, 1502, ca 1, fi), (wz, 142, 1502, ca 1, fz), (jnx, 143, 1502, ca 1, fn), (jkf, 144, 1502, ca 1, fa), (jks, 145, 1502, ca 1, fs), (jun, 146, 3000, ca 1, fu)]) [0, 1, 2, 3, 4, 5, 6] rfl rfl (I1 := [([(2, 0), (2, 1)], jOl (dC, dI) G0 2 [bo, ou] s.heap), (jFy, jYb dC dI G0), (jFs11, jSef dC dI G0), (jFl, jLs dC dI ca G0 3 none wl)]) [0, 1, 2, 3] rfl rfl).more hb_25)
  clear hh_1 ht_2 hvm_2 hz_2 hk_2 hS_2 hb_21 hb_22 hb_23 hb_24 hb_25
  obtain ⟨hr_3_0, hr_3_1, hr_3_2, hr_3_3⟩ := hr_3
  refine lv_istore_n (lv' := [(2, .int r_3), (0, .ref r0), (1, .ref r1)]) hx hb dX11_request_11 rfl hl (by decide) rfl (fun ls hl => ?_)
  have hm9 : r_3.toInt = jdMe T9 pv.toInt := by have h9 := hr_3_3; rw [hk0] at h9; exact h9
  refine lv_aload_n hx hb dX11_request_12 rfl (lv_at hl 1 rfl) ?_
  refine j7_read hx hb hown hK (C := RX11) (T := TX11) (N := 19) rfl hly_13_2 hlk_28 (hh_2.at 4 rfl) dX11_request_13 ?_
  refine lv_iload_n hx hb dX11_request_16 rfl (lv_at hl 0 rfl) ?_
  refine j_ldcSw hx hb hown rstr287 dX11_request_17 ?_
  have hsz_4 := hh_2.2.2.2.2.2.1
  have htt_4 := hh_2.2.2.2.2.2.2.1
  refine W.room (fun hrc_4 hrs_4 => ?_)
  refine va_calli (A0 := jA base) (H0 := s.heap) (va_runV (As := [.int r_3, .ref str287]) (rest := []) ⟨hx, hb, hml, hown, hts⟩ (uX4_isTextJ l dC dI ca base B hB hAp hB6 hB140 hB141 hB142 hB146 G0 H_2 js r_3 str287 10 (jChT qtx865) pv pu wk wi wz jnx jkf jks jun T9 fk fi fz fn fa fs fu) (cwV 2 hts (jgV (jWr_27 _ (List.mem_of_getElem? (i := 1) rfl)) (jWr_27 _ (List.mem_of_getElem? (i := 2) rfl)) (jWr_27 _ (List.mem_of_getElem? (i := 3) rfl)) (jWr_1 _ (List.mem_of_getElem? (i := 22) rfl)) (jWr_27 _ (List.mem_of_getElem? (i := 4) rfl))) rfl rfl rfl (by decide +kernel) ⟨by rw [← hR]; exact Nat.le_of_ble_eq_true rfl, by rw [← hR]; exact Nat.le_of_ble_eq_true rfl⟩) ⟨fun a U g mk q => by obtain ⟨q0, q1, q2, qK, q10, q11, q12, q13, q14, q15, q16, q17, q18, q19, q20, q21⟩ := q; exact ⟨q0, q1, q2, jG.calling g mk a qK, (q10.moved (Vm.Alike.refl U.vm)), q11, q12, q13, q14, q15, q16, q17, q18, q19, q20, q21⟩, hh_2.recv (C := RX4) (T := TX4) (N := 12) hB6 rfl (by decide) hg_js hK, fun U hU hW => ⟨rfl, hU, hh_2.2.1, hG.step hW hU hh_2.1, (hTstr287.moved hW.alike).kept hh_2.1.2.1, hg_js, hg_wk, hg_wi, hg_wz, hg_jnx, hg_jkf, hg_jks, hg_jun, (hh_2.2.2.1.sub (L1 := [(js, 6, 7, .int pv), (js, 6, 8, .int pu), (js, 6, 0, .ref wk), (js, 6, 1, .ref wi), (js, 6, 2, .ref wz), (js, 6, 3, .ref jnx), (js, 6, 4, .ref jkf), (js, 6, 5, .ref jks), (js, 6, 6, .ref jun)]) [5, 6, 7, 8, 9, 10, 11, 12, 13] rfl), (hh_2.2.2.2.2.2.2.2.1.sub (L1 := [(wk, 140, 1502, ca 1, fk), (wi, 141, 1502, ca 1, fi), (wz, 142, 1502, ca 1, fz), (jnx, 143, 1502, ca 1, fn), (jkf, 144, 1502, ca 1, fa), (jks, 145, 1502, ca 1, fs), (jun, 146, 3000, ca 1, fu)]) [0, 1, 2, 3, 4, 5, 6] rfl), ⟨(by first | omega | rfl | assumption | fail), (by first | omega | rfl | assumption | fail), (by first | omega | rfl | assumption | fail), (by first | omega | rfl | assumption | fail), (by first | assumption | fail | omega), (by first | omega | rfl | assumption | fail), (by first | assumption | fail | omega)⟩⟩⟩ rfl rfl hl.1 rfl (lv_room (Nat.le_of_ble_eq_true rfl)) dX11_request_20 ⟨by rw [hRc]; show _ + 0 ≤ _; omega, by rw [hRs]; show _ + 0 ≤ _; omega⟩) hh_2.1 (fun q _ h => h) (fun q h => h) (fun r_5 u_4 t_4 H_4 locs_4 ht_4 hvm_4 hr_5 hb_4 hz_4 hk_4 hS_4 => ?_)
  rw [ht_4] at hb_4
  obtain ⟨hb_4, hbF_4⟩ := hb_4
  obtain ⟨hb_41, hb_42, hb_43, hb_44, hb_45⟩ := hb_4
  have hh_4 : jSt (dC, dI) B base G0 G0 EX11_requestU s.heap 0 0 [(r0, 13, 4, .ref bo), (bo, 2, 1, .int pc), (bo, 2, 0, .ref pa), (r0, 13, 3, .ref ou), (r0, 13, 2, .ref js), (js, 6, 7, .int pv), (js, 6, 8, .int pu), (js, 6, 0, .ref wk), (js, 6, 1, .ref wi), (js, 6, 2, .ref wz), (js, 6, 3, .ref jnx), (js, 6, 4, .ref jkf), (js, 6, 5, .ref jks), (js, 6, 6, .ref jun), (r0, 13, 11, .int pz)] [(wk, 140, 1502, ca 1, fk), (wi, 141, 1502, ca 1, fi), (wz, 142, 1502, ca 1, fz), (jnx, 143, 1502, ca 1, fn), (jkf, 144, 1502, ca 1, fa), (jks, 145, 1502, ca 1, fs), (jun, 146, 3000, ca 1, fu)] [([(2, 0), (2, 1)], jOl (dC, dI) G0 2 [bo, ou] s.heap), (jFy, jYb dC dI G0), (jFs11, jSef dC dI G0), (jFl, jLs dC dI ca G0 3 none wl)] H_4 locs_4 := ((hh_2.call hb_41 hb_42 hb_43 hb_44 hS_4 rfl (L1 := [(r0, 13, 4, .ref bo), (bo, 2, 1, .int pc), (bo, 2, 0, .ref pa), (r0, 13, 3, .ref ou), (r0, 13, 2, .ref js), (js, 6, 7, .int pv), (js, 6, 8, .int pu), (js, 6, 0, .ref wk), (js, 6, 1, .ref wi), (js, 6, 2, .ref wz), (js, 6, 3, .ref jnx), (js, 6, 4, .ref jkf), (js, 6, 5, .ref jks), (js, 6, 6, .ref jun), (r0, 13, 11, .int pz)]) [0, 1, 2, 3, 4, 5, 6, 7, 8, 9, 10, 11, 12, 13, 14] rfl rfl (M1 := [(wk, 140, 1502, ca 1, fk), (wi, 141, 1502, ca 1, fi), (wz, 142, 1502, ca 1, fz), (jnx, 143, 1502, ca 1, fn), (jkf, 144, 1502, ca 1, fa), (jks, 145, 1502, ca 1, fs), (jun, 146, 3000, ca 1, fu)]) [0, 1, 2, 3, 4, 5, 6] rfl rfl (I1 := [([(2, 0), (2, 1)], jOl (dC, dI) G0 2 [bo, ou] s.heap), (jFy, jYb dC dI G0), (jFs11, jSef dC dI G0), (jFl, jLs dC dI ca G0 3 none wl)]) [0, 1, 2, 3] rfl rfl).more hb_45)
  clear hh_2 ht_4 hvm_4 hz_4 hk_4 hS_4 hb_41 hb_42 hb_43 hb_44 hb_45
  obtain ⟨hr_5b, hr_5p⟩ := hr_5
  obtain ⟨hr_5p_0, hr_5p_1⟩ := hr_5p
  have hr_5' := jb_01 hr_5b
  refine lv_istore_n (lv' := [(3, .int r_5), (2, .int r_3), (0, .ref r0), (1, .ref r1)]) hx hb dX11_request_23 rfl hl (by decide) rfl (fun ls hl => ?_)
  have hin9 : r_5.toInt = jqI T9 pv.toInt (jChT jdIn) 10 r_3.toInt := by have h9 := hr_5p_1; rw [show qtx865 = jdIn by decide +kernel] at h9; exact h9
  refine lv_aload_n hx hb dX11_request_24 rfl (lv_at hl 2 rfl) ?_
  refine j7_read hx hb hown hK (C := RX11) (T := TX11) (N := 19) rfl hly_13_11 hlk_77 (hh_4.at 14 rfl) dX11_request_25 ?_
  refine lv_if_ne (tgt := 65) hx hb dX11_request_28 (by decide) (fun c_6 => ?_) (fun c_6 => ?_)
  · skip
    have c_6' : pz.toInt ≠ 0 := jb_ne (rfl) ((by decide)) c_6
    refine lv_aload_n hx hb dX11_request_65 rfl (lv_at hl 2 rfl) ?_
    refine j7_read hx hb hown hK (C := RX11) (T := TX11) (N := 19) rfl hly_13_11 hlk_77 (hh_4.at 14 rfl) dX11_request_66 ?_
    refine lv_if_ne (tgt := 83) hx hb dX11_request_69 (by decide) (fun c_7 => ?_) (fun c_7 => ?_)
    · skip
      have c_7' : pz.toInt ≠ 0 := jb_ne (rfl) ((by decide)) c_7
      refine lv_aload_n hx hb dX11_request_83 rfl (lv_at hl 2 rfl) ?_
      refine j7_read hx hb hown hK (C := RX11) (T := TX11) (N := 19) rfl hly_13_11 hlk_77 (hh_4.at 14 rfl) dX11_request_84 ?_
      refine lv_iconst (v := 2) hx hb dX11_request_87 (by decide) ?_
      refine lv_icmp_eq (tgt := 95) hx hb dX11_request_88 (by decide) (fun c_8 => ?_) (fun c_8 => ?_)
      · skip
        have c_8' : pz.toInt = 2 := jb_eq (rfl) ((by decide)) c_8
        refine lv_aload_n hx hb dX11_request_95 rfl (lv_at hl 2 rfl) ?_
        refine lv_aload_n hx hb dX11_request_96 rfl (lv_at hl 3 rfl) ?_
        refine lv_sipush (v := (-32600)) hx hb dX11_request_97 (by decide) ?_
        have hsz_9 := hh_4.2.2.2.2.2.1
        have htt_9 := hh_4.2.2.2.2.2.2.1
        refine W.room (fun hrc_9 hrs_9 => ?_)
        refine va_callv (A0 := jA base) (H0 := s.heap) (va_runV (As := [.ref r1, .int (-32600)]) (rest := []) ⟨hx, hb, hml, hown, hts⟩ (uX11_refuse l dC dI ca base B hB hAp hB2 hB4 hB10 hB13 hB196 G0 H_4 r0 r1 (-32600) bo pc pa n_pa ou LC LS) (cwV 2 hts (jgV (jWr_26 _ (List.mem_of_getElem? (i := 3) rfl)) (jWr_26 _ (List.mem_of_getElem? (i := 4) rfl)) (jWr_26 _ (List.mem_of_getElem? (i := 5) rfl)) (jWr_1 _ (List.mem_of_getElem? (i := 2) rfl)) (jWr_26 _ (List.mem_of_getElem? (i := 6) rfl))) rfl rfl rfl (by decide +kernel) ⟨by rw [← hR]; exact Nat.le_of_ble_eq_true rfl, by rw [← hR]; exact Nat.le_of_ble_eq_true rfl⟩) ⟨fun a U g mk q => by obtain ⟨q0, q1, q2, qK, q10, q11, q12, q13, q14, q15, q16, q17⟩ := q; exact ⟨q0, q1, q2, jG.calling g mk a qK, q10, q11, q12, q13, q14, q15, q16, q17⟩, hh_4.recv (C := RX11) (T := TX11) (N := 19) hB13 rfl (by decide) hg_r0 hK, fun U hU hW => ⟨rfl, hU, hh_4.2.1, hG.step hW hU hh_4.1, hg_r1, hg_r0, hg_bo, hg_pa, hg_ou, (hh_4.2.2.1.sub (L1 := [(r0, 13, 4, .ref bo), (bo, 2, 1, .int pc), (bo, 2, 0, .ref pa), (r0, 13, 3, .ref ou)]) [0, 1, 2, 3] rfl), (hh_4.2.2.2.2.2.2.2.2.sub (L1 := [(jFy, jYb dC dI G0)]) [1] rfl), (by omega), (by omega), ⟨(by first | omega | rfl | assumption | fail), (by first | omega | rfl | assumption | fail), (by first | omega | rfl | assumption | fail), (by first | omega | rfl | assumption | fail), (by first | assumption | fail | omega)⟩⟩⟩ rfl rfl hl.1 rfl (lv_room (Nat.le_of_ble_eq_true rfl)) dX11_request_100 ⟨by rw [hRc]; omega, by rw [hRs]; omega⟩) hh_4.1 (fun q _ h => h) (fun q h => h) (fun u_9 t_9 H_9 locs_9 ht_9 hvm_9 hr_10 hb_9 hz_9 hk_9 hS_9 => ?_)
        obtain ⟨qc_9, qa_9, m_qa_9, G_9⟩ := u_9
        rw [ht_9] at hb_9
        simp only at hb_9
        obtain ⟨⟨hb_91, hb_92, hb_93, hb_94, hb_95, hb_96⟩, hgq_9_0, hN_9, hbO_9, hbE_9⟩ := hb_9
        have hh_9 : jSt (dC, dI) B base G0 G_9 EX11_requestU s.heap (0 + ((m_qa_9 - n_pa) / 16)) (0 + (2 * (m_qa_9 - n_pa))) [(bo, 2, 1, .int qc_9), (bo, 2, 0, .ref qa_9), (r0, 13, 4, .ref bo), (r0, 13, 3, .ref ou), (r0, 13, 2, .ref js), (js, 6, 7, .int pv), (js, 6, 8, .int pu), (js, 6, 0, .ref wk), (js, 6, 1, .ref wi), (js, 6, 2, .ref wz), (js, 6, 3, .ref jnx), (js, 6, 4, .ref jkf), (js, 6, 5, .ref jks), (js, 6, 6, .ref jun), (r0, 13, 11, .int pz)] [(wk, 140, 1502, ca 1, fk), (wi, 141, 1502, ca 1, fi), (wz, 142, 1502, ca 1, fz), (jnx, 143, 1502, ca 1, fn), (jkf, 144, 1502, ca 1, fa), (jks, 145, 1502, ca 1, fs), (jun, 146, 3000, ca 1, fu)] [(jFs11, jSef dC dI G0), (jFl, jLs dC dI ca G0 3 none wl)] H_9 locs_9 := (hh_4.callG hb_91 hb_92 hb_93 hb_94 hb_95 hS_9 rfl (L1 := [(r0, 13, 4, .ref bo), (r0, 13, 3, .ref ou), (r0, 13, 2, .ref js), (js, 6, 7, .int pv), (js, 6, 8, .int pu), (js, 6, 0, .ref wk), (js, 6, 1, .ref wi), (js, 6, 2, .ref wz), (js, 6, 3, .ref jnx), (js, 6, 4, .ref jkf), (js, 6, 5, .ref jks), (js, 6, 6, .ref jun), (r0, 13, 11, .int pz)]) [0, 3, 4, 5, 6, 7, 8, 9, 10, 11, 12, 13, 14] rfl rfl (M1 := [(wk, 140, 1502, ca 1, fk), (wi, 141, 1502, ca 1, fi), (wz, 142, 1502, ca 1, fz), (jnx, 143, 1502, ca 1, fn), (jkf, 144, 1502, ca 1, fa), (jks, 145, 1502, ca 1, fs), (jun, 146, 3000, ca 1, fu)]) [0, 1, 2, 3, 4, 5, 6] rfl rfl (I1 := [(jFs11, jSef dC dI G0), (jFl, jLs dC dI ca G0 3 none wl)]) [2, 3] rfl rfl).more hb_96
        have hNn_9 : (jNk [0, 1, 2, 3, 4, 5, 6, 7, 8, 9, 10, 11, 12, 13, 14, 15, 16]) G0 G_9 := (jNk.rf).tr hN_9
        have hg_11 := hb_92 _ _ hg_r0
        have hg_12 := hb_92 _ _ hg_r1
        have hg_13 := hb_92 _ _ hg_bo
        have hg_14 := hb_92 _ _ hg_ou
        have hg_15 := hb_92 _ _ hg_js
        have hg_16 := hb_92 _ _ hg_wk
        have hg_17 := hb_92 _ _ hg_wi
        have hg_18 := hb_92 _ _ hg_wz
        have hg_19 := hb_92 _ _ hg_jnx
        have hg_20 := hb_92 _ _ hg_jkf
        have hg_21 := hb_92 _ _ hg_jks
        have hg_22 := hb_92 _ _ hg_jun
        have hd_23 := jSef.grow (hh_9.iv 0 rfl) hb_92 hN_9 (by decide)
        have hh_24 := hh_9.sub (L1 := [(bo, 2, 1, .int qc_9), (bo, 2, 0, .ref qa_9), (r0, 13, 4, .ref bo), (r0, 13, 3, .ref ou), (r0, 13, 2, .ref js), (js, 6, 7, .int pv), (js, 6, 8, .int pu), (js, 6, 0, .ref wk), (js, 6, 1, .ref wi), (js, 6, 2, .ref wz), (js, 6, 3, .ref jnx), (js, 6, 4, .ref jkf), (js, 6, 5, .ref jks), (js, 6, 6, .ref jun), (r0, 13, 11, .int pz)]) [0, 1, 2, 3, 4, 5, 6, 7, 8, 9, 10, 11, 12, 13, 14] rfl (M1 := [(wk, 140, 1502, ca 1, fk), (wi, 141, 1502, ca 1, fi), (wz, 142, 1502, ca 1, fz), (jnx, 143, 1502, ca 1, fn), (jkf, 144, 1502, ca 1, fa), (jks, 145, 1502, ca 1, fs), (jun, 146, 3000, ca 1, fu)]) [0, 1, 2, 3, 4, 5, 6] rfl (I1 := [(jFl, jLs dC dI ca G0 3 none wl)]) [1] rfl
        clear hh_9
        have hh_25 := hh_24.addI (jSef.ie hd_23)
        clear hh_24
        have hd_26 := jLs.grow (hh_25.iv 1 rfl) hb_92 hN_9 (by decide)
        have hh_27 := hh_25.sub (L1 := [(bo, 2, 1, .int qc_9), (bo, 2, 0, .ref qa_9), (r0, 13, 4, .ref bo), (r0, 13, 3, .ref ou), (r0, 13, 2, .ref js), (js, 6, 7, .int pv), (js, 6, 8, .int pu), (js, 6, 0, .ref wk), (js, 6, 1, .ref wi), (js, 6, 2, .ref wz), (js, 6, 3, .ref jnx), (js, 6, 4, .ref jkf), (js, 6, 5, .ref jks), (js, 6, 6, .ref jun), (r0, 13, 11, .int pz)]) [0, 1, 2, 3, 4, 5, 6, 7, 8, 9, 10, 11, 12, 13, 14] rfl (M1 := [(wk, 140, 1502, ca 1, fk), (wi, 141, 1502, ca 1, fi), (wz, 142, 1502, ca 1, fz), (jnx, 143, 1502, ca 1, fn), (jkf, 144, 1502, ca 1, fa), (jks, 145, 1502, ca 1, fs), (jun, 146, 3000, ca 1, fu)]) [0, 1, 2, 3, 4, 5, 6] rfl (I1 := [(jFs11, jSef dC dI G_9)]) [0] rfl
        clear hh_25
        have hh_28 := hh_27.addI (jLs.ie hd_26)
        clear hh_27
        have hh_29 := hh_28.addIs hbE_9
        have hd_30 := jOl.trL (hh_4.iv 0 rfl) hh_4.2.2.2.2.1 hbO_9 (by simp)
        have hh_31 := hh_29.addI (jOl.ie (dC := dC) (dI := dI) (G0 := G0) (k := 2) (rs := [bo, ou]) (H0 := s.heap) (F := [(2, 0), (2, 1)]) (C := RX0) (T := TX0) (N := 2) rfl (by decide) hh_29.2.2.2.2.1 (hd_30))
        clear hh_29
        try simp only at hr_10
        obtain ⟨hr_10_0, hr_10_1, hr_10_2, hr_10_3, hr_10_4⟩ := hr_10
        have hh_32 := hh_31.wk (zc1 := (m_qa_9 - n_pa) / 16 + 2) (zs1 := 2 * (m_qa_9 - n_pa) + 40 + pu.toInt.toNat) (by omega) (by omega)
        clear hh_31
        try clear hsz_9 htt_9 hrc_9 hrs_9
        try clear hb_94 hb_95
        refine lv_goto (tgt := 212) hx hb dX11_request_103 (by decide) ?_
        have hqz9 : (pz.toInt : Int) = jdRq T9 pv.toInt pz.toInt := by have h9 : jdRq T9 pv.toInt pz.toInt = _ := jdRq.c hm9 (by omega) (Or.inl (by omega)); omega
        have hsz_33 := hh_32.2.2.2.2.2.1
        have htt_33 := hh_32.2.2.2.2.2.2.1
        refine W.room (fun hrc_33 hrs_33 => ?_)
        refine W.widen (k := LC - s.heap.size) (n := LS - jTot s.heap) (by omega) (by omega) ?_
        rw [hQ]
        exact W.vret hx hb hr (fun t ht hW => ⟨⟨(qc_9, pz, qa_9, m_qa_9, G_9), rfl, by (try dsimp only); exact ⟨(by first | omega | rfl | assumption | fail), (by first | omega | rfl | assumption | fail), (by first | omega | rfl | assumption | fail), (by first | omega | rfl | assumption | fail), (by first | assumption | fail | omega), (by first | assumption | fail | omega)⟩, ⟨hh_32.ra (by first | (simp only; omega) | omega) (by first | (simp only; omega) | omega) (M1 := [(bo, 2, 1, .int qc_9), (r0, 13, 11, .int pz), (bo, 2, 0, .ref qa_9)]) [0, 14, 1] rfl ht, hgq_9_0, hNn_9, by rw [ht]; exact hh_32.iv 0 rfl, by rw [ht]; exact hh_32.2.2.2.2.2.2.2.2.sub (L1 := [(jFy, jYb dC dI G_9), (jFs11, jSef dC dI G_9), (jFl, jLs dC dI ca G_9 3 none wl)]) [1, 3, 2] rfl⟩⟩, by rw [ht]; try exact hh_32.1.1, fun q h9 hq => by rw [ht]; try exact hh_32.1.2.1 q h9 hq⟩) hh_32.1.2.2 dX11_request_212
      · skip
        have c_8' : pz.toInt ≠ 2 := jb_eq_n (rfl) ((by decide)) c_8
        refine lv_iload_n hx hb dX11_request_91 rfl (lv_at hl 0 rfl) ?_
        refine lv_if_eq (tgt := 106) hx hb dX11_request_92 (by decide) (fun c_34 => ?_) (fun c_34 => ?_)
        · skip
          have c_34' : r_5.toInt = 0 := jb_eq (rfl) ((by decide)) c_34
          first | (have hr_3_2q := hr_3_2.resolve_left (by omega); clear hr_3_2) | (have hr_3_2q := hr_3_2.resolve_right (by omega); clear hr_3_2) | skip
          first | (have hr_5p_0q := hr_5p_0.resolve_left (by omega); clear hr_5p_0) | (have hr_5p_0q := hr_5p_0.resolve_right (by omega); clear hr_5p_0) | skip
          refine lv_aload_n hx hb dX11_request_106 rfl (lv_at hl 2 rfl) ?_
          refine j7_read hx hb hown hK (C := RX11) (T := TX11) (N := 19) rfl hly_13_2 hlk_28 (hh_4.at 4 rfl) dX11_request_107 ?_
          refine lv_iload_n hx hb dX11_request_110 rfl (lv_at hl 1 rfl) ?_
          refine j_ldcSw hx hb hown rstr303 dX11_request_111 ?_
          have hsz_35 := hh_4.2.2.2.2.2.1
          have htt_35 := hh_4.2.2.2.2.2.2.1
          refine W.room (fun hrc_35 hrs_35 => ?_)
          refine va_calli (A0 := jA base) (H0 := s.heap) (va_runV (As := [.int r_3, .ref str303]) (rest := []) ⟨hx, hb, hml, hown, hts⟩ (uX4_isTextJ l dC dI ca base B hB hAp hB6 hB140 hB141 hB142 hB146 G0 H_4 js r_3 str303 8 (jChT "shutdown") pv pu wk wi wz jnx jkf jks jun T9 fk fi fz fn fa fs fu) (cwV 2 hts (jgV (jWr_27 _ (List.mem_of_getElem? (i := 1) rfl)) (jWr_27 _ (List.mem_of_getElem? (i := 2) rfl)) (jWr_27 _ (List.mem_of_getElem? (i := 3) rfl)) (jWr_1 _ (List.mem_of_getElem? (i := 22) rfl)) (jWr_27 _ (List.mem_of_getElem? (i := 4) rfl))) rfl rfl rfl (by decide +kernel) ⟨by rw [← hR]; exact Nat.le_of_ble_eq_true rfl, by rw [← hR]; exact Nat.le_of_ble_eq_true rfl⟩) ⟨fun a U g mk q => by obtain ⟨q0, q1, q2, qK, q10, q11, q12, q13, q14, q15, q16, q17, q18, q19, q20, q21⟩ := q; exact ⟨q0, q1, q2, jG.calling g mk a qK, (q10.moved (Vm.Alike.refl U.vm)), q11, q12, q13, q14, q15, q16, q17, q18, q19, q20, q21⟩, hh_4.recv (C := RX4) (T := TX4) (N := 12) hB6 rfl (by decide) hg_js hK, fun U hU hW => ⟨rfl, hU, hh_4.2.1, hG.step hW hU hh_4.1, (hTstr303.moved hW.alike).kept hh_4.1.2.1, hg_js, hg_wk, hg_wi, hg_wz, hg_jnx, hg_jkf, hg_jks, hg_jun, (hh_4.2.2.1.sub (L1 := [(js, 6, 7, .int pv), (js, 6, 8, .int pu), (js, 6, 0, .ref wk), (js, 6, 1, .ref wi), (js, 6, 2, .ref wz), (js, 6, 3, .ref jnx), (js, 6, 4, .ref jkf), (js, 6, 5, .ref jks), (js, 6, 6, .ref jun)]) [5, 6, 7, 8, 9, 10, 11, 12, 13] rfl), (hh_4.2.2.2.2.2.2.2.1.sub (L1 := [(wk, 140, 1502, ca 1, fk), (wi, 141, 1502, ca 1, fi), (wz, 142, 1502, ca 1, fz), (jnx, 143, 1502, ca 1, fn), (jkf, 144, 1502, ca 1, fa), (jks, 145, 1502, ca 1, fs), (jun, 146, 3000, ca 1, fu)]) [0, 1, 2, 3, 4, 5, 6] rfl), ⟨(by first | omega | rfl | assumption | fail), (by first | omega | rfl | assumption | fail), (by first | omega | rfl | assumption | fail), (by first | omega | rfl | assumption | fail), (by first | assumption | fail | omega), (by first | omega | rfl | assumption | fail), (by first | assumption | fail | omega)⟩⟩⟩ rfl rfl hl.1 rfl (lv_room (Nat.le_of_ble_eq_true rfl)) dX11_request_114 ⟨by rw [hRc]; show _ + 0 ≤ _; omega, by rw [hRs]; show _ + 0 ≤ _; omega⟩) hh_4.1 (fun q _ h => h) (fun q h => h) (fun r_36 u_35 t_35 H_35 locs_35 ht_35 hvm_35 hr_36 hb_35 hz_35 hk_35 hS_35 => ?_)
          rw [ht_35] at hb_35
          obtain ⟨hb_35, hbF_35⟩ := hb_35
          obtain ⟨hb_351, hb_352, hb_353, hb_354, hb_355⟩ := hb_35
          have hh_35 : jSt (dC, dI) B base G0 G0 EX11_requestU s.heap 0 0 [(r0, 13, 4, .ref bo), (bo, 2, 1, .int pc), (bo, 2, 0, .ref pa), (r0, 13, 3, .ref ou), (r0, 13, 2, .ref js), (js, 6, 7, .int pv), (js, 6, 8, .int pu), (js, 6, 0, .ref wk), (js, 6, 1, .ref wi), (js, 6, 2, .ref wz), (js, 6, 3, .ref jnx), (js, 6, 4, .ref jkf), (js, 6, 5, .ref jks), (js, 6, 6, .ref jun), (r0, 13, 11, .int pz)] [(wk, 140, 1502, ca 1, fk), (wi, 141, 1502, ca 1, fi), (wz, 142, 1502, ca 1, fz), (jnx, 143, 1502, ca 1, fn), (jkf, 144, 1502, ca 1, fa), (jks, 145, 1502, ca 1, fs), (jun, 146, 3000, ca 1, fu)] [([(2, 0), (2, 1)], jOl (dC, dI) G0 2 [bo, ou] s.heap), (jFy, jYb dC dI G0), (jFs11, jSef dC dI G0), (jFl, jLs dC dI ca G0 3 none wl)] H_35 locs_35 := ((hh_4.call hb_351 hb_352 hb_353 hb_354 hS_35 rfl (L1 := [(r0, 13, 4, .ref bo), (bo, 2, 1, .int pc), (bo, 2, 0, .ref pa), (r0, 13, 3, .ref ou), (r0, 13, 2, .ref js), (js, 6, 7, .int pv), (js, 6, 8, .int pu), (js, 6, 0, .ref wk), (js, 6, 1, .ref wi), (js, 6, 2, .ref wz), (js, 6, 3, .ref jnx), (js, 6, 4, .ref jkf), (js, 6, 5, .ref jks), (js, 6, 6, .ref jun), (r0, 13, 11, .int pz)]) [0, 1, 2, 3, 4, 5, 6, 7, 8, 9, 10, 11, 12, 13, 14] rfl rfl (M1 := [(wk, 140, 1502, ca 1, fk), (wi, 141, 1502, ca 1, fi), (wz, 142, 1502, ca 1, fz), (jnx, 143, 1502, ca 1, fn), (jkf, 144, 1502, ca 1, fa), (jks, 145, 1502, ca 1, fs), (jun, 146, 3000, ca 1, fu)]) [0, 1, 2, 3, 4, 5, 6] rfl rfl (I1 := [([(2, 0), (2, 1)], jOl (dC, dI) G0 2 [bo, ou] s.heap), (jFy, jYb dC dI G0), (jFs11, jSef dC dI G0), (jFl, jLs dC dI ca G0 3 none wl)]) [0, 1, 2, 3] rfl rfl).more hb_355)
          clear hh_4 ht_35 hvm_35 hz_35 hk_35 hS_35 hb_351 hb_352 hb_353 hb_354 hb_355
          obtain ⟨hr_36b, hr_36p⟩ := hr_36
          obtain ⟨hr_36p_0, hr_36p_1⟩ := hr_36p
          have hr_36' := jb_01 hr_36b
          refine lv_if_eq (tgt := 150) hx hb dX11_request_117 (by decide) (fun c_37 => ?_) (fun c_37 => ?_)
          · skip
            have c_37' : r_36.toInt = 0 := jb_eq (rfl) ((by decide)) c_37
            first | (have hr_3_2q := hr_3_2.resolve_left (by omega); clear hr_3_2) | (have hr_3_2q := hr_3_2.resolve_right (by omega); clear hr_3_2) | skip
            first | (have hr_5p_0q := hr_5p_0.resolve_left (by omega); clear hr_5p_0) | (have hr_5p_0q := hr_5p_0.resolve_right (by omega); clear hr_5p_0) | skip
            first | (have hr_36p_0q := hr_36p_0.resolve_left (by omega); clear hr_36p_0) | (have hr_36p_0q := hr_36p_0.resolve_right (by omega); clear hr_36p_0) | try clear hr_36p_0
            refine lv_aload_n hx hb dX11_request_150 rfl (lv_at hl 2 rfl) ?_
            refine j7_read hx hb hown hK (C := RX11) (T := TX11) (N := 19) rfl hly_13_2 hlk_28 (hh_35.at 4 rfl) dX11_request_151 ?_
            refine lv_iload_n hx hb dX11_request_154 rfl (lv_at hl 1 rfl) ?_
            refine j_ldcSw hx hb hown rstr307 dX11_request_155 ?_
            have hsz_38 := hh_35.2.2.2.2.2.1
            have htt_38 := hh_35.2.2.2.2.2.2.1
            refine W.room (fun hrc_38 hrs_38 => ?_)
            refine va_calli (A0 := jA base) (H0 := s.heap) (va_runV (As := [.int r_3, .ref str307]) (rest := []) ⟨hx, hb, hml, hown, hts⟩ (uX4_isTextJ l dC dI ca base B hB hAp hB6 hB140 hB141 hB142 hB146 G0 H_35 js r_3 str307 11 (jChT "proof/goals") pv pu wk wi wz jnx jkf jks jun T9 fk fi fz fn fa fs fu) (cwV 2 hts (jgV (jWr_27 _ (List.mem_of_getElem? (i := 1) rfl)) (jWr_27 _ (List.mem_of_getElem? (i := 2) rfl)) (jWr_27 _ (List.mem_of_getElem? (i := 3) rfl)) (jWr_1 _ (List.mem_of_getElem? (i := 22) rfl)) (jWr_27 _ (List.mem_of_getElem? (i := 4) rfl))) rfl rfl rfl (by decide +kernel) ⟨by rw [← hR]; exact Nat.le_of_ble_eq_true rfl, by rw [← hR]; exact Nat.le_of_ble_eq_true rfl⟩) ⟨fun a U g mk q => by obtain ⟨q0, q1, q2, qK, q10, q11, q12, q13, q14, q15, q16, q17, q18, q19, q20, q21⟩ := q; exact ⟨q0, q1, q2, jG.calling g mk a qK, (q10.moved (Vm.Alike.refl U.vm)), q11, q12, q13, q14, q15, q16, q17, q18, q19, q20, q21⟩, hh_35.recv (C := RX4) (T := TX4) (N := 12) hB6 rfl (by decide) hg_js hK, fun U hU hW => ⟨rfl, hU, hh_35.2.1, hG.step hW hU hh_35.1, (hTstr307.moved hW.alike).kept hh_35.1.2.1, hg_js, hg_wk, hg_wi, hg_wz, hg_jnx, hg_jkf, hg_jks, hg_jun, (hh_35.2.2.1.sub (L1 := [(js, 6, 7, .int pv), (js, 6, 8, .int pu), (js, 6, 0, .ref wk), (js, 6, 1, .ref wi), (js, 6, 2, .ref wz), (js, 6, 3, .ref jnx), (js, 6, 4, .ref jkf), (js, 6, 5, .ref jks), (js, 6, 6, .ref jun)]) [5, 6, 7, 8, 9, 10, 11, 12, 13] rfl), (hh_35.2.2.2.2.2.2.2.1.sub (L1 := [(wk, 140, 1502, ca 1, fk), (wi, 141, 1502, ca 1, fi), (wz, 142, 1502, ca 1, fz), (jnx, 143, 1502, ca 1, fn), (jkf, 144, 1502, ca 1, fa), (jks, 145, 1502, ca 1, fs), (jun, 146, 3000, ca 1, fu)]) [0, 1, 2, 3, 4, 5, 6] rfl), ⟨(by first | omega | rfl | assumption | fail), (by first | omega | rfl | assumption | fail), (by first | omega | rfl | assumption | fail), (by first | omega | rfl | assumption | fail), (by first | assumption | fail | omega), (by first | omega | rfl | assumption | fail), (by first | assumption | fail | omega)⟩⟩⟩ rfl rfl hl.1 rfl (lv_room (Nat.le_of_ble_eq_true rfl)) dX11_request_158 ⟨by rw [hRc]; show _ + 0 ≤ _; omega, by rw [hRs]; show _ + 0 ≤ _; omega⟩) hh_35.1 (fun q _ h => h) (fun q h => h) (fun r_39 u_38 t_38 H_38 locs_38 ht_38 hvm_38 hr_39 hb_38 hz_38 hk_38 hS_38 => ?_)
            rw [ht_38] at hb_38
            obtain ⟨hb_38, hbF_38⟩ := hb_38
            obtain ⟨hb_381, hb_382, hb_383, hb_384, hb_385⟩ := hb_38
            have hh_38 : jSt (dC, dI) B base G0 G0 EX11_requestU s.heap 0 0 [(r0, 13, 4, .ref bo), (bo, 2, 1, .int pc), (bo, 2, 0, .ref pa), (r0, 13, 3, .ref ou), (r0, 13, 2, .ref js), (js, 6, 7, .int pv), (js, 6, 8, .int pu), (js, 6, 0, .ref wk), (js, 6, 1, .ref wi), (js, 6, 2, .ref wz), (js, 6, 3, .ref jnx), (js, 6, 4, .ref jkf), (js, 6, 5, .ref jks), (js, 6, 6, .ref jun), (r0, 13, 11, .int pz)] [(wk, 140, 1502, ca 1, fk), (wi, 141, 1502, ca 1, fi), (wz, 142, 1502, ca 1, fz), (jnx, 143, 1502, ca 1, fn), (jkf, 144, 1502, ca 1, fa), (jks, 145, 1502, ca 1, fs), (jun, 146, 3000, ca 1, fu)] [([(2, 0), (2, 1)], jOl (dC, dI) G0 2 [bo, ou] s.heap), (jFy, jYb dC dI G0), (jFs11, jSef dC dI G0), (jFl, jLs dC dI ca G0 3 none wl)] H_38 locs_38 := ((hh_35.call hb_381 hb_382 hb_383 hb_384 hS_38 rfl (L1 := [(r0, 13, 4, .ref bo), (bo, 2, 1, .int pc), (bo, 2, 0, .ref pa), (r0, 13, 3, .ref ou), (r0, 13, 2, .ref js), (js, 6, 7, .int pv), (js, 6, 8, .int pu), (js, 6, 0, .ref wk), (js, 6, 1, .ref wi), (js, 6, 2, .ref wz), (js, 6, 3, .ref jnx), (js, 6, 4, .ref jkf), (js, 6, 5, .ref jks), (js, 6, 6, .ref jun), (r0, 13, 11, .int pz)]) [0, 1, 2, 3, 4, 5, 6, 7, 8, 9, 10, 11, 12, 13, 14] rfl rfl (M1 := [(wk, 140, 1502, ca 1, fk), (wi, 141, 1502, ca 1, fi), (wz, 142, 1502, ca 1, fz), (jnx, 143, 1502, ca 1, fn), (jkf, 144, 1502, ca 1, fa), (jks, 145, 1502, ca 1, fs), (jun, 146, 3000, ca 1, fu)]) [0, 1, 2, 3, 4, 5, 6] rfl rfl (I1 := [([(2, 0), (2, 1)], jOl (dC, dI) G0 2 [bo, ou] s.heap), (jFy, jYb dC dI G0), (jFs11, jSef dC dI G0), (jFl, jLs dC dI ca G0 3 none wl)]) [0, 1, 2, 3] rfl rfl).more hb_385)
            clear hh_35 ht_38 hvm_38 hz_38 hk_38 hS_38 hb_381 hb_382 hb_383 hb_384 hb_385
            obtain ⟨hr_39b, hr_39p⟩ := hr_39
            obtain ⟨hr_39p_0, hr_39p_1⟩ := hr_39p
            have hr_39' := jb_01 hr_39b
            refine lv_if_eq (tgt := 177) hx hb dX11_request_161 (by decide) (fun c_40 => ?_) (fun c_40 => ?_)
            · skip
              have c_40' : r_39.toInt = 0 := jb_eq (rfl) ((by decide)) c_40
              first | (have hr_3_2q := hr_3_2.resolve_left (by omega); clear hr_3_2) | (have hr_3_2q := hr_3_2.resolve_right (by omega); clear hr_3_2) | skip
              first | (have hr_5p_0q := hr_5p_0.resolve_left (by omega); clear hr_5p_0) | (have hr_5p_0q := hr_5p_0.resolve_right (by omega); clear hr_5p_0) | skip
              first | (have hr_39p_0q := hr_39p_0.resolve_left (by omega); clear hr_39p_0) | (have hr_39p_0q := hr_39p_0.resolve_right (by omega); clear hr_39p_0) | try clear hr_39p_0
              refine lv_aload_n hx hb dX11_request_177 rfl (lv_at hl 2 rfl) ?_
              refine j7_read hx hb hown hK (C := RX11) (T := TX11) (N := 19) rfl hly_13_2 hlk_28 (hh_38.at 4 rfl) dX11_request_178 ?_
              refine lv_iload_n hx hb dX11_request_181 rfl (lv_at hl 1 rfl) ?_
              refine j_ldcSw hx hb hown rstr317 dX11_request_182 ?_
              have hsz_41 := hh_38.2.2.2.2.2.1
              have htt_41 := hh_38.2.2.2.2.2.2.1
              refine W.room (fun hrc_41 hrs_41 => ?_)
              refine va_calli (A0 := jA base) (H0 := s.heap) (va_runV (As := [.int r_3, .ref str317]) (rest := []) ⟨hx, hb, hml, hown, hts⟩ (uX4_isTextJ l dC dI ca base B hB hAp hB6 hB140 hB141 hB142 hB146 G0 H_38 js r_3 str317 15 (jChT "proof/statement") pv pu wk wi wz jnx jkf jks jun T9 fk fi fz fn fa fs fu) (cwV 2 hts (jgV (jWr_27 _ (List.mem_of_getElem? (i := 1) rfl)) (jWr_27 _ (List.mem_of_getElem? (i := 2) rfl)) (jWr_27 _ (List.mem_of_getElem? (i := 3) rfl)) (jWr_1 _ (List.mem_of_getElem? (i := 22) rfl)) (jWr_27 _ (List.mem_of_getElem? (i := 4) rfl))) rfl rfl rfl (by decide +kernel) ⟨by rw [← hR]; exact Nat.le_of_ble_eq_true rfl, by rw [← hR]; exact Nat.le_of_ble_eq_true rfl⟩) ⟨fun a U g mk q => by obtain ⟨q0, q1, q2, qK, q10, q11, q12, q13, q14, q15, q16, q17, q18, q19, q20, q21⟩ := q; exact ⟨q0, q1, q2, jG.calling g mk a qK, (q10.moved (Vm.Alike.refl U.vm)), q11, q12, q13, q14, q15, q16, q17, q18, q19, q20, q21⟩, hh_38.recv (C := RX4) (T := TX4) (N := 12) hB6 rfl (by decide) hg_js hK, fun U hU hW => ⟨rfl, hU, hh_38.2.1, hG.step hW hU hh_38.1, (hTstr317.moved hW.alike).kept hh_38.1.2.1, hg_js, hg_wk, hg_wi, hg_wz, hg_jnx, hg_jkf, hg_jks, hg_jun, (hh_38.2.2.1.sub (L1 := [(js, 6, 7, .int pv), (js, 6, 8, .int pu), (js, 6, 0, .ref wk), (js, 6, 1, .ref wi), (js, 6, 2, .ref wz), (js, 6, 3, .ref jnx), (js, 6, 4, .ref jkf), (js, 6, 5, .ref jks), (js, 6, 6, .ref jun)]) [5, 6, 7, 8, 9, 10, 11, 12, 13] rfl), (hh_38.2.2.2.2.2.2.2.1.sub (L1 := [(wk, 140, 1502, ca 1, fk), (wi, 141, 1502, ca 1, fi), (wz, 142, 1502, ca 1, fz), (jnx, 143, 1502, ca 1, fn), (jkf, 144, 1502, ca 1, fa), (jks, 145, 1502, ca 1, fs), (jun, 146, 3000, ca 1, fu)]) [0, 1, 2, 3, 4, 5, 6] rfl), ⟨(by first | omega | rfl | assumption | fail), (by first | omega | rfl | assumption | fail), (by first | omega | rfl | assumption | fail), (by first | omega | rfl | assumption | fail), (by first | assumption | fail | omega), (by first | omega | rfl | assumption | fail), (by first | assumption | fail | omega)⟩⟩⟩ rfl rfl hl.1 rfl (lv_room (Nat.le_of_ble_eq_true rfl)) dX11_request_185 ⟨by rw [hRc]; show _ + 0 ≤ _; omega, by rw [hRs]; show _ + 0 ≤ _; omega⟩) hh_38.1 (fun q _ h => h) (fun q h => h) (fun r_42 u_41 t_41 H_41 locs_41 ht_41 hvm_41 hr_42 hb_41 hz_41 hk_41 hS_41 => ?_)
              rw [ht_41] at hb_41
              obtain ⟨hb_41, hbF_41⟩ := hb_41
              obtain ⟨hb_411, hb_412, hb_413, hb_414, hb_415⟩ := hb_41
              have hh_41 : jSt (dC, dI) B base G0 G0 EX11_requestU s.heap 0 0 [(r0, 13, 4, .ref bo), (bo, 2, 1, .int pc), (bo, 2, 0, .ref pa), (r0, 13, 3, .ref ou), (r0, 13, 2, .ref js), (js, 6, 7, .int pv), (js, 6, 8, .int pu), (js, 6, 0, .ref wk), (js, 6, 1, .ref wi), (js, 6, 2, .ref wz), (js, 6, 3, .ref jnx), (js, 6, 4, .ref jkf), (js, 6, 5, .ref jks), (js, 6, 6, .ref jun), (r0, 13, 11, .int pz)] [(wk, 140, 1502, ca 1, fk), (wi, 141, 1502, ca 1, fi), (wz, 142, 1502, ca 1, fz), (jnx, 143, 1502, ca 1, fn), (jkf, 144, 1502, ca 1, fa), (jks, 145, 1502, ca 1, fs), (jun, 146, 3000, ca 1, fu)] [([(2, 0), (2, 1)], jOl (dC, dI) G0 2 [bo, ou] s.heap), (jFy, jYb dC dI G0), (jFs11, jSef dC dI G0), (jFl, jLs dC dI ca G0 3 none wl)] H_41 locs_41 := ((hh_38.call hb_411 hb_412 hb_413 hb_414 hS_41 rfl (L1 := [(r0, 13, 4, .ref bo), (bo, 2, 1, .int pc), (bo, 2, 0, .ref pa), (r0, 13, 3, .ref ou), (r0, 13, 2, .ref js), (js, 6, 7, .int pv), (js, 6, 8, .int pu), (js, 6, 0, .ref wk), (js, 6, 1, .ref wi), (js, 6, 2, .ref wz), (js, 6, 3, .ref jnx), (js, 6, 4, .ref jkf), (js, 6, 5, .ref jks), (js, 6, 6, .ref jun), (r0, 13, 11, .int pz)]) [0, 1, 2, 3, 4, 5, 6, 7, 8, 9, 10, 11, 12, 13, 14] rfl rfl (M1 := [(wk, 140, 1502, ca 1, fk), (wi, 141, 1502, ca 1, fi), (wz, 142, 1502, ca 1, fz), (jnx, 143, 1502, ca 1, fn), (jkf, 144, 1502, ca 1, fa), (jks, 145, 1502, ca 1, fs), (jun, 146, 3000, ca 1, fu)]) [0, 1, 2, 3, 4, 5, 6] rfl rfl (I1 := [([(2, 0), (2, 1)], jOl (dC, dI) G0 2 [bo, ou] s.heap), (jFy, jYb dC dI G0), (jFs11, jSef dC dI G0), (jFl, jLs dC dI ca G0 3 none wl)]) [0, 1, 2, 3] rfl rfl).more hb_415)
              clear hh_38 ht_41 hvm_41 hz_41 hk_41 hS_41 hb_411 hb_412 hb_413 hb_414 hb_415
              obtain ⟨hr_42b, hr_42p⟩ := hr_42
              obtain ⟨hr_42p_0, hr_42p_1⟩ := hr_42p
              have hr_42' := jb_01 hr_42b
              refine lv_if_eq (tgt := 204) hx hb dX11_request_188 (by decide) (fun c_43 => ?_) (fun c_43 => ?_)
              · skip
                have c_43' : r_42.toInt = 0 := jb_eq (rfl) ((by decide)) c_43
                first | (have hr_3_2q := hr_3_2.resolve_left (by omega); clear hr_3_2) | (have hr_3_2q := hr_3_2.resolve_right (by omega); clear hr_3_2) | skip
                first | (have hr_5p_0q := hr_5p_0.resolve_left (by omega); clear hr_5p_0) | (have hr_5p_0q := hr_5p_0.resolve_right (by omega); clear hr_5p_0) | skip
                first | (have hr_42p_0q := hr_42p_0.resolve_left (by omega); clear hr_42p_0) | (have hr_42p_0q := hr_42p_0.resolve_right (by omega); clear hr_42p_0) | try clear hr_42p_0
                refine lv_aload_n hx hb dX11_request_204 rfl (lv_at hl 2 rfl) ?_
                refine lv_aload_n hx hb dX11_request_205 rfl (lv_at hl 3 rfl) ?_
                refine lv_sipush (v := (-32601)) hx hb dX11_request_206 (by decide) ?_
                have hsz_44 := hh_41.2.2.2.2.2.1
                have htt_44 := hh_41.2.2.2.2.2.2.1
                refine W.room (fun hrc_44 hrs_44 => ?_)
                refine va_callv (A0 := jA base) (H0 := s.heap) (va_runV (As := [.ref r1, .int (-32601)]) (rest := []) ⟨hx, hb, hml, hown, hts⟩ (uX11_refuse l dC dI ca base B hB hAp hB2 hB4 hB10 hB13 hB196 G0 H_41 r0 r1 (-32601) bo pc pa n_pa ou LC LS) (cwV 2 hts (jgV (jWr_26 _ (List.mem_of_getElem? (i := 3) rfl)) (jWr_26 _ (List.mem_of_getElem? (i := 4) rfl)) (jWr_26 _ (List.mem_of_getElem? (i := 5) rfl)) (jWr_1 _ (List.mem_of_getElem? (i := 2) rfl)) (jWr_26 _ (List.mem_of_getElem? (i := 6) rfl))) rfl rfl rfl (by decide +kernel) ⟨by rw [← hR]; exact Nat.le_of_ble_eq_true rfl, by rw [← hR]; exact Nat.le_of_ble_eq_true rfl⟩) ⟨fun a U g mk q => by obtain ⟨q0, q1, q2, qK, q10, q11, q12, q13, q14, q15, q16, q17⟩ := q; exact ⟨q0, q1, q2, jG.calling g mk a qK, q10, q11, q12, q13, q14, q15, q16, q17⟩, hh_41.recv (C := RX11) (T := TX11) (N := 19) hB13 rfl (by decide) hg_r0 hK, fun U hU hW => ⟨rfl, hU, hh_41.2.1, hG.step hW hU hh_41.1, hg_r1, hg_r0, hg_bo, hg_pa, hg_ou, (hh_41.2.2.1.sub (L1 := [(r0, 13, 4, .ref bo), (bo, 2, 1, .int pc), (bo, 2, 0, .ref pa), (r0, 13, 3, .ref ou)]) [0, 1, 2, 3] rfl), (hh_41.2.2.2.2.2.2.2.2.sub (L1 := [(jFy, jYb dC dI G0)]) [1] rfl), (by omega), (by omega), ⟨(by first | omega | rfl | assumption | fail), (by first | omega | rfl | assumption | fail), (by first | omega | rfl | assumption | fail), (by first | omega | rfl | assumption | fail), (by first | assumption | fail | omega)⟩⟩⟩ rfl rfl hl.1 rfl (lv_room (Nat.le_of_ble_eq_true rfl)) dX11_request_209 ⟨by rw [hRc]; omega, by rw [hRs]; omega⟩) hh_41.1 (fun q _ h => h) (fun q h => h) (fun u_44 t_44 H_44 locs_44 ht_44 hvm_44 hr_45 hb_44 hz_44 hk_44 hS_44 => ?_)
                obtain ⟨qc_44, qa_44, m_qa_44, G_44⟩ := u_44
                rw [ht_44] at hb_44
                simp only at hb_44
                obtain ⟨⟨hb_441, hb_442, hb_443, hb_444, hb_445, hb_446⟩, hgq_44_0, hN_44, hbO_44, hbE_44⟩ := hb_44
                have hh_44 : jSt (dC, dI) B base G0 G_44 EX11_requestU s.heap (0 + ((m_qa_44 - n_pa) / 16)) (0 + (2 * (m_qa_44 - n_pa))) [(bo, 2, 1, .int qc_44), (bo, 2, 0, .ref qa_44), (r0, 13, 4, .ref bo), (r0, 13, 3, .ref ou), (r0, 13, 2, .ref js), (js, 6, 7, .int pv), (js, 6, 8, .int pu), (js, 6, 0, .ref wk), (js, 6, 1, .ref wi), (js, 6, 2, .ref wz), (js, 6, 3, .ref jnx), (js, 6, 4, .ref jkf), (js, 6, 5, .ref jks), (js, 6, 6, .ref jun), (r0, 13, 11, .int pz)] [(wk, 140, 1502, ca 1, fk), (wi, 141, 1502, ca 1, fi), (wz, 142, 1502, ca 1, fz), (jnx, 143, 1502, ca 1, fn), (jkf, 144, 1502, ca 1, fa), (jks, 145, 1502, ca 1, fs), (jun, 146, 3000, ca 1, fu)] [(jFs11, jSef dC dI G0), (jFl, jLs dC dI ca G0 3 none wl)] H_44 locs_44 := (hh_41.callG hb_441 hb_442 hb_443 hb_444 hb_445 hS_44 rfl (L1 := [(r0, 13, 4, .ref bo), (r0, 13, 3, .ref ou), (r0, 13, 2, .ref js), (js, 6, 7, .int pv), (js, 6, 8, .int pu), (js, 6, 0, .ref wk), (js, 6, 1, .ref wi), (js, 6, 2, .ref wz), (js, 6, 3, .ref jnx), (js, 6, 4, .ref jkf), (js, 6, 5, .ref jks), (js, 6, 6, .ref jun), (r0, 13, 11, .int pz)]) [0, 3, 4, 5, 6, 7, 8, 9, 10, 11, 12, 13, 14] rfl rfl (M1 := [(wk, 140, 1502, ca 1, fk), (wi, 141, 1502, ca 1, fi), (wz, 142, 1502, ca 1, fz), (jnx, 143, 1502, ca 1, fn), (jkf, 144, 1502, ca 1, fa), (jks, 145, 1502, ca 1, fs), (jun, 146, 3000, ca 1, fu)]) [0, 1, 2, 3, 4, 5, 6] rfl rfl (I1 := [(jFs11, jSef dC dI G0), (jFl, jLs dC dI ca G0 3 none wl)]) [2, 3] rfl rfl).more hb_446
                have hNn_44 : (jNk [0, 1, 2, 3, 4, 5, 6, 7, 8, 9, 10, 11, 12, 13, 14, 15, 16]) G0 G_44 := (jNk.rf).tr hN_44
                have hg_46 := hb_442 _ _ hg_r0
                have hg_47 := hb_442 _ _ hg_r1
                have hg_48 := hb_442 _ _ hg_bo
                have hg_49 := hb_442 _ _ hg_ou
                have hg_50 := hb_442 _ _ hg_js
                have hg_51 := hb_442 _ _ hg_wk
                have hg_52 := hb_442 _ _ hg_wi
                have hg_53 := hb_442 _ _ hg_wz
                have hg_54 := hb_442 _ _ hg_jnx
                have hg_55 := hb_442 _ _ hg_jkf
                have hg_56 := hb_442 _ _ hg_jks
                have hg_57 := hb_442 _ _ hg_jun
                have hd_58 := jSef.grow (hh_44.iv 0 rfl) hb_442 hN_44 (by decide)
                have hh_59 := hh_44.sub (L1 := [(bo, 2, 1, .int qc_44), (bo, 2, 0, .ref qa_44), (r0, 13, 4, .ref bo), (r0, 13, 3, .ref ou), (r0, 13, 2, .ref js), (js, 6, 7, .int pv), (js, 6, 8, .int pu), (js, 6, 0, .ref wk), (js, 6, 1, .ref wi), (js, 6, 2, .ref wz), (js, 6, 3, .ref jnx), (js, 6, 4, .ref jkf), (js, 6, 5, .ref jks), (js, 6, 6, .ref jun), (r0, 13, 11, .int pz)]) [0, 1, 2, 3, 4, 5, 6, 7, 8, 9, 10, 11, 12, 13, 14] rfl (M1 := [(wk, 140, 1502, ca 1, fk), (wi, 141, 1502, ca 1, fi), (wz, 142, 1502, ca 1, fz), (jnx, 143, 1502, ca 1, fn), (jkf, 144, 1502, ca 1, fa), (jks, 145, 1502, ca 1, fs), (jun, 146, 3000, ca 1, fu)]) [0, 1, 2, 3, 4, 5, 6] rfl (I1 := [(jFl, jLs dC dI ca G0 3 none wl)]) [1] rfl
                clear hh_44
                have hh_60 := hh_59.addI (jSef.ie hd_58)
                clear hh_59
                have hd_61 := jLs.grow (hh_60.iv 1 rfl) hb_442 hN_44 (by decide)
                have hh_62 := hh_60.sub (L1 := [(bo, 2, 1, .int qc_44), (bo, 2, 0, .ref qa_44), (r0, 13, 4, .ref bo), (r0, 13, 3, .ref ou), (r0, 13, 2, .ref js), (js, 6, 7, .int pv), (js, 6, 8, .int pu), (js, 6, 0, .ref wk), (js, 6, 1, .ref wi), (js, 6, 2, .ref wz), (js, 6, 3, .ref jnx), (js, 6, 4, .ref jkf), (js, 6, 5, .ref jks), (js, 6, 6, .ref jun), (r0, 13, 11, .int pz)]) [0, 1, 2, 3, 4, 5, 6, 7, 8, 9, 10, 11, 12, 13, 14] rfl (M1 := [(wk, 140, 1502, ca 1, fk), (wi, 141, 1502, ca 1, fi), (wz, 142, 1502, ca 1, fz), (jnx, 143, 1502, ca 1, fn), (jkf, 144, 1502, ca 1, fa), (jks, 145, 1502, ca 1, fs), (jun, 146, 3000, ca 1, fu)]) [0, 1, 2, 3, 4, 5, 6] rfl (I1 := [(jFs11, jSef dC dI G_44)]) [0] rfl
                clear hh_60
                have hh_63 := hh_62.addI (jLs.ie hd_61)
                clear hh_62
                have hh_64 := hh_63.addIs hbE_44
                have hd_65 := jOl.trL (hh_41.iv 0 rfl) hh_41.2.2.2.2.1 hbO_44 (by simp)
                have hh_66 := hh_64.addI (jOl.ie (dC := dC) (dI := dI) (G0 := G0) (k := 2) (rs := [bo, ou]) (H0 := s.heap) (F := [(2, 0), (2, 1)]) (C := RX0) (T := TX0) (N := 2) rfl (by decide) hh_64.2.2.2.2.1 (hd_65))
                clear hh_64
                try simp only at hr_45
                obtain ⟨hr_45_0, hr_45_1, hr_45_2, hr_45_3, hr_45_4⟩ := hr_45
                have hh_67 := hh_66.wk (zc1 := (m_qa_44 - n_pa) / 16 + 2) (zs1 := 2 * (m_qa_44 - n_pa) + 40 + pu.toInt.toNat) (by omega) (by omega)
                clear hh_66
                try clear hsz_44 htt_44 hrc_44 hrs_44
                try clear hb_444 hb_445
                have hqz9 : (pz.toInt : Int) = jdRq T9 pv.toInt pz.toInt := by have h9 : jdRq T9 pv.toInt pz.toInt = _ := jdRq.e hm9 (by omega) (by rw [← hr_36p_1]; omega); omega
                have hsz_68 := hh_67.2.2.2.2.2.1
                have htt_68 := hh_67.2.2.2.2.2.2.1
                refine W.room (fun hrc_68 hrs_68 => ?_)
                refine W.widen (k := LC - s.heap.size) (n := LS - jTot s.heap) (by omega) (by omega) ?_
                rw [hQ]
                exact W.vret hx hb hr (fun t ht hW => ⟨⟨(qc_44, pz, qa_44, m_qa_44, G_44), rfl, by (try dsimp only); exact ⟨(by first | omega | rfl | assumption | fail), (by first | omega | rfl | assumption | fail), (by first | omega | rfl | assumption | fail), (by first | omega | rfl | assumption | fail), (by first | assumption | fail | omega), (by first | assumption | fail | omega)⟩, ⟨hh_67.ra (by first | (simp only; omega) | omega) (by first | (simp only; omega) | omega) (M1 := [(bo, 2, 1, .int qc_44), (r0, 13, 11, .int pz), (bo, 2, 0, .ref qa_44)]) [0, 14, 1] rfl ht, hgq_44_0, hNn_44, by rw [ht]; exact hh_67.iv 0 rfl, by rw [ht]; exact hh_67.2.2.2.2.2.2.2.2.sub (L1 := [(jFy, jYb dC dI G_44), (jFs11, jSef dC dI G_44), (jFl, jLs dC dI ca G_44 3 none wl)]) [1, 3, 2] rfl⟩⟩, by rw [ht]; try exact hh_67.1.1, fun q h9 hq => by rw [ht]; try exact hh_67.1.2.1 q h9 hq⟩) hh_67.1.2.2 dX11_request_212
              · skip
                have c_43' : r_42.toInt ≠ 0 := jb_eq_n (rfl) ((by decide)) c_43
                first | (have hr_3_2q := hr_3_2.resolve_left (by omega); clear hr_3_2) | (have hr_3_2q := hr_3_2.resolve_right (by omega); clear hr_3_2) | skip
                first | (have hr_5p_0q := hr_5p_0.resolve_left (by omega); clear hr_5p_0) | (have hr_5p_0q := hr_5p_0.resolve_right (by omega); clear hr_5p_0) | skip
                first | (have hr_42p_0q := hr_42p_0.resolve_left (by omega); clear hr_42p_0) | (have hr_42p_0q := hr_42p_0.resolve_right (by omega); clear hr_42p_0) | try clear hr_42p_0
                refine lv_aload_n hx hb dX11_request_191 rfl (lv_at hl 2 rfl) ?_
                refine lv_aload_n hx hb dX11_request_192 rfl (lv_at hl 3 rfl) ?_
                refine lv_aload_n hx hb dX11_request_193 rfl (lv_at hl 2 rfl) ?_
                refine lv_aload_n hx hb dX11_request_194 rfl (lv_at hl 3 rfl) ?_
                have hsz_69 := hh_41.2.2.2.2.2.1
                have htt_69 := hh_41.2.2.2.2.2.2.1
                refine W.room (fun hrc_69 hrs_69 => ?_)
                refine va_calli (A0 := jA base) (H0 := s.heap) (va_runV (As := [.ref r1]) (rest := [.ref r1, .ref r0]) ⟨hx, hb, hml, hown, hts⟩ (uX11_aimAtName l dC dI ca base B hB hAp hB1 hB3 hB6 hB7 hB8 hB10 hB13 hB101 hB102 hB132 hB133 hB140 hB141 hB142 hB143 hB144 hB145 hB146 hB174 hB221 G0 H_41 r0 r1 js pv pu wk wi wz jks wl fk fi fz fs LC LS) (cwV 1 hts (jgV (jWr_35 _ (List.mem_of_getElem? (i := 0) rfl)) (jWr_35 _ (List.mem_of_getElem? (i := 1) rfl)) (jWr_35 _ (List.mem_of_getElem? (i := 2) rfl)) (jWr_1 _ (List.mem_of_getElem? (i := 2) rfl)) (jWr_35 _ (List.mem_of_getElem? (i := 3) rfl))) rfl rfl rfl (by decide +kernel) ⟨by rw [← hR]; exact Nat.le_of_ble_eq_true rfl, by rw [← hR]; exact Nat.le_of_ble_eq_true rfl⟩) ⟨fun a U g mk q => by obtain ⟨q0, q1, q2, qK, q10, q11, q12, q13, q14, q15, q16, q17, q18, q19, q20, q21⟩ := q; exact ⟨q0, q1, q2, jG.calling g mk a qK, (jK7.calling g mk a q10), q11, q12, q13, q14, q15, q16, q17, q18, q19, q20, q21⟩, hh_41.recv (C := RX11) (T := TX11) (N := 19) hB13 rfl (by decide) hg_r0 hK, fun U hU hW => ⟨rfl, hU, hh_41.2.1, hG.step hW hU hh_41.1, (hK7.step hW hU hh_41.1), hg_r0, hg_r1, hg_js, hg_wk, hg_wi, hg_wz, hg_jks, (hh_41.2.2.1.sub (L1 := [(r0, 13, 2, .ref js), (js, 6, 7, .int pv), (js, 6, 8, .int pu), (js, 6, 0, .ref wk), (js, 6, 1, .ref wi), (js, 6, 2, .ref wz), (js, 6, 5, .ref jks)]) [4, 5, 6, 7, 8, 9, 12] rfl), (hh_41.2.2.2.2.2.2.2.1.sub (L1 := [(wk, 140, 1502, ca 1, fk), (wi, 141, 1502, ca 1, fi), (wz, 142, 1502, ca 1, fz), (jks, 145, 1502, ca 1, fs)]) [0, 1, 2, 5] rfl), (hh_41.2.2.2.2.2.2.2.2.sub (L1 := [(jFl, jLs dC dI ca G0 3 none wl)]) [3] rfl), (by omega), (by omega), ⟨(by first | omega | rfl | assumption | fail), (by first | omega | rfl | assumption | fail), (by first | omega | rfl | assumption | fail), (by first | omega | rfl | assumption | fail), (by first | assumption | fail | omega), (by first | assumption | fail | omega)⟩⟩⟩ rfl rfl hl.1 rfl (lv_room (Nat.le_of_ble_eq_true rfl)) dX11_request_195 ⟨by rw [hRc]; omega, by rw [hRs]; omega⟩) hh_41.1 (fun q _ h => h) (fun q h => h) (fun r_70 u_69 t_69 H_69 locs_69 ht_69 hvm_69 hr_70 hb_69 hz_69 hk_69 hS_69 => ?_)
                rw [ht_69] at hb_69
                obtain ⟨G_69, rfl⟩ : ∃ z, z = u_69 := ⟨_, rfl⟩
                try simp only at hb_69
                obtain ⟨⟨hb_691, hb_692, hb_693, hb_694, hb_695, hb_696⟩, hN_69, hbE_69⟩ := hb_69
                have hh_69 : jSt (dC, dI) B base G0 G_69 EX11_requestU s.heap (0 + (1)) (0 + ((pu.toInt : Int).toNat)) [(r0, 13, 4, .ref bo), (bo, 2, 1, .int pc), (bo, 2, 0, .ref pa), (r0, 13, 3, .ref ou), (r0, 13, 2, .ref js), (js, 6, 7, .int pv), (js, 6, 8, .int pu), (js, 6, 0, .ref wk), (js, 6, 1, .ref wi), (js, 6, 2, .ref wz), (js, 6, 3, .ref jnx), (js, 6, 4, .ref jkf), (js, 6, 5, .ref jks), (js, 6, 6, .ref jun), (r0, 13, 11, .int pz)] [(wk, 140, 1502, ca 1, fk), (wi, 141, 1502, ca 1, fi), (wz, 142, 1502, ca 1, fz), (jnx, 143, 1502, ca 1, fn), (jkf, 144, 1502, ca 1, fa), (jks, 145, 1502, ca 1, fs), (jun, 146, 3000, ca 1, fu)] [([(2, 0), (2, 1)], jOl (dC, dI) G0 2 [bo, ou] s.heap), (jFy, jYb dC dI G0), (jFs11, jSef dC dI G0)] H_69 locs_69 := (hh_41.callG hb_691 hb_692 hb_693 hb_694 hb_695 hS_69 rfl (L1 := [(r0, 13, 4, .ref bo), (bo, 2, 1, .int pc), (bo, 2, 0, .ref pa), (r0, 13, 3, .ref ou), (r0, 13, 2, .ref js), (js, 6, 7, .int pv), (js, 6, 8, .int pu), (js, 6, 0, .ref wk), (js, 6, 1, .ref wi), (js, 6, 2, .ref wz), (js, 6, 3, .ref jnx), (js, 6, 4, .ref jkf), (js, 6, 5, .ref jks), (js, 6, 6, .ref jun), (r0, 13, 11, .int pz)]) [0, 1, 2, 3, 4, 5, 6, 7, 8, 9, 10, 11, 12, 13, 14] rfl rfl (M1 := [(wk, 140, 1502, ca 1, fk), (wi, 141, 1502, ca 1, fi), (wz, 142, 1502, ca 1, fz), (jnx, 143, 1502, ca 1, fn), (jkf, 144, 1502, ca 1, fa), (jks, 145, 1502, ca 1, fs), (jun, 146, 3000, ca 1, fu)]) [0, 1, 2, 3, 4, 5, 6] rfl rfl (I1 := [([(2, 0), (2, 1)], jOl (dC, dI) G0 2 [bo, ou] s.heap), (jFy, jYb dC dI G0), (jFs11, jSef dC dI G0)]) [0, 1, 2] rfl rfl).more hb_696
                have hNn_69 : (jNk [0, 1, 2, 3, 4, 5, 6, 7, 8, 9, 10, 11, 12, 13, 14, 15, 16]) G0 G_69 := (jNk.rf).tr hN_69
                have hg_71 := hb_692 _ _ hg_r0
                have hg_72 := hb_692 _ _ hg_r1
                have hg_73 := hb_692 _ _ hg_bo
                have hg_74 := hb_692 _ _ hg_pa
                have hg_75 := hb_692 _ _ hg_ou
                have hg_76 := hb_692 _ _ hg_js
                have hg_77 := hb_692 _ _ hg_wk
                have hg_78 := hb_692 _ _ hg_wi
                have hg_79 := hb_692 _ _ hg_wz
                have hg_80 := hb_692 _ _ hg_jnx
                have hg_81 := hb_692 _ _ hg_jkf
                have hg_82 := hb_692 _ _ hg_jks
                have hg_83 := hb_692 _ _ hg_jun
                have hd_84 := jYb.grow (hh_69.iv 1 rfl) hb_692 hN_69 (by decide)
                have hh_85 := hh_69.sub (L1 := [(r0, 13, 4, .ref bo), (bo, 2, 1, .int pc), (bo, 2, 0, .ref pa), (r0, 13, 3, .ref ou), (r0, 13, 2, .ref js), (js, 6, 7, .int pv), (js, 6, 8, .int pu), (js, 6, 0, .ref wk), (js, 6, 1, .ref wi), (js, 6, 2, .ref wz), (js, 6, 3, .ref jnx), (js, 6, 4, .ref jkf), (js, 6, 5, .ref jks), (js, 6, 6, .ref jun), (r0, 13, 11, .int pz)]) [0, 1, 2, 3, 4, 5, 6, 7, 8, 9, 10, 11, 12, 13, 14] rfl (M1 := [(wk, 140, 1502, ca 1, fk), (wi, 141, 1502, ca 1, fi), (wz, 142, 1502, ca 1, fz), (jnx, 143, 1502, ca 1, fn), (jkf, 144, 1502, ca 1, fa), (jks, 145, 1502, ca 1, fs), (jun, 146, 3000, ca 1, fu)]) [0, 1, 2, 3, 4, 5, 6] rfl (I1 := [([(2, 0), (2, 1)], jOl (dC, dI) G0 2 [bo, ou] s.heap), (jFs11, jSef dC dI G0)]) [0, 2] rfl
                clear hh_69
                have hh_86 := hh_85.addI (jYb.ie hd_84)
                clear hh_85
                have hd_87 := jSef.grow (hh_86.iv 2 rfl) hb_692 hN_69 (by decide)
                have hh_88 := hh_86.sub (L1 := [(r0, 13, 4, .ref bo), (bo, 2, 1, .int pc), (bo, 2, 0, .ref pa), (r0, 13, 3, .ref ou), (r0, 13, 2, .ref js), (js, 6, 7, .int pv), (js, 6, 8, .int pu), (js, 6, 0, .ref wk), (js, 6, 1, .ref wi), (js, 6, 2, .ref wz), (js, 6, 3, .ref jnx), (js, 6, 4, .ref jkf), (js, 6, 5, .ref jks), (js, 6, 6, .ref jun), (r0, 13, 11, .int pz)]) [0, 1, 2, 3, 4, 5, 6, 7, 8, 9, 10, 11, 12, 13, 14] rfl (M1 := [(wk, 140, 1502, ca 1, fk), (wi, 141, 1502, ca 1, fi), (wz, 142, 1502, ca 1, fz), (jnx, 143, 1502, ca 1, fn), (jkf, 144, 1502, ca 1, fa), (jks, 145, 1502, ca 1, fs), (jun, 146, 3000, ca 1, fu)]) [0, 1, 2, 3, 4, 5, 6] rfl (I1 := [(jFy, jYb dC dI G_69), ([(2, 0), (2, 1)], jOl (dC, dI) G0 2 [bo, ou] s.heap)]) [0, 1] rfl
                clear hh_86
                have hh_89 := hh_88.addI (jSef.ie hd_87)
                clear hh_88
                have hh_90 := hh_89.addIs hbE_69
                obtain ⟨hr_70b, hr_70p⟩ := hr_70
                try simp only at hr_70p
                have hr_70' := jb_01 hr_70b
                have hsz_91 := hh_90.2.2.2.2.2.1
                have htt_91 := hh_90.2.2.2.2.2.2.1
                refine W.room (fun hrc_91 hrs_91 => ?_)
                refine va_callv (A0 := jA base) (H0 := s.heap) (va_runV (As := [.ref r1, .int r_70]) (rest := []) ⟨hx, hb, hml, hown, hts⟩ (uX11_answerOrWait l dC dI ca base B hB hAp hB1 hB2 hB3 hB4 hB5 hB7 hB8 hB9 hB10 hB11 hB13 hB101 hB102 hB132 hB196 hB210 hB214 hB222 hB280 hB286 hB287 hB288 hB313 G_69 H_69 r0 r1 r_70 bo pc pa n_pa ou wl LC LS) (cwV 2 hts (jgV (jWr_29 _ (List.mem_of_getElem? (i := 15) rfl)) (jWr_29 _ (List.mem_of_getElem? (i := 16) rfl)) (jWr_29 _ (List.mem_of_getElem? (i := 17) rfl)) (jWr_1 _ (List.mem_of_getElem? (i := 2) rfl)) (jWr_29 _ (List.mem_of_getElem? (i := 18) rfl))) rfl rfl rfl (by decide +kernel) ⟨by rw [← hR]; exact Nat.le_of_ble_eq_true rfl, by rw [← hR]; exact Nat.le_of_ble_eq_true rfl⟩) ⟨fun a U g mk q => by obtain ⟨q0, q1, q2, qK, q10, q11, q12, q13, q14, q15, q16, q17, q18, q19, q20, q21⟩ := q; exact ⟨q0, q1, q2, jG.calling g mk a qK, (va_K.moved (Vm.Alike.refl U.vm) q10), (jK5.moved (Vm.Alike.refl U.vm) q11), (jK7.calling g mk a q12), q13, q14, q15, q16, q17, q18, q19, q20, q21⟩, hh_90.recv (C := RX11) (T := TX11) (N := 19) hB13 rfl (by decide) hg_71 hK, fun U hU hW => ⟨rfl, hU, hh_90.2.1, hG.step hW hU hh_90.1, va_K.moved hW.alike hK2, jK5.moved hW.alike hK5, (hK7.step hW hU hh_90.1), hg_71, hg_72, (hr_70b), hg_73, hg_74, hg_75, (hh_90.2.2.1.sub (L1 := [(r0, 13, 4, .ref bo), (bo, 2, 1, .int pc), (bo, 2, 0, .ref pa), (r0, 13, 3, .ref ou)]) [0, 1, 2, 3] rfl), (hh_90.2.2.2.2.2.2.2.2.sub (L1 := [(jFy, jYb dC dI G_69), (jFs11, jSef dC dI G_69), (jFl, jLs dC dI ca G_69 3 none wl)]) [2, 1, 0] rfl), (by omega), (by omega), ⟨(by first | omega | rfl | assumption | fail), (by first | omega | rfl | assumption | fail), (by first | omega | rfl | assumption | fail), (by first | omega | rfl | assumption | fail), (by first | assumption | fail | omega)⟩⟩⟩ rfl rfl hl.1 rfl (lv_room (Nat.le_of_ble_eq_true rfl)) dX11_request_198 ⟨by rw [hRc]; omega, by rw [hRs]; omega⟩) hh_90.1 (fun q _ h => h) (fun q h => h) (fun u_91 t_91 H_91 locs_91 ht_91 hvm_91 hr_92 hb_91 hz_91 hk_91 hS_91 => ?_)
                obtain ⟨qc_91, qa_91, m_qa_91, G_91⟩ := u_91
                rw [ht_91] at hb_91
                simp only at hb_91
                obtain ⟨⟨hb_911, hb_912, hb_913, hb_914, hb_915, hb_916⟩, hgq_91_0, hN_91, hbO_91, hbE_91⟩ := hb_91
                have hh_91 : jSt (dC, dI) B base G0 G_91 EX11_requestU s.heap ((0 + (1)) + ((m_qa_91 - n_pa) / 16 + 1)) ((0 + ((pu.toInt : Int).toNat)) + (2 * (m_qa_91 - n_pa) + 40)) [(bo, 2, 1, .int qc_91), (bo, 2, 0, .ref qa_91), (r0, 13, 4, .ref bo), (r0, 13, 3, .ref ou), (r0, 13, 2, .ref js), (js, 6, 7, .int pv), (js, 6, 8, .int pu), (js, 6, 0, .ref wk), (js, 6, 1, .ref wi), (js, 6, 2, .ref wz), (js, 6, 3, .ref jnx), (js, 6, 4, .ref jkf), (js, 6, 5, .ref jks), (js, 6, 6, .ref jun), (r0, 13, 11, .int pz)] [(wk, 140, 1502, ca 1, fk), (wi, 141, 1502, ca 1, fi), (wz, 142, 1502, ca 1, fz), (jnx, 143, 1502, ca 1, fn), (jkf, 144, 1502, ca 1, fa), (jks, 145, 1502, ca 1, fs), (jun, 146, 3000, ca 1, fu)] [] H_91 locs_91 := (hh_90.callG hb_911 hb_912 hb_913 hb_914 hb_915 hS_91 rfl (L1 := [(r0, 13, 4, .ref bo), (r0, 13, 3, .ref ou), (r0, 13, 2, .ref js), (js, 6, 7, .int pv), (js, 6, 8, .int pu), (js, 6, 0, .ref wk), (js, 6, 1, .ref wi), (js, 6, 2, .ref wz), (js, 6, 3, .ref jnx), (js, 6, 4, .ref jkf), (js, 6, 5, .ref jks), (js, 6, 6, .ref jun), (r0, 13, 11, .int pz)]) [0, 3, 4, 5, 6, 7, 8, 9, 10, 11, 12, 13, 14] rfl rfl (M1 := [(wk, 140, 1502, ca 1, fk), (wi, 141, 1502, ca 1, fi), (wz, 142, 1502, ca 1, fz), (jnx, 143, 1502, ca 1, fn), (jkf, 144, 1502, ca 1, fa), (jks, 145, 1502, ca 1, fs), (jun, 146, 3000, ca 1, fu)]) [0, 1, 2, 3, 4, 5, 6] rfl rfl (I1 := []) [] rfl rfl).more hb_916
                have hNn_91 : (jNk [0, 1, 2, 3, 4, 5, 6, 7, 8, 9, 10, 11, 12, 13, 14, 15, 16]) G0 G_91 := (hNn_69).tr hN_91
                have hg_93 := hb_912 _ _ hg_71
                have hg_94 := hb_912 _ _ hg_72
                have hg_95 := hb_912 _ _ hg_73
                have hg_96 := hb_912 _ _ hg_75
                have hg_97 := hb_912 _ _ hg_76
                have hg_98 := hb_912 _ _ hg_77
                have hg_99 := hb_912 _ _ hg_78
                have hg_100 := hb_912 _ _ hg_79
                have hg_101 := hb_912 _ _ hg_80
                have hg_102 := hb_912 _ _ hg_81
                have hg_103 := hb_912 _ _ hg_82
                have hg_104 := hb_912 _ _ hg_83
                have hh_105 := hh_91.addIs hbE_91
                have hd_106 := jOl.trL (hh_90.iv 3 rfl) hh_90.2.2.2.2.1 hbO_91 (by simp)
                have hh_107 := hh_105.addI (jOl.ie (dC := dC) (dI := dI) (G0 := G0) (k := 2) (rs := [bo, ou]) (H0 := s.heap) (F := [(2, 0), (2, 1)]) (C := RX0) (T := TX0) (N := 2) rfl (by decide) hh_105.2.2.2.2.1 (hd_106))
                clear hh_105
                try simp only at hr_92
                obtain ⟨hr_92_0, hr_92_1, hr_92_2, hr_92_3, hr_92_4⟩ := hr_92
                have hh_108 := hh_107.wk (zc1 := (m_qa_91 - n_pa) / 16 + 2) (zs1 := 2 * (m_qa_91 - n_pa) + 40 + pu.toInt.toNat) (by omega) (by omega)
                clear hh_107
                try clear hsz_91 htt_91 hrc_91 hrs_91
                try clear hb_914 hb_915
                refine lv_goto (tgt := 212) hx hb dX11_request_201 (by decide) ?_
                have hqz9 : (pz.toInt : Int) = jdRq T9 pv.toInt pz.toInt := by have h9 : jdRq T9 pv.toInt pz.toInt = _ := jdRq.e hm9 (by omega) (by rw [← hr_36p_1]; omega); omega
                have hsz_109 := hh_108.2.2.2.2.2.1
                have htt_109 := hh_108.2.2.2.2.2.2.1
                refine W.room (fun hrc_109 hrs_109 => ?_)
                refine W.widen (k := LC - s.heap.size) (n := LS - jTot s.heap) (by omega) (by omega) ?_
                rw [hQ]
                exact W.vret hx hb hr (fun t ht hW => ⟨⟨(qc_91, pz, qa_91, m_qa_91, G_91), rfl, by (try dsimp only); exact ⟨(by first | omega | rfl | assumption | fail), (by first | omega | rfl | assumption | fail), (by first | omega | rfl | assumption | fail), (by first | omega | rfl | assumption | fail), (by first | assumption | fail | omega), (by first | assumption | fail | omega)⟩, ⟨hh_108.ra (by first | (simp only; omega) | omega) (by first | (simp only; omega) | omega) (M1 := [(bo, 2, 1, .int qc_91), (r0, 13, 11, .int pz), (bo, 2, 0, .ref qa_91)]) [0, 14, 1] rfl ht, hgq_91_0, hNn_91, by rw [ht]; exact hh_108.iv 0 rfl, by rw [ht]; exact hh_108.2.2.2.2.2.2.2.2.sub (L1 := [(jFy, jYb dC dI G_91), (jFs11, jSef dC dI G_91), (jFl, jLs dC dI ca G_91 3 none wl)]) [1, 2, 3] rfl⟩⟩, by rw [ht]; try exact hh_108.1.1, fun q h9 hq => by rw [ht]; try exact hh_108.1.2.1 q h9 hq⟩) hh_108.1.2.2 dX11_request_212
            · skip
              have c_40' : r_39.toInt ≠ 0 := jb_eq_n (rfl) ((by decide)) c_40
              first | (have hr_3_2q := hr_3_2.resolve_left (by omega); clear hr_3_2) | (have hr_3_2q := hr_3_2.resolve_right (by omega); clear hr_3_2) | skip
              first | (have hr_5p_0q := hr_5p_0.resolve_left (by omega); clear hr_5p_0) | (have hr_5p_0q := hr_5p_0.resolve_right (by omega); clear hr_5p_0) | skip
              first | (have hr_39p_0q := hr_39p_0.resolve_left (by omega); clear hr_39p_0) | (have hr_39p_0q := hr_39p_0.resolve_right (by omega); clear hr_39p_0) | try clear hr_39p_0
              refine lv_aload_n hx hb dX11_request_164 rfl (lv_at hl 2 rfl) ?_
              refine lv_aload_n hx hb dX11_request_165 rfl (lv_at hl 3 rfl) ?_
              refine lv_aload_n hx hb dX11_request_166 rfl (lv_at hl 2 rfl) ?_
              refine lv_aload_n hx hb dX11_request_167 rfl (lv_at hl 3 rfl) ?_
              have hsz_110 := hh_38.2.2.2.2.2.1
              have htt_110 := hh_38.2.2.2.2.2.2.1
              refine W.room (fun hrc_110 hrs_110 => ?_)
              refine va_calli (A0 := jA base) (H0 := s.heap) (va_runV (As := [.ref r1]) (rest := [.ref r1, .ref r0]) ⟨hx, hb, hml, hown, hts⟩ (uX11_aimAtPlace l dC dI ca base B hB hAp hB1 hB3 hB6 hB10 hB13 hB101 hB140 hB141 hB142 hB143 hB144 hB145 hB146 hB172 hB173 hB174 hB221 G0 H_38 r0 r1 wl) (cwV 1 hts (jgV (jWr_27 _ (List.mem_of_getElem? (i := 10) rfl)) (jWr_27 _ (List.mem_of_getElem? (i := 11) rfl)) (jWr_27 _ (List.mem_of_getElem? (i := 12) rfl)) (jWr_1 _ (List.mem_of_getElem? (i := 2) rfl)) (jWr_27 _ (List.mem_of_getElem? (i := 13) rfl))) rfl rfl rfl (by decide +kernel) ⟨by rw [← hR]; exact Nat.le_of_ble_eq_true rfl, by rw [← hR]; exact Nat.le_of_ble_eq_true rfl⟩) ⟨fun a U g mk q => by obtain ⟨q0, q1, q2, qK, q10, q11, q12, q13, q14, q15⟩ := q; exact ⟨q0, q1, q2, jG.calling g mk a qK, (jK7.calling g mk a q10), q11, q12, q13, q14, q15⟩, hh_38.recv (C := RX11) (T := TX11) (N := 19) hB13 rfl (by decide) hg_r0 hK, fun U hU hW => ⟨rfl, hU, hh_38.2.1, hG.step hW hU hh_38.1, (hK7.step hW hU hh_38.1), hg_r0, hg_r1, jP.nil, (hh_38.2.2.2.2.2.2.2.2.sub (L1 := [(jFl, jLs dC dI ca G0 3 none wl)]) [3] rfl), trivial⟩⟩ rfl rfl hl.1 rfl (lv_room (Nat.le_of_ble_eq_true rfl)) dX11_request_168 ⟨by rw [hRc]; show _ + 0 ≤ _; omega, by rw [hRs]; show _ + 0 ≤ _; omega⟩) hh_38.1 (fun q _ h => h) (fun q h => h) (fun r_111 u_110 t_110 H_110 locs_110 ht_110 hvm_110 hr_111 hb_110 hz_110 hk_110 hS_110 => ?_)
              rw [ht_110] at hb_110
              obtain ⟨hb_110, hbE_110⟩ := hb_110
              obtain ⟨hb_1101, hb_1102, hb_1103, hb_1104, hb_1105⟩ := hb_110
              have hh_110 : jSt (dC, dI) B base G0 G0 EX11_requestU s.heap 0 0 [(r0, 13, 4, .ref bo), (bo, 2, 1, .int pc), (bo, 2, 0, .ref pa), (r0, 13, 3, .ref ou), (r0, 13, 2, .ref js), (js, 6, 7, .int pv), (js, 6, 8, .int pu), (js, 6, 0, .ref wk), (js, 6, 1, .ref wi), (js, 6, 2, .ref wz), (js, 6, 3, .ref jnx), (js, 6, 4, .ref jkf), (js, 6, 5, .ref jks), (js, 6, 6, .ref jun), (r0, 13, 11, .int pz)] [(wk, 140, 1502, ca 1, fk), (wi, 141, 1502, ca 1, fi), (wz, 142, 1502, ca 1, fz), (jnx, 143, 1502, ca 1, fn), (jkf, 144, 1502, ca 1, fa), (jks, 145, 1502, ca 1, fs), (jun, 146, 3000, ca 1, fu)] [(jFl, jLs dC dI ca G0 3 none wl), ([(2, 0), (2, 1)], jOl (dC, dI) G0 2 [bo, ou] s.heap), (jFy, jYb dC dI G0), (jFs11, jSef dC dI G0)] H_110 locs_110 := (((hh_38.call hb_1101 hb_1102 hb_1103 hb_1104 hS_110 rfl (L1 := [(r0, 13, 4, .ref bo), (bo, 2, 1, .int pc), (bo, 2, 0, .ref pa), (r0, 13, 3, .ref ou), (r0, 13, 2, .ref js), (js, 6, 7, .int pv), (js, 6, 8, .int pu), (js, 6, 0, .ref wk), (js, 6, 1, .ref wi), (js, 6, 2, .ref wz), (js, 6, 3, .ref jnx), (js, 6, 4, .ref jkf), (js, 6, 5, .ref jks), (js, 6, 6, .ref jun), (r0, 13, 11, .int pz)]) [0, 1, 2, 3, 4, 5, 6, 7, 8, 9, 10, 11, 12, 13, 14] rfl rfl (M1 := [(wk, 140, 1502, ca 1, fk), (wi, 141, 1502, ca 1, fi), (wz, 142, 1502, ca 1, fz), (jnx, 143, 1502, ca 1, fn), (jkf, 144, 1502, ca 1, fa), (jks, 145, 1502, ca 1, fs), (jun, 146, 3000, ca 1, fu)]) [0, 1, 2, 3, 4, 5, 6] rfl rfl (I1 := [([(2, 0), (2, 1)], jOl (dC, dI) G0 2 [bo, ou] s.heap), (jFy, jYb dC dI G0), (jFs11, jSef dC dI G0)]) [0, 1, 2] rfl rfl).more hb_1105)).addIs hbE_110
              clear hh_38 ht_110 hvm_110 hz_110 hk_110 hS_110 hb_1101 hb_1102 hb_1103 hb_1104 hb_1105
              clear  hbE_110
              obtain ⟨hr_111b, hr_111p⟩ := hr_111
              have hr_111' := jb_01 hr_111b
              have hsz_112 := hh_110.2.2.2.2.2.1
              have htt_112 := hh_110.2.2.2.2.2.2.1
              refine W.room (fun hrc_112 hrs_112 => ?_)
              refine va_callv (A0 := jA base) (H0 := s.heap) (va_runV (As := [.ref r1, .int r_111]) (rest := []) ⟨hx, hb, hml, hown, hts⟩ (uX11_answerOrWait l dC dI ca base B hB hAp hB1 hB2 hB3 hB4 hB5 hB7 hB8 hB9 hB10 hB11 hB13 hB101 hB102 hB132 hB196 hB210 hB214 hB222 hB280 hB286 hB287 hB288 hB313 G0 H_110 r0 r1 r_111 bo pc pa n_pa ou wl LC LS) (cwV 2 hts (jgV (jWr_29 _ (List.mem_of_getElem? (i := 15) rfl)) (jWr_29 _ (List.mem_of_getElem? (i := 16) rfl)) (jWr_29 _ (List.mem_of_getElem? (i := 17) rfl)) (jWr_1 _ (List.mem_of_getElem? (i := 2) rfl)) (jWr_29 _ (List.mem_of_getElem? (i := 18) rfl))) rfl rfl rfl (by decide +kernel) ⟨by rw [← hR]; exact Nat.le_of_ble_eq_true rfl, by rw [← hR]; exact Nat.le_of_ble_eq_true rfl⟩) ⟨fun a U g mk q => by obtain ⟨q0, q1, q2, qK, q10, q11, q12, q13, q14, q15, q16, q17, q18, q19, q20, q21⟩ := q; exact ⟨q0, q1, q2, jG.calling g mk a qK, (va_K.moved (Vm.Alike.refl U.vm) q10), (jK5.moved (Vm.Alike.refl U.vm) q11), (jK7.calling g mk a q12), q13, q14, q15, q16, q17, q18, q19, q20, q21⟩, hh_110.recv (C := RX11) (T := TX11) (N := 19) hB13 rfl (by decide) hg_r0 hK, fun U hU hW => ⟨rfl, hU, hh_110.2.1, hG.step hW hU hh_110.1, va_K.moved hW.alike hK2, jK5.moved hW.alike hK5, (hK7.step hW hU hh_110.1), hg_r0, hg_r1, (hr_111b), hg_bo, hg_pa, hg_ou, (hh_110.2.2.1.sub (L1 := [(r0, 13, 4, .ref bo), (bo, 2, 1, .int pc), (bo, 2, 0, .ref pa), (r0, 13, 3, .ref ou)]) [0, 1, 2, 3] rfl), (hh_110.2.2.2.2.2.2.2.2.sub (L1 := [(jFy, jYb dC dI G0), (jFs11, jSef dC dI G0), (jFl, jLs dC dI ca G0 3 none wl)]) [2, 3, 0] rfl), (by omega), (by omega), ⟨(by first | omega | rfl | assumption | fail), (by first | omega | rfl | assumption | fail), (by first | omega | rfl | assumption | fail), (by first | omega | rfl | assumption | fail), (by first | assumption | fail | omega)⟩⟩⟩ rfl rfl hl.1 rfl (lv_room (Nat.le_of_ble_eq_true rfl)) dX11_request_171 ⟨by rw [hRc]; omega, by rw [hRs]; omega⟩) hh_110.1 (fun q _ h => h) (fun q h => h) (fun u_112 t_112 H_112 locs_112 ht_112 hvm_112 hr_113 hb_112 hz_112 hk_112 hS_112 => ?_)
              obtain ⟨qc_112, qa_112, m_qa_112, G_112⟩ := u_112
              rw [ht_112] at hb_112
              simp only at hb_112
              obtain ⟨⟨hb_1121, hb_1122, hb_1123, hb_1124, hb_1125, hb_1126⟩, hgq_112_0, hN_112, hbO_112, hbE_112⟩ := hb_112
              have hh_112 : jSt (dC, dI) B base G0 G_112 EX11_requestU s.heap (0 + ((m_qa_112 - n_pa) / 16 + 1)) (0 + (2 * (m_qa_112 - n_pa) + 40)) [(bo, 2, 1, .int qc_112), (bo, 2, 0, .ref qa_112), (r0, 13, 4, .ref bo), (r0, 13, 3, .ref ou), (r0, 13, 2, .ref js), (js, 6, 7, .int pv), (js, 6, 8, .int pu), (js, 6, 0, .ref wk), (js, 6, 1, .ref wi), (js, 6, 2, .ref wz), (js, 6, 3, .ref jnx), (js, 6, 4, .ref jkf), (js, 6, 5, .ref jks), (js, 6, 6, .ref jun), (r0, 13, 11, .int pz)] [(wk, 140, 1502, ca 1, fk), (wi, 141, 1502, ca 1, fi), (wz, 142, 1502, ca 1, fz), (jnx, 143, 1502, ca 1, fn), (jkf, 144, 1502, ca 1, fa), (jks, 145, 1502, ca 1, fs), (jun, 146, 3000, ca 1, fu)] [] H_112 locs_112 := (hh_110.callG hb_1121 hb_1122 hb_1123 hb_1124 hb_1125 hS_112 rfl (L1 := [(r0, 13, 4, .ref bo), (r0, 13, 3, .ref ou), (r0, 13, 2, .ref js), (js, 6, 7, .int pv), (js, 6, 8, .int pu), (js, 6, 0, .ref wk), (js, 6, 1, .ref wi), (js, 6, 2, .ref wz), (js, 6, 3, .ref jnx), (js, 6, 4, .ref jkf), (js, 6, 5, .ref jks), (js, 6, 6, .ref jun), (r0, 13, 11, .int pz)]) [0, 3, 4, 5, 6, 7, 8, 9, 10, 11, 12, 13, 14] rfl rfl (M1 := [(wk, 140, 1502, ca 1, fk), (wi, 141, 1502, ca 1, fi), (wz, 142, 1502, ca 1, fz), (jnx, 143, 1502, ca 1, fn), (jkf, 144, 1502, ca 1, fa), (jks, 145, 1502, ca 1, fs), (jun, 146, 3000, ca 1, fu)]) [0, 1, 2, 3, 4, 5, 6] rfl rfl (I1 := []) [] rfl rfl).more hb_1126
              have hNn_112 : (jNk [0, 1, 2, 3, 4, 5, 6, 7, 8, 9, 10, 11, 12, 13, 14, 15, 16]) G0 G_112 := (jNk.rf).tr hN_112
              have hg_114 := hb_1122 _ _ hg_r0
              have hg_115 := hb_1122 _ _ hg_r1
              have hg_116 := hb_1122 _ _ hg_bo
              have hg_117 := hb_1122 _ _ hg_ou
              have hg_118 := hb_1122 _ _ hg_js
              have hg_119 := hb_1122 _ _ hg_wk
              have hg_120 := hb_1122 _ _ hg_wi
              have hg_121 := hb_1122 _ _ hg_wz
              have hg_122 := hb_1122 _ _ hg_jnx
              have hg_123 := hb_1122 _ _ hg_jkf
              have hg_124 := hb_1122 _ _ hg_jks
              have hg_125 := hb_1122 _ _ hg_jun
              have hh_126 := hh_112.addIs hbE_112
              have hd_127 := jOl.trL (hh_110.iv 1 rfl) hh_110.2.2.2.2.1 hbO_112 (by simp)
              have hh_128 := hh_126.addI (jOl.ie (dC := dC) (dI := dI) (G0 := G0) (k := 2) (rs := [bo, ou]) (H0 := s.heap) (F := [(2, 0), (2, 1)]) (C := RX0) (T := TX0) (N := 2) rfl (by decide) hh_126.2.2.2.2.1 (hd_127))
              clear hh_126
              try simp only at hr_113
              obtain ⟨hr_113_0, hr_113_1, hr_113_2, hr_113_3, hr_113_4⟩ := hr_113
              have hh_129 := hh_128.wk (zc1 := (m_qa_112 - n_pa) / 16 + 2) (zs1 := 2 * (m_qa_112 - n_pa) + 40 + pu.toInt.toNat) (by omega) (by omega)
              clear hh_128
              try clear hsz_112 htt_112 hrc_112 hrs_112
              try clear hb_1124 hb_1125
              refine lv_goto (tgt := 212) hx hb dX11_request_174 (by decide) ?_
              have hqz9 : (pz.toInt : Int) = jdRq T9 pv.toInt pz.toInt := by have h9 : jdRq T9 pv.toInt pz.toInt = _ := jdRq.e hm9 (by omega) (by rw [← hr_36p_1]; omega); omega
              have hsz_130 := hh_129.2.2.2.2.2.1
              have htt_130 := hh_129.2.2.2.2.2.2.1
              refine W.room (fun hrc_130 hrs_130 => ?_)
              refine W.widen (k := LC - s.heap.size) (n := LS - jTot s.heap) (by omega) (by omega) ?_
              rw [hQ]
              exact W.vret hx hb hr (fun t ht hW => ⟨⟨(qc_112, pz, qa_112, m_qa_112, G_112), rfl, by (try dsimp only); exact ⟨(by first | omega | rfl | assumption | fail), (by first | omega | rfl | assumption | fail), (by first | omega | rfl | assumption | fail), (by first | omega | rfl | assumption | fail), (by first | assumption | fail | omega), (by first | assumption | fail | omega)⟩, ⟨hh_129.ra (by first | (simp only; omega) | omega) (by first | (simp only; omega) | omega) (M1 := [(bo, 2, 1, .int qc_112), (r0, 13, 11, .int pz), (bo, 2, 0, .ref qa_112)]) [0, 14, 1] rfl ht, hgq_112_0, hNn_112, by rw [ht]; exact hh_129.iv 0 rfl, by rw [ht]; exact hh_129.2.2.2.2.2.2.2.2.sub (L1 := [(jFy, jYb dC dI G_112), (jFs11, jSef dC dI G_112), (jFl, jLs dC dI ca G_112 3 none wl)]) [1, 2, 3] rfl⟩⟩, by rw [ht]; try exact hh_129.1.1, fun q h9 hq => by rw [ht]; try exact hh_129.1.2.1 q h9 hq⟩) hh_129.1.2.2 dX11_request_212
          · skip
            have c_37' : r_36.toInt ≠ 0 := jb_eq_n (rfl) ((by decide)) c_37
            first | (have hr_3_2q := hr_3_2.resolve_left (by omega); clear hr_3_2) | (have hr_3_2q := hr_3_2.resolve_right (by omega); clear hr_3_2) | skip
            first | (have hr_5p_0q := hr_5p_0.resolve_left (by omega); clear hr_5p_0) | (have hr_5p_0q := hr_5p_0.resolve_right (by omega); clear hr_5p_0) | skip
            first | (have hr_36p_0q := hr_36p_0.resolve_left (by omega); clear hr_36p_0) | (have hr_36p_0q := hr_36p_0.resolve_right (by omega); clear hr_36p_0) | try clear hr_36p_0
            refine lv_aload_n hx hb dX11_request_120 rfl (lv_at hl 2 rfl) ?_
            refine lv_iconst (v := 2) hx hb dX11_request_121 (by decide) ?_
            refine j7_put hx hb hown hK hh_35 hB hAp hB13 (C := RX11) (T := TX11) (N := 19) rfl (by decide) hg_r0 (i := 11) (by decide) hly_13_11 rfl hlk_77 rfl (ty := .int) (v := .int 2) (by decide +kernel) rfl rfl (⟨_, rfl, by omega, by omega⟩) rfl (L1 := [(r0, 13, 4, .ref bo), (bo, 2, 1, .int pc), (bo, 2, 0, .ref pa), (r0, 13, 3, .ref ou), (r0, 13, 2, .ref js), (js, 6, 7, .int pv), (js, 6, 8, .int pu), (js, 6, 0, .ref wk), (js, 6, 1, .ref wi), (js, 6, 2, .ref wz), (js, 6, 3, .ref jnx), (js, 6, 4, .ref jkf), (js, 6, 5, .ref jks), (js, 6, 6, .ref jun)]) [0, 1, 2, 3, 4, 5, 6, 7, 8, 9, 10, 11, 12, 13] rfl rfl rfl dX11_request_122 (fun H_131 locs_131 hh_131 => ?_)
            clear hh_35
            refine lv_aload_n hx hb dX11_request_125 rfl (lv_at hl 2 rfl) ?_
            refine lv_aload_n hx hb dX11_request_126 rfl (lv_at hl 3 rfl) ?_
            refine j_ldcSw hx hb hown rstr289 dX11_request_127 ?_
            have hsz_132 := hh_131.2.2.2.2.2.1
            have htt_132 := hh_131.2.2.2.2.2.2.1
            refine W.room (fun hrc_132 hrs_132 => ?_)
            refine va_callv (A0 := jA base) (H0 := s.heap) (va_runV (As := [.ref r1, .ref str289]) (rest := []) ⟨hx, hb, hml, hown, hts⟩ (uX11_beginAnswer l dC dI ca base B hB hAp hB2 hB10 hB13 hB196 G0 H_131 r0 r1 str289 10 bo pc pa n_pa LC LS) (cwV 2 hts (jgV (jWr_26 _ (List.mem_of_getElem? (i := 7) rfl)) (jWr_26 _ (List.mem_of_getElem? (i := 8) rfl)) (jWr_26 _ (List.mem_of_getElem? (i := 9) rfl)) (jWr_1 _ (List.mem_of_getElem? (i := 2) rfl)) (jWr_26 _ (List.mem_of_getElem? (i := 10) rfl))) rfl rfl rfl (by decide +kernel) ⟨by rw [← hR]; exact Nat.le_of_ble_eq_true rfl, by rw [← hR]; exact Nat.le_of_ble_eq_true rfl⟩) ⟨fun a U g mk q => by obtain ⟨q0, q1, q2, qK, q10, q11, q12, q13, q14, q15, q16, q17⟩ := q; exact ⟨q0, q1, q2, jG.calling g mk a qK, (q10.moved (Vm.Alike.refl U.vm)), q11, q12, q13, q14, q15, q16, q17⟩, hh_131.recv (C := RX11) (T := TX11) (N := 19) hB13 rfl (by decide) hg_r0 hK, fun U hU hW => ⟨rfl, hU, hh_131.2.1, hG.step hW hU hh_131.1, (hstr289.moved hW.alike).kept hh_131.1.2.1, hg_r1, hg_r0, hg_bo, hg_pa, (hh_131.2.2.1.sub (L1 := [(r0, 13, 4, .ref bo), (bo, 2, 1, .int pc), (bo, 2, 0, .ref pa)]) [1, 2, 3] rfl), (hh_131.2.2.2.2.2.2.2.2.sub (L1 := [(jFy, jYb dC dI G0)]) [1] rfl), (by omega), (by omega), ⟨(by first | omega | rfl | assumption | fail), (by first | omega | rfl | assumption | fail), (by first | omega | rfl | assumption | fail), (by first | omega | rfl | assumption | fail), (by first | assumption | fail | omega), (by first | omega | rfl | assumption | fail)⟩⟩⟩ rfl rfl hl.1 rfl (lv_room (Nat.le_of_ble_eq_true rfl)) dX11_request_130 ⟨by rw [hRc]; omega, by rw [hRs]; omega⟩) hh_131.1 (fun q _ h => h) (fun q h => h) (fun u_132 t_132 H_132 locs_132 ht_132 hvm_132 hr_133 hb_132 hz_132 hk_132 hS_132 => ?_)
            obtain ⟨qc_132, qa_132, m_qa_132, G_132⟩ := u_132
            rw [ht_132] at hb_132
            simp only at hb_132
            obtain ⟨⟨hb_1321, hb_1322, hb_1323, hb_1324, hb_1325, hb_1326⟩, hgq_132_0, hN_132, hbO_132, hbE_132⟩ := hb_132
            have hh_132 : jSt (dC, dI) B base G0 G_132 EX11_requestU s.heap (0 + ((m_qa_132 - n_pa) / 16)) (0 + (2 * (m_qa_132 - n_pa))) [(bo, 2, 1, .int qc_132), (bo, 2, 0, .ref qa_132), (r0, 13, 11, .int 2), (r0, 13, 4, .ref bo), (r0, 13, 3, .ref ou), (r0, 13, 2, .ref js), (js, 6, 7, .int pv), (js, 6, 8, .int pu), (js, 6, 0, .ref wk), (js, 6, 1, .ref wi), (js, 6, 2, .ref wz), (js, 6, 3, .ref jnx), (js, 6, 4, .ref jkf), (js, 6, 5, .ref jks), (js, 6, 6, .ref jun)] [(wk, 140, 1502, ca 1, fk), (wi, 141, 1502, ca 1, fi), (wz, 142, 1502, ca 1, fz), (jnx, 143, 1502, ca 1, fn), (jkf, 144, 1502, ca 1, fa), (jks, 145, 1502, ca 1, fs), (jun, 146, 3000, ca 1, fu)] [(jFs11, jSef dC dI G0), (jFl, jLs dC dI ca G0 3 none wl)] H_132 locs_132 := (hh_131.callG hb_1321 hb_1322 hb_1323 hb_1324 hb_1325 hS_132 rfl (L1 := [(r0, 13, 11, .int 2), (r0, 13, 4, .ref bo), (r0, 13, 3, .ref ou), (r0, 13, 2, .ref js), (js, 6, 7, .int pv), (js, 6, 8, .int pu), (js, 6, 0, .ref wk), (js, 6, 1, .ref wi), (js, 6, 2, .ref wz), (js, 6, 3, .ref jnx), (js, 6, 4, .ref jkf), (js, 6, 5, .ref jks), (js, 6, 6, .ref jun)]) [0, 1, 4, 5, 6, 7, 8, 9, 10, 11, 12, 13, 14] rfl rfl (M1 := [(wk, 140, 1502, ca 1, fk), (wi, 141, 1502, ca 1, fi), (wz, 142, 1502, ca 1, fz), (jnx, 143, 1502, ca 1, fn), (jkf, 144, 1502, ca 1, fa), (jks, 145, 1502, ca 1, fs), (jun, 146, 3000, ca 1, fu)]) [0, 1, 2, 3, 4, 5, 6] rfl rfl (I1 := [(jFs11, jSef dC dI G0), (jFl, jLs dC dI ca G0 3 none wl)]) [2, 3] rfl rfl).more hb_1326
            have hNn_132 : (jNk [0, 1, 2, 3, 4, 5, 6, 7, 8, 9, 10, 11, 12, 13, 14, 15, 16]) G0 G_132 := (jNk.rf).tr hN_132
            have hg_134 := hb_1322 _ _ hg_r0
            have hg_135 := hb_1322 _ _ hg_r1
            have hg_136 := hb_1322 _ _ hg_bo
            have hg_137 := hb_1322 _ _ hg_ou
            have hg_138 := hb_1322 _ _ hg_js
            have hg_139 := hb_1322 _ _ hg_wk
            have hg_140 := hb_1322 _ _ hg_wi
            have hg_141 := hb_1322 _ _ hg_wz
            have hg_142 := hb_1322 _ _ hg_jnx
            have hg_143 := hb_1322 _ _ hg_jkf
            have hg_144 := hb_1322 _ _ hg_jks
            have hg_145 := hb_1322 _ _ hg_jun
            have hd_146 := jSef.grow (hh_132.iv 0 rfl) hb_1322 hN_132 (by decide)
            have hh_147 := hh_132.sub (L1 := [(bo, 2, 1, .int qc_132), (bo, 2, 0, .ref qa_132), (r0, 13, 11, .int 2), (r0, 13, 4, .ref bo), (r0, 13, 3, .ref ou), (r0, 13, 2, .ref js), (js, 6, 7, .int pv), (js, 6, 8, .int pu), (js, 6, 0, .ref wk), (js, 6, 1, .ref wi), (js, 6, 2, .ref wz), (js, 6, 3, .ref jnx), (js, 6, 4, .ref jkf), (js, 6, 5, .ref jks), (js, 6, 6, .ref jun)]) [0, 1, 2, 3, 4, 5, 6, 7, 8, 9, 10, 11, 12, 13, 14] rfl (M1 := [(wk, 140, 1502, ca 1, fk), (wi, 141, 1502, ca 1, fi), (wz, 142, 1502, ca 1, fz), (jnx, 143, 1502, ca 1, fn), (jkf, 144, 1502, ca 1, fa), (jks, 145, 1502, ca 1, fs), (jun, 146, 3000, ca 1, fu)]) [0, 1, 2, 3, 4, 5, 6] rfl (I1 := [(jFl, jLs dC dI ca G0 3 none wl)]) [1] rfl
            clear hh_132
            have hh_148 := hh_147.addI (jSef.ie hd_146)
            clear hh_147
            have hd_149 := jLs.grow (hh_148.iv 1 rfl) hb_1322 hN_132 (by decide)
            have hh_150 := hh_148.sub (L1 := [(bo, 2, 1, .int qc_132), (bo, 2, 0, .ref qa_132), (r0, 13, 11, .int 2), (r0, 13, 4, .ref bo), (r0, 13, 3, .ref ou), (r0, 13, 2, .ref js), (js, 6, 7, .int pv), (js, 6, 8, .int pu), (js, 6, 0, .ref wk), (js, 6, 1, .ref wi), (js, 6, 2, .ref wz), (js, 6, 3, .ref jnx), (js, 6, 4, .ref jkf), (js, 6, 5, .ref jks), (js, 6, 6, .ref jun)]) [0, 1, 2, 3, 4, 5, 6, 7, 8, 9, 10, 11, 12, 13, 14] rfl (M1 := [(wk, 140, 1502, ca 1, fk), (wi, 141, 1502, ca 1, fi), (wz, 142, 1502, ca 1, fz), (jnx, 143, 1502, ca 1, fn), (jkf, 144, 1502, ca 1, fa), (jks, 145, 1502, ca 1, fs), (jun, 146, 3000, ca 1, fu)]) [0, 1, 2, 3, 4, 5, 6] rfl (I1 := [(jFs11, jSef dC dI G_132)]) [0] rfl
            clear hh_148
            have hh_151 := hh_150.addI (jLs.ie hd_149)
            clear hh_150
            have hh_152 := hh_151.addIs hbE_132
            have hd_153 := jOl.trL (hh_131.iv 0 rfl) hh_131.2.2.2.2.1 hbO_132 (by simp)
            have hh_154 := hh_152.addI (jOl.ie (dC := dC) (dI := dI) (G0 := G0) (k := 2) (rs := [bo, ou]) (H0 := s.heap) (F := [(2, 0), (2, 1)]) (C := RX0) (T := TX0) (N := 2) rfl (by decide) hh_152.2.2.2.2.1 (hd_153))
            clear hh_152
            try simp only at hr_133
            obtain ⟨hr_133_0, hr_133_1, hr_133_2, hr_133_3, hr_133_4⟩ := hr_133
            have hh_155 := hh_154.wk (zc1 := (m_qa_132 - n_pa) / 16 + 2) (zs1 := 2 * (m_qa_132 - n_pa) + 40 + pu.toInt.toNat) (by omega) (by omega)
            clear hh_154
            try clear hsz_132 htt_132 hrc_132 hrs_132
            try clear hb_1324 hb_1325
            refine lv_aload_n hx hb dX11_request_133 rfl (lv_at hl 2 rfl) ?_
            refine j7_read hx hb hown hK (C := RX11) (T := TX11) (N := 19) rfl hly_13_4 hlk_35 (hh_155.at 3 rfl) dX11_request_134 ?_
            refine j_ldcSw hx hb hown rstr305 dX11_request_137 ?_
            have hsz_156 := hh_155.2.2.2.2.2.1
            have htt_156 := hh_155.2.2.2.2.2.2.1
            refine W.room (fun hrc_156 hrs_156 => ?_)
            refine va_callv (A0 := jA base) (H0 := s.heap) (va_runV (As := [.ref str305]) (rest := []) ⟨hx, hb, hml, hown, hts⟩ (uX0_text l dC dI ca base B hB hAp hB2 hB196 G_132 H_132 bo str305 5 qc_132 qa_132 m_qa_132 LC LS) (cwV 1 hts (jgV (jWr_26 _ (List.mem_of_getElem? (i := 11) rfl)) (jWr_25 _ (List.mem_of_getElem? (i := 22) rfl)) (jWr_25 _ (List.mem_of_getElem? (i := 23) rfl)) (jWr_1 _ (List.mem_of_getElem? (i := 14) rfl)) (jWr_26 _ (List.mem_of_getElem? (i := 0) rfl))) rfl rfl rfl (by decide +kernel) ⟨by rw [← hR]; exact Nat.le_of_ble_eq_true rfl, by rw [← hR]; exact Nat.le_of_ble_eq_true rfl⟩) ⟨fun a U g mk q => by obtain ⟨q0, q1, q2, qK, q10, q11, q12, q13, q14⟩ := q; exact ⟨q0, q1, q2, jG.calling g mk a qK, (q10.moved (Vm.Alike.refl U.vm)), q11, q12, q13, q14⟩, hh_155.recv (C := RX0) (T := TX0) (N := 2) hB2 rfl (by decide) hg_136 hK, fun U hU hW => ⟨rfl, hU, hh_155.2.1, hG.step hW hU hh_155.1, (hstr305.moved hW.alike).kept hh_155.1.2.1, hg_136, hgq_132_0, (hh_155.2.2.1.sub (L1 := [(bo, 2, 1, .int qc_132), (bo, 2, 0, .ref qa_132)]) [0, 1] rfl), (by omega), (by omega), ⟨(by first | omega | rfl | assumption | fail), (by first | omega | rfl | assumption | fail), (by first | omega | rfl | assumption | fail), (by first | omega | rfl | assumption | fail), (by first | assumption | fail | omega), (by first | omega | rfl | assumption | fail)⟩⟩⟩ rfl rfl hl.1 rfl (lv_room (Nat.le_of_ble_eq_true rfl)) dX11_request_140 ⟨by rw [hRc]; omega, by rw [hRs]; omega⟩) hh_155.1 (fun q _ h => h) (fun q h => h) (fun u_156 t_156 H_156 locs_156 ht_156 hvm_156 hr_157 hb_156 hz_156 hk_156 hS_156 => ?_)
            obtain ⟨qc_156, qa_156, m_qa_156, G_156⟩ := u_156
            rw [ht_156] at hb_156
            simp only at hb_156
            obtain ⟨⟨hb_1561, hb_1562, hb_1563, hb_1564, hb_1565, hb_1566⟩, hgq_156_0, hN_156, hbO_156⟩ := hb_156
            have hy_158 := hh_155.iv 1 rfl
            have hh_156 : jSt (dC, dI) B base G0 G_156 EX11_requestU s.heap (((m_qa_132 - n_pa) / 16 + 2) + ((m_qa_156 - m_qa_132) / 16)) ((2 * (m_qa_132 - n_pa) + 40 + pu.toInt.toNat) + (2 * (m_qa_156 - m_qa_132))) [(bo, 2, 1, .int qc_156), (bo, 2, 0, .ref qa_156), (r0, 13, 11, .int 2), (r0, 13, 4, .ref bo), (r0, 13, 3, .ref ou), (r0, 13, 2, .ref js), (js, 6, 7, .int pv), (js, 6, 8, .int pu), (js, 6, 0, .ref wk), (js, 6, 1, .ref wi), (js, 6, 2, .ref wz), (js, 6, 3, .ref jnx), (js, 6, 4, .ref jkf), (js, 6, 5, .ref jks), (js, 6, 6, .ref jun)] [(wk, 140, 1502, ca 1, fk), (wi, 141, 1502, ca 1, fi), (wz, 142, 1502, ca 1, fz), (jnx, 143, 1502, ca 1, fn), (jkf, 144, 1502, ca 1, fa), (jks, 145, 1502, ca 1, fs), (jun, 146, 3000, ca 1, fu)] [(jFl, jLs dC dI ca G_132 3 none wl), (jFs11, jSef dC dI G_132)] H_156 locs_156 := (hh_155.callG hb_1561 hb_1562 hb_1563 hb_1564 hb_1565 hS_156 rfl (L1 := [(r0, 13, 11, .int 2), (r0, 13, 4, .ref bo), (r0, 13, 3, .ref ou), (r0, 13, 2, .ref js), (js, 6, 7, .int pv), (js, 6, 8, .int pu), (js, 6, 0, .ref wk), (js, 6, 1, .ref wi), (js, 6, 2, .ref wz), (js, 6, 3, .ref jnx), (js, 6, 4, .ref jkf), (js, 6, 5, .ref jks), (js, 6, 6, .ref jun)]) [2, 3, 4, 5, 6, 7, 8, 9, 10, 11, 12, 13, 14] rfl rfl (M1 := [(wk, 140, 1502, ca 1, fk), (wi, 141, 1502, ca 1, fi), (wz, 142, 1502, ca 1, fz), (jnx, 143, 1502, ca 1, fn), (jkf, 144, 1502, ca 1, fa), (jks, 145, 1502, ca 1, fs), (jun, 146, 3000, ca 1, fu)]) [0, 1, 2, 3, 4, 5, 6] rfl rfl (I1 := [(jFl, jLs dC dI ca G_132 3 none wl), (jFs11, jSef dC dI G_132)]) [2, 3] rfl rfl).more hb_1566
            have hNn_156 : (jNk [0, 1, 2, 3, 4, 5, 6, 7, 8, 9, 10, 11, 12, 13, 14, 15, 16]) G0 G_156 := (hNn_132).tr hN_156
            have hg_159 := hb_1562 _ _ hg_134
            have hg_160 := hb_1562 _ _ hg_135
            have hg_161 := hb_1562 _ _ hg_136
            have hg_162 := hb_1562 _ _ hg_137
            have hg_163 := hb_1562 _ _ hg_138
            have hg_164 := hb_1562 _ _ hg_139
            have hg_165 := hb_1562 _ _ hg_140
            have hg_166 := hb_1562 _ _ hg_141
            have hg_167 := hb_1562 _ _ hg_142
            have hg_168 := hb_1562 _ _ hg_143
            have hg_169 := hb_1562 _ _ hg_144
            have hg_170 := hb_1562 _ _ hg_145
            have hd_171 := jLs.grow (hh_156.iv 0 rfl) hb_1562 hN_156 (by decide)
            have hh_172 := hh_156.sub (L1 := [(bo, 2, 1, .int qc_156), (bo, 2, 0, .ref qa_156), (r0, 13, 11, .int 2), (r0, 13, 4, .ref bo), (r0, 13, 3, .ref ou), (r0, 13, 2, .ref js), (js, 6, 7, .int pv), (js, 6, 8, .int pu), (js, 6, 0, .ref wk), (js, 6, 1, .ref wi), (js, 6, 2, .ref wz), (js, 6, 3, .ref jnx), (js, 6, 4, .ref jkf), (js, 6, 5, .ref jks), (js, 6, 6, .ref jun)]) [0, 1, 2, 3, 4, 5, 6, 7, 8, 9, 10, 11, 12, 13, 14] rfl (M1 := [(wk, 140, 1502, ca 1, fk), (wi, 141, 1502, ca 1, fi), (wz, 142, 1502, ca 1, fz), (jnx, 143, 1502, ca 1, fn), (jkf, 144, 1502, ca 1, fa), (jks, 145, 1502, ca 1, fs), (jun, 146, 3000, ca 1, fu)]) [0, 1, 2, 3, 4, 5, 6] rfl (I1 := [(jFs11, jSef dC dI G_132)]) [1] rfl
            clear hh_156
            have hh_173 := hh_172.addI (jLs.ie hd_171)
            clear hh_172
            have hd_174 := jSef.grow (hh_173.iv 1 rfl) hb_1562 hN_156 (by decide)
            have hh_175 := hh_173.sub (L1 := [(bo, 2, 1, .int qc_156), (bo, 2, 0, .ref qa_156), (r0, 13, 11, .int 2), (r0, 13, 4, .ref bo), (r0, 13, 3, .ref ou), (r0, 13, 2, .ref js), (js, 6, 7, .int pv), (js, 6, 8, .int pu), (js, 6, 0, .ref wk), (js, 6, 1, .ref wi), (js, 6, 2, .ref wz), (js, 6, 3, .ref jnx), (js, 6, 4, .ref jkf), (js, 6, 5, .ref jks), (js, 6, 6, .ref jun)]) [0, 1, 2, 3, 4, 5, 6, 7, 8, 9, 10, 11, 12, 13, 14] rfl (M1 := [(wk, 140, 1502, ca 1, fk), (wi, 141, 1502, ca 1, fi), (wz, 142, 1502, ca 1, fz), (jnx, 143, 1502, ca 1, fn), (jkf, 144, 1502, ca 1, fa), (jks, 145, 1502, ca 1, fs), (jun, 146, 3000, ca 1, fu)]) [0, 1, 2, 3, 4, 5, 6] rfl (I1 := [(jFl, jLs dC dI ca G_156 3 none wl)]) [0] rfl
            clear hh_173
            have hh_176 := hh_175.addI (jSef.ie hd_174)
            clear hh_175
            have hd_177 := jOl.trO (hh_155.iv 0 rfl) hh_155.2.2.2.2.1 hbO_156 (by simp)
            have hh_178 := hh_176.addI (jOl.ie (dC := dC) (dI := dI) (G0 := G0) (k := 2) (rs := [bo, ou]) (H0 := s.heap) (F := [(2, 0), (2, 1)]) (C := RX0) (T := TX0) (N := 2) rfl (by decide) hh_176.2.2.2.2.1 (hd_177))
            clear hh_176
            have hyp_156 : qc_156.toInt ≤ (m_qa_156 : Nat) ∧ m_qa_156 ≤ 1048576 := by (try simp only at hr_157); omega
            have hy_179 := jYb.own hy_158 hbO_156 hb_1562 hN_156 (by decide) (fun _ => ⟨_, _, _, hh_178.at 0 rfl, hh_178.at 1 rfl, hgq_156_0, hyp_156⟩)
            have hh_180 := hh_178.addI (jYb.ie hy_179)
            clear hh_178
            try simp only at hr_157
            obtain ⟨hr_157_0, hr_157_1, hr_157_2, hr_157_3, hr_157_4⟩ := hr_157
            have hh_181 := hh_180.wk (zc1 := (m_qa_156 - n_pa) / 16 + 2) (zs1 := 2 * (m_qa_156 - n_pa) + 40 + pu.toInt.toNat) (by omega) (by omega)
            clear hh_180
            try clear hsz_156 htt_156 hrc_156 hrs_156
            try clear hb_1564 hb_1565
            refine lv_aload_n hx hb dX11_request_143 rfl (lv_at hl 2 rfl) ?_
            obtain ⟨v_184, hv_184, hh_185⟩ := hh_181.pin (C := RX0) (T := TX0) (N := 2) hB2 rfl (by decide) hg_162 (i := 1) (by decide) rfl
            obtain ⟨count_186, rfl, hlocount_186, hhicount_186, hfxcount_186⟩ := hv_184
            obtain ⟨v_187, hv_187, hh_188⟩ := hh_185.pin (C := RX0) (T := TX0) (N := 2) hB2 rfl (by decide) hg_162 (i := 0) (by decide) rfl
            obtain ⟨row_189, nrow_189, rfl, hg_row_189, hlorow_189, hhirow_189, hpwrow_189, hfxrow_189⟩ := jBr.k6 (by decide) hv_187
            have hsz_182 := hh_188.2.2.2.2.2.1
            have htt_182 := hh_188.2.2.2.2.2.2.1
            refine W.room (fun hrc_182 hrs_182 => ?_)
            refine va_callv (A0 := jA base) (H0 := s.heap) (va_runV (As := []) (rest := []) ⟨hx, hb, hml, hown, hts⟩ (uX11_send l dC dI ca base B hB hAp hB2 hB4 hB13 hB196 G_156 H_156 r0 bo qc_156 qa_156 m_qa_156 ou count_186 row_189 nrow_189) (cwV 0 hts (jgV (jWr_26 _ (List.mem_of_getElem? (i := 20) rfl)) (jWr_26 _ (List.mem_of_getElem? (i := 21) rfl)) (jWr_26 _ (List.mem_of_getElem? (i := 22) rfl)) (jWr_1 _ (List.mem_of_getElem? (i := 2) rfl)) (jWr_26 _ (List.mem_of_getElem? (i := 23) rfl))) rfl rfl rfl (by decide +kernel) ⟨by rw [← hR]; exact Nat.le_of_ble_eq_true rfl, by rw [← hR]; exact Nat.le_of_ble_eq_true rfl⟩) ⟨fun a U g mk q => by obtain ⟨q0, q1, q2, qK, q10, q11, q12, q13, q14, q15, q16, q17⟩ := q; exact ⟨q0, q1, q2, jG.calling g mk a qK, q10, q11, q12, q13, q14, q15, q16, q17⟩, hh_188.recv (C := RX11) (T := TX11) (N := 19) hB13 rfl (by decide) hg_159 hK, fun U hU hW => ⟨rfl, hU, hh_188.2.1, hG.step hW hU hh_188.1, hg_159, hg_161, hgq_156_0, hg_162, hg_row_189, (hh_188.2.2.1.sub (L1 := [(r0, 13, 4, .ref bo), (bo, 2, 1, .int qc_156), (bo, 2, 0, .ref qa_156), (r0, 13, 3, .ref ou), (ou, 2, 1, .int count_186), (ou, 2, 0, .ref row_189)]) [5, 2, 3, 6, 1, 0] rfl), (hh_188.2.2.2.2.2.2.2.2.sub (L1 := [(jFy, jYb dC dI G_156)]) [0] rfl), ⟨(by first | omega | rfl | assumption | fail), (by first | omega | rfl | assumption | fail), (by first | omega | rfl | assumption | fail), (by first | omega | rfl | assumption | fail), (by first | omega | rfl | assumption | fail), (by first | omega | rfl | assumption | fail)⟩⟩⟩ rfl rfl hl.1 rfl (lv_room (Nat.le_of_ble_eq_true rfl)) dX11_request_144 ⟨by rw [hRc]; show _ + 0 ≤ _; omega, by rw [hRs]; show _ + 0 ≤ _; omega⟩) hh_188.1 (fun q _ h => h) (fun q h => h) (fun u_182 t_182 H_182 locs_182 ht_182 hvm_182 hr_183 hb_182 hz_182 hk_182 hS_182 => ?_)
            rw [ht_182] at hb_182
            obtain ⟨hb_182, hbE_182⟩ := hb_182
            obtain ⟨hb_182, hbO_182⟩ := hb_182
            obtain ⟨hb_1821, hb_1822, hb_1823, hb_1824, hb_1825⟩ := hb_182
            have hh_182 : jSt (dC, dI) B base G0 G_156 EX11_requestU s.heap ((m_qa_156 - n_pa) / 16 + 2) (2 * (m_qa_156 - n_pa) + 40 + pu.toInt.toNat) [(r0, 13, 11, .int 2), (r0, 13, 4, .ref bo), (r0, 13, 3, .ref ou), (r0, 13, 2, .ref js), (js, 6, 7, .int pv), (js, 6, 8, .int pu), (js, 6, 0, .ref wk), (js, 6, 1, .ref wi), (js, 6, 2, .ref wz), (js, 6, 3, .ref jnx), (js, 6, 4, .ref jkf), (js, 6, 5, .ref jks), (js, 6, 6, .ref jun)] [(wk, 140, 1502, ca 1, fk), (wi, 141, 1502, ca 1, fi), (wz, 142, 1502, ca 1, fz), (jnx, 143, 1502, ca 1, fn), (jkf, 144, 1502, ca 1, fa), (jks, 145, 1502, ca 1, fs), (jun, 146, 3000, ca 1, fu)] [(jFy, jYb dC dI G_156), (jFs11, jSef dC dI G_156), (jFl, jLs dC dI ca G_156 3 none wl)] H_182 locs_182 := (((hh_188.call hb_1821 hb_1822 hb_1823 hb_1824 hS_182 rfl (L1 := [(r0, 13, 11, .int 2), (r0, 13, 4, .ref bo), (r0, 13, 3, .ref ou), (r0, 13, 2, .ref js), (js, 6, 7, .int pv), (js, 6, 8, .int pu), (js, 6, 0, .ref wk), (js, 6, 1, .ref wi), (js, 6, 2, .ref wz), (js, 6, 3, .ref jnx), (js, 6, 4, .ref jkf), (js, 6, 5, .ref jks), (js, 6, 6, .ref jun)]) [4, 5, 6, 7, 8, 9, 10, 11, 12, 13, 14, 15, 16] rfl rfl (M1 := [(wk, 140, 1502, ca 1, fk), (wi, 141, 1502, ca 1, fi), (wz, 142, 1502, ca 1, fz), (jnx, 143, 1502, ca 1, fn), (jkf, 144, 1502, ca 1, fa), (jks, 145, 1502, ca 1, fs), (jun, 146, 3000, ca 1, fu)]) [0, 1, 2, 3, 4, 5, 6] rfl rfl (I1 := [(jFs11, jSef dC dI G_156), (jFl, jLs dC dI ca G_156 3 none wl)]) [2, 3] rfl rfl).more hb_1825)).addIs hbE_182
            have hh_190 := hh_182.more (P1 := [(bo, 2, 1, .int qc_156), (bo, 2, 0, .ref qa_156)]) (jP.cons hg_161 (hbO_182 _ _ _ _ (jn1 (by first | assumption | exact Ne.symm (by assumption) | exact jnek hg_161 hg_162 (by decide))) hg_161 (hh_188.at 2 rfl)) (jP.cons hg_161 (hbO_182 _ _ _ _ (jn1 (by first | assumption | exact Ne.symm (by assumption) | exact jnek hg_161 hg_162 (by decide))) hg_161 (hh_188.at 3 rfl)) jP.nil))
            have hd_191 := jOl.trL (hh_188.iv 1 rfl) hh_188.2.2.2.2.1 hbO_182 (by simp)
            have hh_192 := hh_190.addI (jOl.ie (dC := dC) (dI := dI) (G0 := G0) (k := 2) (rs := [bo, ou]) (H0 := s.heap) (F := [(2, 0), (2, 1)]) (C := RX0) (T := TX0) (N := 2) rfl (by decide) hh_190.2.2.2.2.1 (hd_191))
            clear hh_190
            clear hh_188 ht_182 hvm_182 hz_182 hk_182 hS_182 hb_1821 hb_1822 hb_1823 hb_1824 hb_1825
            clear  hbE_182
            refine lv_goto (tgt := 212) hx hb dX11_request_147 (by decide) ?_
            have hqz9 : (2 : Int) = jdRq T9 pv.toInt pz.toInt := by have h9 : jdRq T9 pv.toInt pz.toInt = _ := jdRq.d hm9 (by omega) (by rw [← hin9]; omega) (by rw [← hr_36p_1]; omega); omega
            have hsz_193 := hh_192.2.2.2.2.2.1
            have htt_193 := hh_192.2.2.2.2.2.2.1
            refine W.room (fun hrc_193 hrs_193 => ?_)
            refine W.widen (k := LC - s.heap.size) (n := LS - jTot s.heap) (by omega) (by omega) ?_
            rw [hQ]
            exact W.vret hx hb hr (fun t ht hW => ⟨⟨(qc_156, 2, qa_156, m_qa_156, G_156), rfl, by (try dsimp only); exact ⟨(by first | omega | rfl | assumption | fail), (by first | omega | rfl | assumption | fail), (by first | omega | rfl | assumption | fail), (by first | omega | rfl | assumption | fail), (by first | assumption | fail | omega), (by first | assumption | fail | omega)⟩, ⟨hh_192.ra (by first | (simp only; omega) | omega) (by first | (simp only; omega) | omega) (M1 := [(bo, 2, 1, .int qc_156), (r0, 13, 11, .int 2), (bo, 2, 0, .ref qa_156)]) [0, 2, 1] rfl ht, hgq_156_0, hNn_156, by rw [ht]; exact hh_192.iv 0 rfl, by rw [ht]; exact hh_192.2.2.2.2.2.2.2.2.sub (L1 := [(jFy, jYb dC dI G_156), (jFs11, jSef dC dI G_156), (jFl, jLs dC dI ca G_156 3 none wl)]) [1, 2, 3] rfl⟩⟩, by rw [ht]; try exact hh_192.1.1, fun q h9 hq => by rw [ht]; try exact hh_192.1.2.1 q h9 hq⟩) hh_192.1.2.2 dX11_request_212
        · skip
          have c_34' : r_5.toInt ≠ 0 := jb_eq_n (rfl) ((by decide)) c_34
          first | (have hr_3_2q := hr_3_2.resolve_left (by omega); clear hr_3_2) | (have hr_3_2q := hr_3_2.resolve_right (by omega); clear hr_3_2) | skip
          first | (have hr_5p_0q := hr_5p_0.resolve_left (by omega); clear hr_5p_0) | (have hr_5p_0q := hr_5p_0.resolve_right (by omega); clear hr_5p_0) | skip
          refine lv_aload_n hx hb dX11_request_95 rfl (lv_at hl 2 rfl) ?_
          refine lv_aload_n hx hb dX11_request_96 rfl (lv_at hl 3 rfl) ?_
          refine lv_sipush (v := (-32600)) hx hb dX11_request_97 (by decide) ?_
          have hsz_194 := hh_4.2.2.2.2.2.1
          have htt_194 := hh_4.2.2.2.2.2.2.1
          refine W.room (fun hrc_194 hrs_194 => ?_)
          refine va_callv (A0 := jA base) (H0 := s.heap) (va_runV (As := [.ref r1, .int (-32600)]) (rest := []) ⟨hx, hb, hml, hown, hts⟩ (uX11_refuse l dC dI ca base B hB hAp hB2 hB4 hB10 hB13 hB196 G0 H_4 r0 r1 (-32600) bo pc pa n_pa ou LC LS) (cwV 2 hts (jgV (jWr_26 _ (List.mem_of_getElem? (i := 3) rfl)) (jWr_26 _ (List.mem_of_getElem? (i := 4) rfl)) (jWr_26 _ (List.mem_of_getElem? (i := 5) rfl)) (jWr_1 _ (List.mem_of_getElem? (i := 2) rfl)) (jWr_26 _ (List.mem_of_getElem? (i := 6) rfl))) rfl rfl rfl (by decide +kernel) ⟨by rw [← hR]; exact Nat.le_of_ble_eq_true rfl, by rw [← hR]; exact Nat.le_of_ble_eq_true rfl⟩) ⟨fun a U g mk q => by obtain ⟨q0, q1, q2, qK, q10, q11, q12, q13, q14, q15, q16, q17⟩ := q; exact ⟨q0, q1, q2, jG.calling g mk a qK, q10, q11, q12, q13, q14, q15, q16, q17⟩, hh_4.recv (C := RX11) (T := TX11) (N := 19) hB13 rfl (by decide) hg_r0 hK, fun U hU hW => ⟨rfl, hU, hh_4.2.1, hG.step hW hU hh_4.1, hg_r1, hg_r0, hg_bo, hg_pa, hg_ou, (hh_4.2.2.1.sub (L1 := [(r0, 13, 4, .ref bo), (bo, 2, 1, .int pc), (bo, 2, 0, .ref pa), (r0, 13, 3, .ref ou)]) [0, 1, 2, 3] rfl), (hh_4.2.2.2.2.2.2.2.2.sub (L1 := [(jFy, jYb dC dI G0)]) [1] rfl), (by omega), (by omega), ⟨(by first | omega | rfl | assumption | fail), (by first | omega | rfl | assumption | fail), (by first | omega | rfl | assumption | fail), (by first | omega | rfl | assumption | fail), (by first | assumption | fail | omega)⟩⟩⟩ rfl rfl hl.1 rfl (lv_room (Nat.le_of_ble_eq_true rfl)) dX11_request_100 ⟨by rw [hRc]; omega, by rw [hRs]; omega⟩) hh_4.1 (fun q _ h => h) (fun q h => h) (fun u_194 t_194 H_194 locs_194 ht_194 hvm_194 hr_195 hb_194 hz_194 hk_194 hS_194 => ?_)
          obtain ⟨qc_194, qa_194, m_qa_194, G_194⟩ := u_194
          rw [ht_194] at hb_194
          simp only at hb_194
          obtain ⟨⟨hb_1941, hb_1942, hb_1943, hb_1944, hb_1945, hb_1946⟩, hgq_194_0, hN_194, hbO_194, hbE_194⟩ := hb_194
          have hh_194 : jSt (dC, dI) B base G0 G_194 EX11_requestU s.heap (0 + ((m_qa_194 - n_pa) / 16)) (0 + (2 * (m_qa_194 - n_pa))) [(bo, 2, 1, .int qc_194), (bo, 2, 0, .ref qa_194), (r0, 13, 4, .ref bo), (r0, 13, 3, .ref ou), (r0, 13, 2, .ref js), (js, 6, 7, .int pv), (js, 6, 8, .int pu), (js, 6, 0, .ref wk), (js, 6, 1, .ref wi), (js, 6, 2, .ref wz), (js, 6, 3, .ref jnx), (js, 6, 4, .ref jkf), (js, 6, 5, .ref jks), (js, 6, 6, .ref jun), (r0, 13, 11, .int pz)] [(wk, 140, 1502, ca 1, fk), (wi, 141, 1502, ca 1, fi), (wz, 142, 1502, ca 1, fz), (jnx, 143, 1502, ca 1, fn), (jkf, 144, 1502, ca 1, fa), (jks, 145, 1502, ca 1, fs), (jun, 146, 3000, ca 1, fu)] [(jFs11, jSef dC dI G0), (jFl, jLs dC dI ca G0 3 none wl)] H_194 locs_194 := (hh_4.callG hb_1941 hb_1942 hb_1943 hb_1944 hb_1945 hS_194 rfl (L1 := [(r0, 13, 4, .ref bo), (r0, 13, 3, .ref ou), (r0, 13, 2, .ref js), (js, 6, 7, .int pv), (js, 6, 8, .int pu), (js, 6, 0, .ref wk), (js, 6, 1, .ref wi), (js, 6, 2, .ref wz), (js, 6, 3, .ref jnx), (js, 6, 4, .ref jkf), (js, 6, 5, .ref jks), (js, 6, 6, .ref jun), (r0, 13, 11, .int pz)]) [0, 3, 4, 5, 6, 7, 8, 9, 10, 11, 12, 13, 14] rfl rfl (M1 := [(wk, 140, 1502, ca 1, fk), (wi, 141, 1502, ca 1, fi), (wz, 142, 1502, ca 1, fz), (jnx, 143, 1502, ca 1, fn), (jkf, 144, 1502, ca 1, fa), (jks, 145, 1502, ca 1, fs), (jun, 146, 3000, ca 1, fu)]) [0, 1, 2, 3, 4, 5, 6] rfl rfl (I1 := [(jFs11, jSef dC dI G0), (jFl, jLs dC dI ca G0 3 none wl)]) [2, 3] rfl rfl).more hb_1946
          have hNn_194 : (jNk [0, 1, 2, 3, 4, 5, 6, 7, 8, 9, 10, 11, 12, 13, 14, 15, 16]) G0 G_194 := (jNk.rf).tr hN_194
          have hg_196 := hb_1942 _ _ hg_r0
          have hg_197 := hb_1942 _ _ hg_r1
          have hg_198 := hb_1942 _ _ hg_bo
          have hg_199 := hb_1942 _ _ hg_ou
          have hg_200 := hb_1942 _ _ hg_js
          have hg_201 := hb_1942 _ _ hg_wk
          have hg_202 := hb_1942 _ _ hg_wi
          have hg_203 := hb_1942 _ _ hg_wz
          have hg_204 := hb_1942 _ _ hg_jnx
          have hg_205 := hb_1942 _ _ hg_jkf
          have hg_206 := hb_1942 _ _ hg_jks
          have hg_207 := hb_1942 _ _ hg_jun
          have hd_208 := jSef.grow (hh_194.iv 0 rfl) hb_1942 hN_194 (by decide)
          have hh_209 := hh_194.sub (L1 := [(bo, 2, 1, .int qc_194), (bo, 2, 0, .ref qa_194), (r0, 13, 4, .ref bo), (r0, 13, 3, .ref ou), (r0, 13, 2, .ref js), (js, 6, 7, .int pv), (js, 6, 8, .int pu), (js, 6, 0, .ref wk), (js, 6, 1, .ref wi), (js, 6, 2, .ref wz), (js, 6, 3, .ref jnx), (js, 6, 4, .ref jkf), (js, 6, 5, .ref jks), (js, 6, 6, .ref jun), (r0, 13, 11, .int pz)]) [0, 1, 2, 3, 4, 5, 6, 7, 8, 9, 10, 11, 12, 13, 14] rfl (M1 := [(wk, 140, 1502, ca 1, fk), (wi, 141, 1502, ca 1, fi), (wz, 142, 1502, ca 1, fz), (jnx, 143, 1502, ca 1, fn), (jkf, 144, 1502, ca 1, fa), (jks, 145, 1502, ca 1, fs), (jun, 146, 3000, ca 1, fu)]) [0, 1, 2, 3, 4, 5, 6] rfl (I1 := [(jFl, jLs dC dI ca G0 3 none wl)]) [1] rfl
          clear hh_194
          have hh_210 := hh_209.addI (jSef.ie hd_208)
          clear hh_209
          have hd_211 := jLs.grow (hh_210.iv 1 rfl) hb_1942 hN_194 (by decide)
          have hh_212 := hh_210.sub (L1 := [(bo, 2, 1, .int qc_194), (bo, 2, 0, .ref qa_194), (r0, 13, 4, .ref bo), (r0, 13, 3, .ref ou), (r0, 13, 2, .ref js), (js, 6, 7, .int pv), (js, 6, 8, .int pu), (js, 6, 0, .ref wk), (js, 6, 1, .ref wi), (js, 6, 2, .ref wz), (js, 6, 3, .ref jnx), (js, 6, 4, .ref jkf), (js, 6, 5, .ref jks), (js, 6, 6, .ref jun), (r0, 13, 11, .int pz)]) [0, 1, 2, 3, 4, 5, 6, 7, 8, 9, 10, 11, 12, 13, 14] rfl (M1 := [(wk, 140, 1502, ca 1, fk), (wi, 141, 1502, ca 1, fi), (wz, 142, 1502, ca 1, fz), (jnx, 143, 1502, ca 1, fn), (jkf, 144, 1502, ca 1, fa), (jks, 145, 1502, ca 1, fs), (jun, 146, 3000, ca 1, fu)]) [0, 1, 2, 3, 4, 5, 6] rfl (I1 := [(jFs11, jSef dC dI G_194)]) [0] rfl
          clear hh_210
          have hh_213 := hh_212.addI (jLs.ie hd_211)
          clear hh_212
          have hh_214 := hh_213.addIs hbE_194
          have hd_215 := jOl.trL (hh_4.iv 0 rfl) hh_4.2.2.2.2.1 hbO_194 (by simp)
          have hh_216 := hh_214.addI (jOl.ie (dC := dC) (dI := dI) (G0 := G0) (k := 2) (rs := [bo, ou]) (H0 := s.heap) (F := [(2, 0), (2, 1)]) (C := RX0) (T := TX0) (N := 2) rfl (by decide) hh_214.2.2.2.2.1 (hd_215))
          clear hh_214
          try simp only at hr_195
          obtain ⟨hr_195_0, hr_195_1, hr_195_2, hr_195_3, hr_195_4⟩ := hr_195
          have hh_217 := hh_216.wk (zc1 := (m_qa_194 - n_pa) / 16 + 2) (zs1 := 2 * (m_qa_194 - n_pa) + 40 + pu.toInt.toNat) (by omega) (by omega)
          clear hh_216
          try clear hsz_194 htt_194 hrc_194 hrs_194
          try clear hb_1944 hb_1945
          refine lv_goto (tgt := 212) hx hb dX11_request_103 (by decide) ?_
          have hqz9 : (pz.toInt : Int) = jdRq T9 pv.toInt pz.toInt := by have h9 : jdRq T9 pv.toInt pz.toInt = _ := jdRq.c hm9 (by omega) (Or.inr (by rw [← hin9]; omega)); omega
          have hsz_218 := hh_217.2.2.2.2.2.1
          have htt_218 := hh_217.2.2.2.2.2.2.1
          refine W.room (fun hrc_218 hrs_218 => ?_)
          refine W.widen (k := LC - s.heap.size) (n := LS - jTot s.heap) (by omega) (by omega) ?_
          rw [hQ]
          exact W.vret hx hb hr (fun t ht hW => ⟨⟨(qc_194, pz, qa_194, m_qa_194, G_194), rfl, by (try dsimp only); exact ⟨(by first | omega | rfl | assumption | fail), (by first | omega | rfl | assumption | fail), (by first | omega | rfl | assumption | fail), (by first | omega | rfl | assumption | fail), (by first | assumption | fail | omega), (by first | assumption | fail | omega)⟩, ⟨hh_217.ra (by first | (simp only; omega) | omega) (by first | (simp only; omega) | omega) (M1 := [(bo, 2, 1, .int qc_194), (r0, 13, 11, .int pz), (bo, 2, 0, .ref qa_194)]) [0, 14, 1] rfl ht, hgq_194_0, hNn_194, by rw [ht]; exact hh_217.iv 0 rfl, by rw [ht]; exact hh_217.2.2.2.2.2.2.2.2.sub (L1 := [(jFy, jYb dC dI G_194), (jFs11, jSef dC dI G_194), (jFl, jLs dC dI ca G_194 3 none wl)]) [1, 3, 2] rfl⟩⟩, by rw [ht]; try exact hh_217.1.1, fun q h9 hq => by rw [ht]; try exact hh_217.1.2.1 q h9 hq⟩) hh_217.1.2.2 dX11_request_212
    · skip
      have c_7' : pz.toInt = 0 := jb_ne_n (rfl) ((by decide)) c_7
      exact (by omega : False).elim
  · skip
    have c_6' : pz.toInt = 0 := jb_ne_n (rfl) ((by decide)) c_6
    first | (have hr_3_2q := hr_3_2.resolve_left (by omega); clear hr_3_2) | (have hr_3_2q := hr_3_2.resolve_right (by omega); clear hr_3_2) | skip
    refine lv_iload_n hx hb dX11_request_31 rfl (lv_at hl 0 rfl) ?_
    refine lv_if_eq (tgt := 65) hx hb dX11_request_32 (by decide) (fun c_219 => ?_) (fun c_219 => ?_)
    · skip
      have c_219' : r_5.toInt = 0 := jb_eq (rfl) ((by decide)) c_219
      first | (have hr_3_2q := hr_3_2.resolve_left (by omega); clear hr_3_2) | (have hr_3_2q := hr_3_2.resolve_right (by omega); clear hr_3_2) | skip
      first | (have hr_5p_0q := hr_5p_0.resolve_left (by omega); clear hr_5p_0) | (have hr_5p_0q := hr_5p_0.resolve_right (by omega); clear hr_5p_0) | skip
      refine lv_aload_n hx hb dX11_request_65 rfl (lv_at hl 2 rfl) ?_
      refine j7_read hx hb hown hK (C := RX11) (T := TX11) (N := 19) rfl hly_13_11 hlk_77 (hh_4.at 14 rfl) dX11_request_66 ?_
      refine lv_if_ne (tgt := 83) hx hb dX11_request_69 (by decide) (fun c_220 => ?_) (fun c_220 => ?_)
      · skip
        have c_220' : pz.toInt ≠ 0 := jb_ne (rfl) ((by decide)) c_220
        exact (by omega : False).elim
      · skip
        have c_220' : pz.toInt = 0 := jb_ne_n (rfl) ((by decide)) c_220
        first | (have hr_3_2q := hr_3_2.resolve_left (by omega); clear hr_3_2) | (have hr_3_2q := hr_3_2.resolve_right (by omega); clear hr_3_2) | skip
        refine lv_aload_n hx hb dX11_request_72 rfl (lv_at hl 2 rfl) ?_
        refine lv_aload_n hx hb dX11_request_73 rfl (lv_at hl 3 rfl) ?_
        refine lv_sipush (v := (-32002)) hx hb dX11_request_74 (by decide) ?_
        have hsz_221 := hh_4.2.2.2.2.2.1
        have htt_221 := hh_4.2.2.2.2.2.2.1
        refine W.room (fun hrc_221 hrs_221 => ?_)
        refine va_callv (A0 := jA base) (H0 := s.heap) (va_runV (As := [.ref r1, .int (-32002)]) (rest := []) ⟨hx, hb, hml, hown, hts⟩ (uX11_refuse l dC dI ca base B hB hAp hB2 hB4 hB10 hB13 hB196 G0 H_4 r0 r1 (-32002) bo pc pa n_pa ou LC LS) (cwV 2 hts (jgV (jWr_26 _ (List.mem_of_getElem? (i := 3) rfl)) (jWr_26 _ (List.mem_of_getElem? (i := 4) rfl)) (jWr_26 _ (List.mem_of_getElem? (i := 5) rfl)) (jWr_1 _ (List.mem_of_getElem? (i := 2) rfl)) (jWr_26 _ (List.mem_of_getElem? (i := 6) rfl))) rfl rfl rfl (by decide +kernel) ⟨by rw [← hR]; exact Nat.le_of_ble_eq_true rfl, by rw [← hR]; exact Nat.le_of_ble_eq_true rfl⟩) ⟨fun a U g mk q => by obtain ⟨q0, q1, q2, qK, q10, q11, q12, q13, q14, q15, q16, q17⟩ := q; exact ⟨q0, q1, q2, jG.calling g mk a qK, q10, q11, q12, q13, q14, q15, q16, q17⟩, hh_4.recv (C := RX11) (T := TX11) (N := 19) hB13 rfl (by decide) hg_r0 hK, fun U hU hW => ⟨rfl, hU, hh_4.2.1, hG.step hW hU hh_4.1, hg_r1, hg_r0, hg_bo, hg_pa, hg_ou, (hh_4.2.2.1.sub (L1 := [(r0, 13, 4, .ref bo), (bo, 2, 1, .int pc), (bo, 2, 0, .ref pa), (r0, 13, 3, .ref ou)]) [0, 1, 2, 3] rfl), (hh_4.2.2.2.2.2.2.2.2.sub (L1 := [(jFy, jYb dC dI G0)]) [1] rfl), (by omega), (by omega), ⟨(by first | omega | rfl | assumption | fail), (by first | omega | rfl | assumption | fail), (by first | omega | rfl | assumption | fail), (by first | omega | rfl | assumption | fail), (by first | assumption | fail | omega)⟩⟩⟩ rfl rfl hl.1 rfl (lv_room (Nat.le_of_ble_eq_true rfl)) dX11_request_77 ⟨by rw [hRc]; omega, by rw [hRs]; omega⟩) hh_4.1 (fun q _ h => h) (fun q h => h) (fun u_221 t_221 H_221 locs_221 ht_221 hvm_221 hr_222 hb_221 hz_221 hk_221 hS_221 => ?_)
        obtain ⟨qc_221, qa_221, m_qa_221, G_221⟩ := u_221
        rw [ht_221] at hb_221
        simp only at hb_221
        obtain ⟨⟨hb_2211, hb_2212, hb_2213, hb_2214, hb_2215, hb_2216⟩, hgq_221_0, hN_221, hbO_221, hbE_221⟩ := hb_221
        have hh_221 : jSt (dC, dI) B base G0 G_221 EX11_requestU s.heap (0 + ((m_qa_221 - n_pa) / 16)) (0 + (2 * (m_qa_221 - n_pa))) [(bo, 2, 1, .int qc_221), (bo, 2, 0, .ref qa_221), (r0, 13, 4, .ref bo), (r0, 13, 3, .ref ou), (r0, 13, 2, .ref js), (js, 6, 7, .int pv), (js, 6, 8, .int pu), (js, 6, 0, .ref wk), (js, 6, 1, .ref wi), (js, 6, 2, .ref wz), (js, 6, 3, .ref jnx), (js, 6, 4, .ref jkf), (js, 6, 5, .ref jks), (js, 6, 6, .ref jun), (r0, 13, 11, .int pz)] [(wk, 140, 1502, ca 1, fk), (wi, 141, 1502, ca 1, fi), (wz, 142, 1502, ca 1, fz), (jnx, 143, 1502, ca 1, fn), (jkf, 144, 1502, ca 1, fa), (jks, 145, 1502, ca 1, fs), (jun, 146, 3000, ca 1, fu)] [(jFs11, jSef dC dI G0), (jFl, jLs dC dI ca G0 3 none wl)] H_221 locs_221 := (hh_4.callG hb_2211 hb_2212 hb_2213 hb_2214 hb_2215 hS_221 rfl (L1 := [(r0, 13, 4, .ref bo), (r0, 13, 3, .ref ou), (r0, 13, 2, .ref js), (js, 6, 7, .int pv), (js, 6, 8, .int pu), (js, 6, 0, .ref wk), (js, 6, 1, .ref wi), (js, 6, 2, .ref wz), (js, 6, 3, .ref jnx), (js, 6, 4, .ref jkf), (js, 6, 5, .ref jks), (js, 6, 6, .ref jun), (r0, 13, 11, .int pz)]) [0, 3, 4, 5, 6, 7, 8, 9, 10, 11, 12, 13, 14] rfl rfl (M1 := [(wk, 140, 1502, ca 1, fk), (wi, 141, 1502, ca 1, fi), (wz, 142, 1502, ca 1, fz), (jnx, 143, 1502, ca 1, fn), (jkf, 144, 1502, ca 1, fa), (jks, 145, 1502, ca 1, fs), (jun, 146, 3000, ca 1, fu)]) [0, 1, 2, 3, 4, 5, 6] rfl rfl (I1 := [(jFs11, jSef dC dI G0), (jFl, jLs dC dI ca G0 3 none wl)]) [2, 3] rfl rfl).more hb_2216
        have hNn_221 : (jNk [0, 1, 2, 3, 4, 5, 6, 7, 8, 9, 10, 11, 12, 13, 14, 15, 16]) G0 G_221 := (jNk.rf).tr hN_221
        have hg_223 := hb_2212 _ _ hg_r0
        have hg_224 := hb_2212 _ _ hg_r1
        have hg_225 := hb_2212 _ _ hg_bo
        have hg_226 := hb_2212 _ _ hg_ou
        have hg_227 := hb_2212 _ _ hg_js
        have hg_228 := hb_2212 _ _ hg_wk
        have hg_229 := hb_2212 _ _ hg_wi
        have hg_230 := hb_2212 _ _ hg_wz
        have hg_231 := hb_2212 _ _ hg_jnx
        have hg_232 := hb_2212 _ _ hg_jkf
        have hg_233 := hb_2212 _ _ hg_jks
        have hg_234 := hb_2212 _ _ hg_jun
        have hd_235 := jSef.grow (hh_221.iv 0 rfl) hb_2212 hN_221 (by decide)
        have hh_236 := hh_221.sub (L1 := [(bo, 2, 1, .int qc_221), (bo, 2, 0, .ref qa_221), (r0, 13, 4, .ref bo), (r0, 13, 3, .ref ou), (r0, 13, 2, .ref js), (js, 6, 7, .int pv), (js, 6, 8, .int pu), (js, 6, 0, .ref wk), (js, 6, 1, .ref wi), (js, 6, 2, .ref wz), (js, 6, 3, .ref jnx), (js, 6, 4, .ref jkf), (js, 6, 5, .ref jks), (js, 6, 6, .ref jun), (r0, 13, 11, .int pz)]) [0, 1, 2, 3, 4, 5, 6, 7, 8, 9, 10, 11, 12, 13, 14] rfl (M1 := [(wk, 140, 1502, ca 1, fk), (wi, 141, 1502, ca 1, fi), (wz, 142, 1502, ca 1, fz), (jnx, 143, 1502, ca 1, fn), (jkf, 144, 1502, ca 1, fa), (jks, 145, 1502, ca 1, fs), (jun, 146, 3000, ca 1, fu)]) [0, 1, 2, 3, 4, 5, 6] rfl (I1 := [(jFl, jLs dC dI ca G0 3 none wl)]) [1] rfl
        clear hh_221
        have hh_237 := hh_236.addI (jSef.ie hd_235)
        clear hh_236
        have hd_238 := jLs.grow (hh_237.iv 1 rfl) hb_2212 hN_221 (by decide)
        have hh_239 := hh_237.sub (L1 := [(bo, 2, 1, .int qc_221), (bo, 2, 0, .ref qa_221), (r0, 13, 4, .ref bo), (r0, 13, 3, .ref ou), (r0, 13, 2, .ref js), (js, 6, 7, .int pv), (js, 6, 8, .int pu), (js, 6, 0, .ref wk), (js, 6, 1, .ref wi), (js, 6, 2, .ref wz), (js, 6, 3, .ref jnx), (js, 6, 4, .ref jkf), (js, 6, 5, .ref jks), (js, 6, 6, .ref jun), (r0, 13, 11, .int pz)]) [0, 1, 2, 3, 4, 5, 6, 7, 8, 9, 10, 11, 12, 13, 14] rfl (M1 := [(wk, 140, 1502, ca 1, fk), (wi, 141, 1502, ca 1, fi), (wz, 142, 1502, ca 1, fz), (jnx, 143, 1502, ca 1, fn), (jkf, 144, 1502, ca 1, fa), (jks, 145, 1502, ca 1, fs), (jun, 146, 3000, ca 1, fu)]) [0, 1, 2, 3, 4, 5, 6] rfl (I1 := [(jFs11, jSef dC dI G_221)]) [0] rfl
        clear hh_237
        have hh_240 := hh_239.addI (jLs.ie hd_238)
        clear hh_239
        have hh_241 := hh_240.addIs hbE_221
        have hd_242 := jOl.trL (hh_4.iv 0 rfl) hh_4.2.2.2.2.1 hbO_221 (by simp)
        have hh_243 := hh_241.addI (jOl.ie (dC := dC) (dI := dI) (G0 := G0) (k := 2) (rs := [bo, ou]) (H0 := s.heap) (F := [(2, 0), (2, 1)]) (C := RX0) (T := TX0) (N := 2) rfl (by decide) hh_241.2.2.2.2.1 (hd_242))
        clear hh_241
        try simp only at hr_222
        obtain ⟨hr_222_0, hr_222_1, hr_222_2, hr_222_3, hr_222_4⟩ := hr_222
        have hh_244 := hh_243.wk (zc1 := (m_qa_221 - n_pa) / 16 + 2) (zs1 := 2 * (m_qa_221 - n_pa) + 40 + pu.toInt.toNat) (by omega) (by omega)
        clear hh_243
        try clear hsz_221 htt_221 hrc_221 hrs_221
        try clear hb_2214 hb_2215
        refine lv_goto (tgt := 212) hx hb dX11_request_80 (by decide) ?_
        have hqz9 : (pz.toInt : Int) = jdRq T9 pv.toInt pz.toInt := by have h9 : jdRq T9 pv.toInt pz.toInt = _ := jdRq.b hm9 (by omega) (by rw [← hin9]; omega); omega
        have hsz_245 := hh_244.2.2.2.2.2.1
        have htt_245 := hh_244.2.2.2.2.2.2.1
        refine W.room (fun hrc_245 hrs_245 => ?_)
        refine W.widen (k := LC - s.heap.size) (n := LS - jTot s.heap) (by omega) (by omega) ?_
        rw [hQ]
        exact W.vret hx hb hr (fun t ht hW => ⟨⟨(qc_221, pz, qa_221, m_qa_221, G_221), rfl, by (try dsimp only); exact ⟨(by first | omega | rfl | assumption | fail), (by first | omega | rfl | assumption | fail), (by first | omega | rfl | assumption | fail), (by first | omega | rfl | assumption | fail), (by first | assumption | fail | omega), (by first | assumption | fail | omega)⟩, ⟨hh_244.ra (by first | (simp only; omega) | omega) (by first | (simp only; omega) | omega) (M1 := [(bo, 2, 1, .int qc_221), (r0, 13, 11, .int pz), (bo, 2, 0, .ref qa_221)]) [0, 14, 1] rfl ht, hgq_221_0, hNn_221, by rw [ht]; exact hh_244.iv 0 rfl, by rw [ht]; exact hh_244.2.2.2.2.2.2.2.2.sub (L1 := [(jFy, jYb dC dI G_221), (jFs11, jSef dC dI G_221), (jFl, jLs dC dI ca G_221 3 none wl)]) [1, 3, 2] rfl⟩⟩, by rw [ht]; try exact hh_244.1.1, fun q h9 hq => by rw [ht]; try exact hh_244.1.2.1 q h9 hq⟩) hh_244.1.2.2 dX11_request_212
    · skip
      have c_219' : r_5.toInt ≠ 0 := jb_eq_n (rfl) ((by decide)) c_219
      first | (have hr_3_2q := hr_3_2.resolve_left (by omega); clear hr_3_2) | (have hr_3_2q := hr_3_2.resolve_right (by omega); clear hr_3_2) | skip
      first | (have hr_5p_0q := hr_5p_0.resolve_left (by omega); clear hr_5p_0) | (have hr_5p_0q := hr_5p_0.resolve_right (by omega); clear hr_5p_0) | skip
      refine lv_aload_n hx hb dX11_request_35 rfl (lv_at hl 2 rfl) ?_
      refine lv_iconst (v := 1) hx hb dX11_request_36 (by decide) ?_
      refine j7_put hx hb hown hK hh_4 hB hAp hB13 (C := RX11) (T := TX11) (N := 19) rfl (by decide) hg_r0 (i := 11) (by decide) hly_13_11 rfl hlk_77 rfl (ty := .int) (v := .int 1) (by decide +kernel) rfl rfl (⟨_, rfl, by omega, by omega⟩) rfl (L1 := [(r0, 13, 4, .ref bo), (bo, 2, 1, .int pc), (bo, 2, 0, .ref pa), (r0, 13, 3, .ref ou), (r0, 13, 2, .ref js), (js, 6, 7, .int pv), (js, 6, 8, .int pu), (js, 6, 0, .ref wk), (js, 6, 1, .ref wi), (js, 6, 2, .ref wz), (js, 6, 3, .ref jnx), (js, 6, 4, .ref jkf), (js, 6, 5, .ref jks), (js, 6, 6, .ref jun)]) [0, 1, 2, 3, 4, 5, 6, 7, 8, 9, 10, 11, 12, 13] rfl rfl rfl dX11_request_37 (fun H_246 locs_246 hh_246 => ?_)
      clear hh_4
      refine lv_aload_n hx hb dX11_request_40 rfl (lv_at hl 2 rfl) ?_
      refine lv_aload_n hx hb dX11_request_41 rfl (lv_at hl 3 rfl) ?_
      refine j_ldcSw hx hb hown rstr289 dX11_request_42 ?_
      have hsz_247 := hh_246.2.2.2.2.2.1
      have htt_247 := hh_246.2.2.2.2.2.2.1
      refine W.room (fun hrc_247 hrs_247 => ?_)
      refine va_callv (A0 := jA base) (H0 := s.heap) (va_runV (As := [.ref r1, .ref str289]) (rest := []) ⟨hx, hb, hml, hown, hts⟩ (uX11_beginAnswer l dC dI ca base B hB hAp hB2 hB10 hB13 hB196 G0 H_246 r0 r1 str289 10 bo pc pa n_pa LC LS) (cwV 2 hts (jgV (jWr_26 _ (List.mem_of_getElem? (i := 7) rfl)) (jWr_26 _ (List.mem_of_getElem? (i := 8) rfl)) (jWr_26 _ (List.mem_of_getElem? (i := 9) rfl)) (jWr_1 _ (List.mem_of_getElem? (i := 2) rfl)) (jWr_26 _ (List.mem_of_getElem? (i := 10) rfl))) rfl rfl rfl (by decide +kernel) ⟨by rw [← hR]; exact Nat.le_of_ble_eq_true rfl, by rw [← hR]; exact Nat.le_of_ble_eq_true rfl⟩) ⟨fun a U g mk q => by obtain ⟨q0, q1, q2, qK, q10, q11, q12, q13, q14, q15, q16, q17⟩ := q; exact ⟨q0, q1, q2, jG.calling g mk a qK, (q10.moved (Vm.Alike.refl U.vm)), q11, q12, q13, q14, q15, q16, q17⟩, hh_246.recv (C := RX11) (T := TX11) (N := 19) hB13 rfl (by decide) hg_r0 hK, fun U hU hW => ⟨rfl, hU, hh_246.2.1, hG.step hW hU hh_246.1, (hstr289.moved hW.alike).kept hh_246.1.2.1, hg_r1, hg_r0, hg_bo, hg_pa, (hh_246.2.2.1.sub (L1 := [(r0, 13, 4, .ref bo), (bo, 2, 1, .int pc), (bo, 2, 0, .ref pa)]) [1, 2, 3] rfl), (hh_246.2.2.2.2.2.2.2.2.sub (L1 := [(jFy, jYb dC dI G0)]) [1] rfl), (by omega), (by omega), ⟨(by first | omega | rfl | assumption | fail), (by first | omega | rfl | assumption | fail), (by first | omega | rfl | assumption | fail), (by first | omega | rfl | assumption | fail), (by first | assumption | fail | omega), (by first | omega | rfl | assumption | fail)⟩⟩⟩ rfl rfl hl.1 rfl (lv_room (Nat.le_of_ble_eq_true rfl)) dX11_request_45 ⟨by rw [hRc]; omega, by rw [hRs]; omega⟩) hh_246.1 (fun q _ h => h) (fun q h => h) (fun u_247 t_247 H_247 locs_247 ht_247 hvm_247 hr_248 hb_247 hz_247 hk_247 hS_247 => ?_)
      obtain ⟨qc_247, qa_247, m_qa_247, G_247⟩ := u_247
      rw [ht_247] at hb_247
      simp only at hb_247
      obtain ⟨⟨hb_2471, hb_2472, hb_2473, hb_2474, hb_2475, hb_2476⟩, hgq_247_0, hN_247, hbO_247, hbE_247⟩ := hb_247
      have hh_247 : jSt (dC, dI) B base G0 G_247 EX11_requestU s.heap (0 + ((m_qa_247 - n_pa) / 16)) (0 + (2 * (m_qa_247 - n_pa))) [(bo, 2, 1, .int qc_247), (bo, 2, 0, .ref qa_247), (r0, 13, 11, .int 1), (r0, 13, 4, .ref bo), (r0, 13, 3, .ref ou), (r0, 13, 2, .ref js), (js, 6, 7, .int pv), (js, 6, 8, .int pu), (js, 6, 0, .ref wk), (js, 6, 1, .ref wi), (js, 6, 2, .ref wz), (js, 6, 3, .ref jnx), (js, 6, 4, .ref jkf), (js, 6, 5, .ref jks), (js, 6, 6, .ref jun)] [(wk, 140, 1502, ca 1, fk), (wi, 141, 1502, ca 1, fi), (wz, 142, 1502, ca 1, fz), (jnx, 143, 1502, ca 1, fn), (jkf, 144, 1502, ca 1, fa), (jks, 145, 1502, ca 1, fs), (jun, 146, 3000, ca 1, fu)] [(jFs11, jSef dC dI G0), (jFl, jLs dC dI ca G0 3 none wl)] H_247 locs_247 := (hh_246.callG hb_2471 hb_2472 hb_2473 hb_2474 hb_2475 hS_247 rfl (L1 := [(r0, 13, 11, .int 1), (r0, 13, 4, .ref bo), (r0, 13, 3, .ref ou), (r0, 13, 2, .ref js), (js, 6, 7, .int pv), (js, 6, 8, .int pu), (js, 6, 0, .ref wk), (js, 6, 1, .ref wi), (js, 6, 2, .ref wz), (js, 6, 3, .ref jnx), (js, 6, 4, .ref jkf), (js, 6, 5, .ref jks), (js, 6, 6, .ref jun)]) [0, 1, 4, 5, 6, 7, 8, 9, 10, 11, 12, 13, 14] rfl rfl (M1 := [(wk, 140, 1502, ca 1, fk), (wi, 141, 1502, ca 1, fi), (wz, 142, 1502, ca 1, fz), (jnx, 143, 1502, ca 1, fn), (jkf, 144, 1502, ca 1, fa), (jks, 145, 1502, ca 1, fs), (jun, 146, 3000, ca 1, fu)]) [0, 1, 2, 3, 4, 5, 6] rfl rfl (I1 := [(jFs11, jSef dC dI G0), (jFl, jLs dC dI ca G0 3 none wl)]) [2, 3] rfl rfl).more hb_2476
      have hNn_247 : (jNk [0, 1, 2, 3, 4, 5, 6, 7, 8, 9, 10, 11, 12, 13, 14, 15, 16]) G0 G_247 := (jNk.rf).tr hN_247
      have hg_249 := hb_2472 _ _ hg_r0
      have hg_250 := hb_2472 _ _ hg_r1
      have hg_251 := hb_2472 _ _ hg_bo
      have hg_252 := hb_2472 _ _ hg_ou
      have hg_253 := hb_2472 _ _ hg_js
      have hg_254 := hb_2472 _ _ hg_wk
      have hg_255 := hb_2472 _ _ hg_wi
      have hg_256 := hb_2472 _ _ hg_wz
      have hg_257 := hb_2472 _ _ hg_jnx
      have hg_258 := hb_2472 _ _ hg_jkf
      have hg_259 := hb_2472 _ _ hg_jks
      have hg_260 := hb_2472 _ _ hg_jun
      have hd_261 := jSef.grow (hh_247.iv 0 rfl) hb_2472 hN_247 (by decide)
      have hh_262 := hh_247.sub (L1 := [(bo, 2, 1, .int qc_247), (bo, 2, 0, .ref qa_247), (r0, 13, 11, .int 1), (r0, 13, 4, .ref bo), (r0, 13, 3, .ref ou), (r0, 13, 2, .ref js), (js, 6, 7, .int pv), (js, 6, 8, .int pu), (js, 6, 0, .ref wk), (js, 6, 1, .ref wi), (js, 6, 2, .ref wz), (js, 6, 3, .ref jnx), (js, 6, 4, .ref jkf), (js, 6, 5, .ref jks), (js, 6, 6, .ref jun)]) [0, 1, 2, 3, 4, 5, 6, 7, 8, 9, 10, 11, 12, 13, 14] rfl (M1 := [(wk, 140, 1502, ca 1, fk), (wi, 141, 1502, ca 1, fi), (wz, 142, 1502, ca 1, fz), (jnx, 143, 1502, ca 1, fn), (jkf, 144, 1502, ca 1, fa), (jks, 145, 1502, ca 1, fs), (jun, 146, 3000, ca 1, fu)]) [0, 1, 2, 3, 4, 5, 6] rfl (I1 := [(jFl, jLs dC dI ca G0 3 none wl)]) [1] rfl
      clear hh_247
      have hh_263 := hh_262.addI (jSef.ie hd_261)
      clear hh_262
      have hd_264 := jLs.grow (hh_263.iv 1 rfl) hb_2472 hN_247 (by decide)
      have hh_265 := hh_263.sub (L1 := [(bo, 2, 1, .int qc_247), (bo, 2, 0, .ref qa_247), (r0, 13, 11, .int 1), (r0, 13, 4, .ref bo), (r0, 13, 3, .ref ou), (r0, 13, 2, .ref js), (js, 6, 7, .int pv), (js, 6, 8, .int pu), (js, 6, 0, .ref wk), (js, 6, 1, .ref wi), (js, 6, 2, .ref wz), (js, 6, 3, .ref jnx), (js, 6, 4, .ref jkf), (js, 6, 5, .ref jks), (js, 6, 6, .ref jun)]) [0, 1, 2, 3, 4, 5, 6, 7, 8, 9, 10, 11, 12, 13, 14] rfl (M1 := [(wk, 140, 1502, ca 1, fk), (wi, 141, 1502, ca 1, fi), (wz, 142, 1502, ca 1, fz), (jnx, 143, 1502, ca 1, fn), (jkf, 144, 1502, ca 1, fa), (jks, 145, 1502, ca 1, fs), (jun, 146, 3000, ca 1, fu)]) [0, 1, 2, 3, 4, 5, 6] rfl (I1 := [(jFs11, jSef dC dI G_247)]) [0] rfl
      clear hh_263
      have hh_266 := hh_265.addI (jLs.ie hd_264)
      clear hh_265
      have hh_267 := hh_266.addIs hbE_247
      have hd_268 := jOl.trL (hh_246.iv 0 rfl) hh_246.2.2.2.2.1 hbO_247 (by simp)
      have hh_269 := hh_267.addI (jOl.ie (dC := dC) (dI := dI) (G0 := G0) (k := 2) (rs := [bo, ou]) (H0 := s.heap) (F := [(2, 0), (2, 1)]) (C := RX0) (T := TX0) (N := 2) rfl (by decide) hh_267.2.2.2.2.1 (hd_268))
      clear hh_267
      try simp only at hr_248
      obtain ⟨hr_248_0, hr_248_1, hr_248_2, hr_248_3, hr_248_4⟩ := hr_248
      have hh_270 := hh_269.wk (zc1 := (m_qa_247 - n_pa) / 16 + 2) (zs1 := 2 * (m_qa_247 - n_pa) + 40 + pu.toInt.toNat) (by omega) (by omega)
      clear hh_269
      try clear hsz_247 htt_247 hrc_247 hrs_247
      try clear hb_2474 hb_2475
      refine lv_aload_n hx hb dX11_request_48 rfl (lv_at hl 2 rfl) ?_
      refine j7_read hx hb hown hK (C := RX11) (T := TX11) (N := 19) rfl hly_13_4 hlk_35 (hh_270.at 3 rfl) dX11_request_49 ?_
      refine j_ldcSw hx hb hown rstr295 dX11_request_52 ?_
      have hsz_271 := hh_270.2.2.2.2.2.1
      have htt_271 := hh_270.2.2.2.2.2.2.1
      refine W.room (fun hrc_271 hrs_271 => ?_)
      refine va_callv (A0 := jA base) (H0 := s.heap) (va_runV (As := [.ref str295]) (rest := []) ⟨hx, hb, hml, hown, hts⟩ (uX0_text l dC dI ca base B hB hAp hB2 hB196 G_247 H_247 bo str295 40 qc_247 qa_247 m_qa_247 LC LS) (cwV 1 hts (jgV (jWr_26 _ (List.mem_of_getElem? (i := 11) rfl)) (jWr_25 _ (List.mem_of_getElem? (i := 22) rfl)) (jWr_25 _ (List.mem_of_getElem? (i := 23) rfl)) (jWr_1 _ (List.mem_of_getElem? (i := 14) rfl)) (jWr_26 _ (List.mem_of_getElem? (i := 0) rfl))) rfl rfl rfl (by decide +kernel) ⟨by rw [← hR]; exact Nat.le_of_ble_eq_true rfl, by rw [← hR]; exact Nat.le_of_ble_eq_true rfl⟩) ⟨fun a U g mk q => by obtain ⟨q0, q1, q2, qK, q10, q11, q12, q13, q14⟩ := q; exact ⟨q0, q1, q2, jG.calling g mk a qK, (q10.moved (Vm.Alike.refl U.vm)), q11, q12, q13, q14⟩, hh_270.recv (C := RX0) (T := TX0) (N := 2) hB2 rfl (by decide) hg_251 hK, fun U hU hW => ⟨rfl, hU, hh_270.2.1, hG.step hW hU hh_270.1, (hstr295.moved hW.alike).kept hh_270.1.2.1, hg_251, hgq_247_0, (hh_270.2.2.1.sub (L1 := [(bo, 2, 1, .int qc_247), (bo, 2, 0, .ref qa_247)]) [0, 1] rfl), (by omega), (by omega), ⟨(by first | omega | rfl | assumption | fail), (by first | omega | rfl | assumption | fail), (by first | omega | rfl | assumption | fail), (by first | omega | rfl | assumption | fail), (by first | assumption | fail | omega), (by first | omega | rfl | assumption | fail)⟩⟩⟩ rfl rfl hl.1 rfl (lv_room (Nat.le_of_ble_eq_true rfl)) dX11_request_55 ⟨by rw [hRc]; omega, by rw [hRs]; omega⟩) hh_270.1 (fun q _ h => h) (fun q h => h) (fun u_271 t_271 H_271 locs_271 ht_271 hvm_271 hr_272 hb_271 hz_271 hk_271 hS_271 => ?_)
      obtain ⟨qc_271, qa_271, m_qa_271, G_271⟩ := u_271
      rw [ht_271] at hb_271
      simp only at hb_271
      obtain ⟨⟨hb_2711, hb_2712, hb_2713, hb_2714, hb_2715, hb_2716⟩, hgq_271_0, hN_271, hbO_271⟩ := hb_271
      have hy_273 := hh_270.iv 1 rfl
      have hh_271 : jSt (dC, dI) B base G0 G_271 EX11_requestU s.heap (((m_qa_247 - n_pa) / 16 + 2) + ((m_qa_271 - m_qa_247) / 16)) ((2 * (m_qa_247 - n_pa) + 40 + pu.toInt.toNat) + (2 * (m_qa_271 - m_qa_247))) [(bo, 2, 1, .int qc_271), (bo, 2, 0, .ref qa_271), (r0, 13, 11, .int 1), (r0, 13, 4, .ref bo), (r0, 13, 3, .ref ou), (r0, 13, 2, .ref js), (js, 6, 7, .int pv), (js, 6, 8, .int pu), (js, 6, 0, .ref wk), (js, 6, 1, .ref wi), (js, 6, 2, .ref wz), (js, 6, 3, .ref jnx), (js, 6, 4, .ref jkf), (js, 6, 5, .ref jks), (js, 6, 6, .ref jun)] [(wk, 140, 1502, ca 1, fk), (wi, 141, 1502, ca 1, fi), (wz, 142, 1502, ca 1, fz), (jnx, 143, 1502, ca 1, fn), (jkf, 144, 1502, ca 1, fa), (jks, 145, 1502, ca 1, fs), (jun, 146, 3000, ca 1, fu)] [(jFl, jLs dC dI ca G_247 3 none wl), (jFs11, jSef dC dI G_247)] H_271 locs_271 := (hh_270.callG hb_2711 hb_2712 hb_2713 hb_2714 hb_2715 hS_271 rfl (L1 := [(r0, 13, 11, .int 1), (r0, 13, 4, .ref bo), (r0, 13, 3, .ref ou), (r0, 13, 2, .ref js), (js, 6, 7, .int pv), (js, 6, 8, .int pu), (js, 6, 0, .ref wk), (js, 6, 1, .ref wi), (js, 6, 2, .ref wz), (js, 6, 3, .ref jnx), (js, 6, 4, .ref jkf), (js, 6, 5, .ref jks), (js, 6, 6, .ref jun)]) [2, 3, 4, 5, 6, 7, 8, 9, 10, 11, 12, 13, 14] rfl rfl (M1 := [(wk, 140, 1502, ca 1, fk), (wi, 141, 1502, ca 1, fi), (wz, 142, 1502, ca 1, fz), (jnx, 143, 1502, ca 1, fn), (jkf, 144, 1502, ca 1, fa), (jks, 145, 1502, ca 1, fs), (jun, 146, 3000, ca 1, fu)]) [0, 1, 2, 3, 4, 5, 6] rfl rfl (I1 := [(jFl, jLs dC dI ca G_247 3 none wl), (jFs11, jSef dC dI G_247)]) [2, 3] rfl rfl).more hb_2716
      have hNn_271 : (jNk [0, 1, 2, 3, 4, 5, 6, 7, 8, 9, 10, 11, 12, 13, 14, 15, 16]) G0 G_271 := (hNn_247).tr hN_271
      have hg_274 := hb_2712 _ _ hg_249
      have hg_275 := hb_2712 _ _ hg_250
      have hg_276 := hb_2712 _ _ hg_251
      have hg_277 := hb_2712 _ _ hg_252
      have hg_278 := hb_2712 _ _ hg_253
      have hg_279 := hb_2712 _ _ hg_254
      have hg_280 := hb_2712 _ _ hg_255
      have hg_281 := hb_2712 _ _ hg_256
      have hg_282 := hb_2712 _ _ hg_257
      have hg_283 := hb_2712 _ _ hg_258
      have hg_284 := hb_2712 _ _ hg_259
      have hg_285 := hb_2712 _ _ hg_260
      have hd_286 := jLs.grow (hh_271.iv 0 rfl) hb_2712 hN_271 (by decide)
      have hh_287 := hh_271.sub (L1 := [(bo, 2, 1, .int qc_271), (bo, 2, 0, .ref qa_271), (r0, 13, 11, .int 1), (r0, 13, 4, .ref bo), (r0, 13, 3, .ref ou), (r0, 13, 2, .ref js), (js, 6, 7, .int pv), (js, 6, 8, .int pu), (js, 6, 0, .ref wk), (js, 6, 1, .ref wi), (js, 6, 2, .ref wz), (js, 6, 3, .ref jnx), (js, 6, 4, .ref jkf), (js, 6, 5, .ref jks), (js, 6, 6, .ref jun)]) [0, 1, 2, 3, 4, 5, 6, 7, 8, 9, 10, 11, 12, 13, 14] rfl (M1 := [(wk, 140, 1502, ca 1, fk), (wi, 141, 1502, ca 1, fi), (wz, 142, 1502, ca 1, fz), (jnx, 143, 1502, ca 1, fn), (jkf, 144, 1502, ca 1, fa), (jks, 145, 1502, ca 1, fs), (jun, 146, 3000, ca 1, fu)]) [0, 1, 2, 3, 4, 5, 6] rfl (I1 := [(jFs11, jSef dC dI G_247)]) [1] rfl
      clear hh_271
      have hh_288 := hh_287.addI (jLs.ie hd_286)
      clear hh_287
      have hd_289 := jSef.grow (hh_288.iv 1 rfl) hb_2712 hN_271 (by decide)
      have hh_290 := hh_288.sub (L1 := [(bo, 2, 1, .int qc_271), (bo, 2, 0, .ref qa_271), (r0, 13, 11, .int 1), (r0, 13, 4, .ref bo), (r0, 13, 3, .ref ou), (r0, 13, 2, .ref js), (js, 6, 7, .int pv), (js, 6, 8, .int pu), (js, 6, 0, .ref wk), (js, 6, 1, .ref wi), (js, 6, 2, .ref wz), (js, 6, 3, .ref jnx), (js, 6, 4, .ref jkf), (js, 6, 5, .ref jks), (js, 6, 6, .ref jun)]) [0, 1, 2, 3, 4, 5, 6, 7, 8, 9, 10, 11, 12, 13, 14] rfl (M1 := [(wk, 140, 1502, ca 1, fk), (wi, 141, 1502, ca 1, fi), (wz, 142, 1502, ca 1, fz), (jnx, 143, 1502, ca 1, fn), (jkf, 144, 1502, ca 1, fa), (jks, 145, 1502, ca 1, fs), (jun, 146, 3000, ca 1, fu)]) [0, 1, 2, 3, 4, 5, 6] rfl (I1 := [(jFl, jLs dC dI ca G_271 3 none wl)]) [0] rfl
      clear hh_288
      have hh_291 := hh_290.addI (jSef.ie hd_289)
      clear hh_290
      have hd_292 := jOl.trO (hh_270.iv 0 rfl) hh_270.2.2.2.2.1 hbO_271 (by simp)
      have hh_293 := hh_291.addI (jOl.ie (dC := dC) (dI := dI) (G0 := G0) (k := 2) (rs := [bo, ou]) (H0 := s.heap) (F := [(2, 0), (2, 1)]) (C := RX0) (T := TX0) (N := 2) rfl (by decide) hh_291.2.2.2.2.1 (hd_292))
      clear hh_291
      have hyp_271 : qc_271.toInt ≤ (m_qa_271 : Nat) ∧ m_qa_271 ≤ 1048576 := by (try simp only at hr_272); omega
      have hy_294 := jYb.own hy_273 hbO_271 hb_2712 hN_271 (by decide) (fun _ => ⟨_, _, _, hh_293.at 0 rfl, hh_293.at 1 rfl, hgq_271_0, hyp_271⟩)
      have hh_295 := hh_293.addI (jYb.ie hy_294)
      clear hh_293
      try simp only at hr_272
      obtain ⟨hr_272_0, hr_272_1, hr_272_2, hr_272_3, hr_272_4⟩ := hr_272
      have hh_296 := hh_295.wk (zc1 := (m_qa_271 - n_pa) / 16 + 2) (zs1 := 2 * (m_qa_271 - n_pa) + 40 + pu.toInt.toNat) (by omega) (by omega)
      clear hh_295
      try clear hsz_271 htt_271 hrc_271 hrs_271
      try clear hb_2714 hb_2715
      refine lv_aload_n hx hb dX11_request_58 rfl (lv_at hl 2 rfl) ?_
      obtain ⟨v_299, hv_299, hh_300⟩ := hh_296.pin (C := RX0) (T := TX0) (N := 2) hB2 rfl (by decide) hg_277 (i := 1) (by decide) rfl
      obtain ⟨count_301, rfl, hlocount_301, hhicount_301, hfxcount_301⟩ := hv_299
      obtain ⟨v_302, hv_302, hh_303⟩ := hh_300.pin (C := RX0) (T := TX0) (N := 2) hB2 rfl (by decide) hg_277 (i := 0) (by decide) rfl
      obtain ⟨row_304, nrow_304, rfl, hg_row_304, hlorow_304, hhirow_304, hpwrow_304, hfxrow_304⟩ := jBr.k6 (by decide) hv_302
      have hsz_297 := hh_303.2.2.2.2.2.1
      have htt_297 := hh_303.2.2.2.2.2.2.1
      refine W.room (fun hrc_297 hrs_297 => ?_)
      refine va_callv (A0 := jA base) (H0 := s.heap) (va_runV (As := []) (rest := []) ⟨hx, hb, hml, hown, hts⟩ (uX11_send l dC dI ca base B hB hAp hB2 hB4 hB13 hB196 G_271 H_271 r0 bo qc_271 qa_271 m_qa_271 ou count_301 row_304 nrow_304) (cwV 0 hts (jgV (jWr_26 _ (List.mem_of_getElem? (i := 20) rfl)) (jWr_26 _ (List.mem_of_getElem? (i := 21) rfl)) (jWr_26 _ (List.mem_of_getElem? (i := 22) rfl)) (jWr_1 _ (List.mem_of_getElem? (i := 2) rfl)) (jWr_26 _ (List.mem_of_getElem? (i := 23) rfl))) rfl rfl rfl (by decide +kernel) ⟨by rw [← hR]; exact Nat.le_of_ble_eq_true rfl, by rw [← hR]; exact Nat.le_of_ble_eq_true rfl⟩) ⟨fun a U g mk q => by obtain ⟨q0, q1, q2, qK, q10, q11, q12, q13, q14, q15, q16, q17⟩ := q; exact ⟨q0, q1, q2, jG.calling g mk a qK, q10, q11, q12, q13, q14, q15, q16, q17⟩, hh_303.recv (C := RX11) (T := TX11) (N := 19) hB13 rfl (by decide) hg_274 hK, fun U hU hW => ⟨rfl, hU, hh_303.2.1, hG.step hW hU hh_303.1, hg_274, hg_276, hgq_271_0, hg_277, hg_row_304, (hh_303.2.2.1.sub (L1 := [(r0, 13, 4, .ref bo), (bo, 2, 1, .int qc_271), (bo, 2, 0, .ref qa_271), (r0, 13, 3, .ref ou), (ou, 2, 1, .int count_301), (ou, 2, 0, .ref row_304)]) [5, 2, 3, 6, 1, 0] rfl), (hh_303.2.2.2.2.2.2.2.2.sub (L1 := [(jFy, jYb dC dI G_271)]) [0] rfl), ⟨(by first | omega | rfl | assumption | fail), (by first | omega | rfl | assumption | fail), (by first | omega | rfl | assumption | fail), (by first | omega | rfl | assumption | fail), (by first | omega | rfl | assumption | fail), (by first | omega | rfl | assumption | fail)⟩⟩⟩ rfl rfl hl.1 rfl (lv_room (Nat.le_of_ble_eq_true rfl)) dX11_request_59 ⟨by rw [hRc]; show _ + 0 ≤ _; omega, by rw [hRs]; show _ + 0 ≤ _; omega⟩) hh_303.1 (fun q _ h => h) (fun q h => h) (fun u_297 t_297 H_297 locs_297 ht_297 hvm_297 hr_298 hb_297 hz_297 hk_297 hS_297 => ?_)
      rw [ht_297] at hb_297
      obtain ⟨hb_297, hbE_297⟩ := hb_297
      obtain ⟨hb_297, hbO_297⟩ := hb_297
      obtain ⟨hb_2971, hb_2972, hb_2973, hb_2974, hb_2975⟩ := hb_297
      have hh_297 : jSt (dC, dI) B base G0 G_271 EX11_requestU s.heap ((m_qa_271 - n_pa) / 16 + 2) (2 * (m_qa_271 - n_pa) + 40 + pu.toInt.toNat) [(r0, 13, 11, .int 1), (r0, 13, 4, .ref bo), (r0, 13, 3, .ref ou), (r0, 13, 2, .ref js), (js, 6, 7, .int pv), (js, 6, 8, .int pu), (js, 6, 0, .ref wk), (js, 6, 1, .ref wi), (js, 6, 2, .ref wz), (js, 6, 3, .ref jnx), (js, 6, 4, .ref jkf), (js, 6, 5, .ref jks), (js, 6, 6, .ref jun)] [(wk, 140, 1502, ca 1, fk), (wi, 141, 1502, ca 1, fi), (wz, 142, 1502, ca 1, fz), (jnx, 143, 1502, ca 1, fn), (jkf, 144, 1502, ca 1, fa), (jks, 145, 1502, ca 1, fs), (jun, 146, 3000, ca 1, fu)] [(jFy, jYb dC dI G_271), (jFs11, jSef dC dI G_271), (jFl, jLs dC dI ca G_271 3 none wl)] H_297 locs_297 := (((hh_303.call hb_2971 hb_2972 hb_2973 hb_2974 hS_297 rfl (L1 := [(r0, 13, 11, .int 1), (r0, 13, 4, .ref bo), (r0, 13, 3, .ref ou), (r0, 13, 2, .ref js), (js, 6, 7, .int pv), (js, 6, 8, .int pu), (js, 6, 0, .ref wk), (js, 6, 1, .ref wi), (js, 6, 2, .ref wz), (js, 6, 3, .ref jnx), (js, 6, 4, .ref jkf), (js, 6, 5, .ref jks), (js, 6, 6, .ref jun)]) [4, 5, 6, 7, 8, 9, 10, 11, 12, 13, 14, 15, 16] rfl rfl (M1 := [(wk, 140, 1502, ca 1, fk), (wi, 141, 1502, ca 1, fi), (wz, 142, 1502, ca 1, fz), (jnx, 143, 1502, ca 1, fn), (jkf, 144, 1502, ca 1, fa), (jks, 145, 1502, ca 1, fs), (jun, 146, 3000, ca 1, fu)]) [0, 1, 2, 3, 4, 5, 6] rfl rfl (I1 := [(jFs11, jSef dC dI G_271), (jFl, jLs dC dI ca G_271 3 none wl)]) [2, 3] rfl rfl).more hb_2975)).addIs hbE_297
      have hh_305 := hh_297.more (P1 := [(bo, 2, 1, .int qc_271), (bo, 2, 0, .ref qa_271)]) (jP.cons hg_276 (hbO_297 _ _ _ _ (jn1 (by first | assumption | exact Ne.symm (by assumption) | exact jnek hg_276 hg_277 (by decide))) hg_276 (hh_303.at 2 rfl)) (jP.cons hg_276 (hbO_297 _ _ _ _ (jn1 (by first | assumption | exact Ne.symm (by assumption) | exact jnek hg_276 hg_277 (by decide))) hg_276 (hh_303.at 3 rfl)) jP.nil))
      have hd_306 := jOl.trL (hh_303.iv 1 rfl) hh_303.2.2.2.2.1 hbO_297 (by simp)
      have hh_307 := hh_305.addI (jOl.ie (dC := dC) (dI := dI) (G0 := G0) (k := 2) (rs := [bo, ou]) (H0 := s.heap) (F := [(2, 0), (2, 1)]) (C := RX0) (T := TX0) (N := 2) rfl (by decide) hh_305.2.2.2.2.1 (hd_306))
      clear hh_305
      clear hh_303 ht_297 hvm_297 hz_297 hk_297 hS_297 hb_2971 hb_2972 hb_2973 hb_2974 hb_2975
      clear  hbE_297
      refine lv_goto (tgt := 212) hx hb dX11_request_62 (by decide) ?_
      have hqz9 : (1 : Int) = jdRq T9 pv.toInt pz.toInt := by have h9 : jdRq T9 pv.toInt pz.toInt = _ := jdRq.a hm9 (by omega) (by rw [← hin9]; omega); omega
      have hsz_308 := hh_307.2.2.2.2.2.1
      have htt_308 := hh_307.2.2.2.2.2.2.1
      refine W.room (fun hrc_308 hrs_308 => ?_)
      refine W.widen (k := LC - s.heap.size) (n := LS - jTot s.heap) (by omega) (by omega) ?_
      rw [hQ]
      exact W.vret hx hb hr (fun t ht hW => ⟨⟨(qc_271, 1, qa_271, m_qa_271, G_271), rfl, by (try dsimp only); exact ⟨(by first | omega | rfl | assumption | fail), (by first | omega | rfl | assumption | fail), (by first | omega | rfl | assumption | fail), (by first | omega | rfl | assumption | fail), (by first | assumption | fail | omega), (by first | assumption | fail | omega)⟩, ⟨hh_307.ra (by first | (simp only; omega) | omega) (by first | (simp only; omega) | omega) (M1 := [(bo, 2, 1, .int qc_271), (r0, 13, 11, .int 1), (bo, 2, 0, .ref qa_271)]) [0, 2, 1] rfl ht, hgq_271_0, hNn_271, by rw [ht]; exact hh_307.iv 0 rfl, by rw [ht]; exact hh_307.2.2.2.2.2.2.2.2.sub (L1 := [(jFy, jYb dC dI G_271), (jFs11, jSef dC dI G_271), (jFl, jLs dC dI ca G_271 3 none wl)]) [1, 2, 3] rfl⟩⟩, by rw [ht]; try exact hh_307.1.1, fun q h9 hq => by rw [ht]; try exact hh_307.1.2.1 q h9 hq⟩) hh_307.1.2.2 dX11_request_212
end
