section
def EX11_requestT : List (Nat × Nat) := [(1, 0), (1, 1), (1, 2), (2, 0), (2, 1), (8, 3), (9, 2), (10, 1), (10, 2), (10, 3), (10, 4), (13, 11), (13, 14), (101, 0), (102, 0), (132, 0), (133, 0), (196, 0), (221, 0), (222, 0), (223, 0), (286, 0), (287, 0), (288, 0)]
set_option maxHeartbeats 4000000 in
set_option maxRecDepth 20000 in
theorem uX11_requestT (l : Launch) (dC : Nat → ClassId) (dI : Nat → Nat → Nat) (ca : Nat → ClassId) (base : Nat) (B : jF) (hB : jBok B) (hAp : jAp (dC, dI)) (hB1 : ∀ n G a H, B 1 n G a H ↔ jOb (dC, dI) 1 3 (F1 n G) a H) (hB2 : ∀ n G a H, B 2 n G a H ↔ jOb (dC, dI) 2 2 (F2 n G) a H) (hB3 : ∀ n G a H, B 3 n G a H ↔ jOb (dC, dI) 3 17 (F3 n G) a H) (hB4 : ∀ n G a H, B 4 n G a H ↔ jOb (dC, dI) 4 12 (F4 n G) a H) (hB5 : ∀ n G a H, B 5 n G a H ↔ jOb (dC, dI) 5 4 (F5 n G) a H) (hB6 : ∀ n G a H, B 6 n G a H ↔ jOb (dC, dI) 6 12 (F6 n G) a H) (hB7 : ∀ n G a H, B 7 n G a H ↔ jOb (dC, dI) 7 11 (F7 n G) a H) (hB8 : ∀ n G a H, B 8 n G a H ↔ jOb (dC, dI) 8 4 (F8 n G) a H) (hB9 : ∀ n G a H, B 9 n G a H ↔ jOb (dC, dI) 9 5 (F9b n G) a H) (hB10 : ∀ n G a H, B 10 n G a H ↔ jOb (dC, dI) 10 5 (F10 n G) a H) (hB11 : ∀ n G a H, B 11 n G a H ↔ jOb (dC, dI) 11 9 (F11 n G) a H) (hB13 : ∀ n G a H, B 13 n G a H ↔ jOb (dC, dI) 13 19 (F13 n G) a H) (hB17 : ∀ n G a H, B 17 n G a H ↔ jOb (dC, dI) 17 2 (F17 n G) a H) (hB101 : ∀ n G a H, B 101 n G a H ↔ jAr (dC, dI) (ca 1) (fun j z => True) n a H) (hB102 : ∀ n G a H, B 102 n G a H ↔ jAl (dC, dI) (ca 2) n a H) (hB132 : ∀ n G a H, B 132 n G a H ↔ jAr (dC, dI) (ca 1) (fun j z => 0 ≤ z.toInt ∧ z.toInt ≤ 10) n a H) (hB133 : ∀ n G a H, B 133 n G a H ↔ jAr (dC, dI) (ca 1) (fun j z => 0 ≤ z.toInt ∧ z.toInt ≤ 8192) n a H) (hB140 : ∀ n G a H, B 140 n G a H ↔ jAr (dC, dI) (ca 1) (fun j z => True) n a H) (hB141 : ∀ n G a H, B 141 n G a H ↔ jAr (dC, dI) (ca 1) (fun j z => True) n a H) (hB142 : ∀ n G a H, B 142 n G a H ↔ jAr (dC, dI) (ca 1) (fun j z => True) n a H) (hB143 : ∀ n G a H, B 143 n G a H ↔ jAr (dC, dI) (ca 1) (fun j z => True) n a H) (hB144 : ∀ n G a H, B 144 n G a H ↔ jAr (dC, dI) (ca 1) (fun j z => 0 ≤ z.toInt ∧ z.toInt ≤ 3000) n a H) (hB145 : ∀ n G a H, B 145 n G a H ↔ jAr (dC, dI) (ca 1) (fun j z => True) n a H) (hB146 : ∀ n G a H, B 146 n G a H ↔ jAr (dC, dI) (ca 1) (fun j z => True) n a H) (hB171 : ∀ n G a H, B 171 n G a H ↔ jAr (dC, dI) (ca 1) (fun j z => 0 ≤ z.toInt ∧ z.toInt ≤ 1500) n a H) (hB172 : ∀ n G a H, B 172 n G a H ↔ jAr (dC, dI) (ca 1) (fun j z => 0 ≤ z.toInt ∧ z.toInt ≤ 1500) n a H) (hB173 : ∀ n G a H, B 173 n G a H ↔ jAr (dC, dI) (ca 1) (fun j z => True) n a H) (hB174 : ∀ n G a H, B 174 n G a H ↔ jAr (dC, dI) (ca 1) (fun j z => True) n a H) (hB175 : ∀ n G a H, B 175 n G a H ↔ jAr (dC, dI) (ca 1) (fun j z => True) n a H) (hB176 : ∀ n G a H, B 176 n G a H ↔ jAr (dC, dI) (ca 1) (fun j z => True) n a H) (hB196 : ∀ n G a H, B 196 n G a H ↔ jAr (dC, dI) (ca 0) (fun j z => jBf j z) n a H) (hB199 : ∀ n G a H, B 199 n G a H ↔ jAr (dC, dI) (ca 0) (fun j z => jBf j z) n a H) (hB210 : ∀ n G a H, B 210 n G a H ↔ jAq (dC, dI) (ca 6) (jQn 11 0) n G a H) (hB214 : ∀ n G a H, B 214 n G a H ↔ jAq (dC, dI) (ca 7) (jQg) n G a H) (hB221 : ∀ n G a H, B 221 n G a H ↔ jAq (dC, dI) (ca 9) (jQn 3 0) n G a H) (hB222 : ∀ n G a H, B 222 n G a H ↔ jAq (dC, dI) (ca 9) (jQn 10 0) n G a H) (hB280 : ∀ n G a H, B 280 n G a H ↔ jAr (dC, dI) (ca 1) (fun j z => -1 ≤ z.toInt) n a H) (hB286 : ∀ n G a H, B 286 n G a H ↔ jAr (dC, dI) (ca 1) (fun j z => (0 ≤ z.toInt ∨ z.toInt = -3)) n a H) (hB287 : ∀ n G a H, B 287 n G a H ↔ jAr (dC, dI) (ca 1) (fun j z => 0 ≤ z.toInt ∧ z.toInt ≤ 65535) n a H) (hB288 : ∀ n G a H, B 288 n G a H ↔ jAr (dC, dI) (ca 1) (fun j z => 0 ≤ z.toInt ∧ z.toInt ≤ 160) n a H) (hB313 : ∀ n G a H, B 313 n G a H ↔ jAq (dC, dI) (ca 8) (jQk 280 80) n G a H) (G0 : jT) (H0 : Heap) (r0 : Nat) (r1 : Nat) (bo : Nat) (pc : Int32) (pa : Nat) (n_pa : Nat) (ou : Nat) (js : Nat) (pv : Int32) (pu : Int32) (wk : Nat) (wi : Nat) (wz : Nat) (jnx : Nat) (jkf : Nat) (jks : Nat) (jun : Nat) (pz : Int32) (op : Nat) (sz : Int32) (wt_ : Nat) (wn : Int32) (s0 : Nat) (tq : jDtl) (ho : Nat → Option Nat) (us rw : Nat → List Int) (ib : Nat → List Int) (S9 : Int × (Int → jdD)) (Z9 : jwSt) (T9 : Nat → Int → Int) (wl : jWl9) (kq : jKg) (qq : jRqG) (fk : Nat → Int32) (fi : Nat → Int32) (fz : Nat → Int32) (fn : Nat → Int32) (fa : Nat → Int32) (fs : Nat → Int32) (fu : Nat → Int32) (LC LS : Nat) : Met l yX11_request (jw yX11_request cX11_request 4 none) ({ frames := 9, cells := LC - H0.size, slots := LS - jTot H0, locals := 263 }) (va_Pc [.ref r0, .ref r1] (fun U => U.heap = H0 ∧ jX B base G0 [] H0 ∧ jG dC dI ca base U ∧ jK2 dC dI ca U ∧ jK5 dC dI ca U ∧ jK7 dC dI ca base U ∧ G0 r0 = some (13, 0) ∧ G0 r1 = some (10, 0) ∧ G0 bo = some (2, 0) ∧ G0 pa = some (196, n_pa) ∧ G0 ou = some (2, 20000) ∧ G0 js = some (6, 0) ∧ G0 wk = some (140, 1502) ∧ G0 wi = some (141, 1502) ∧ G0 wz = some (142, 1502) ∧ G0 jnx = some (143, 1502) ∧ G0 jkf = some (144, 1502) ∧ G0 jks = some (145, 1502) ∧ G0 jun = some (146, 3000) ∧ G0 op = some (1, 1) ∧ G0 wt_ = some (1, 2) ∧ jP (dC, dI) G0 H0 [(r0, 13, 4, .ref bo), (bo, 2, 1, .int pc), (bo, 2, 0, .ref pa), (r0, 13, 3, .ref ou), (r0, 13, 2, .ref js), (js, 6, 7, .int pv), (js, 6, 8, .int pu), (js, 6, 0, .ref wk), (js, 6, 1, .ref wi), (js, 6, 2, .ref wz), (js, 6, 3, .ref jnx), (js, 6, 4, .ref jkf), (js, 6, 5, .ref jks), (js, 6, 6, .ref jun), (r0, 13, 11, .int pz), (r0, 13, 7, .ref op), (op, 1, 2, .int sz), (r0, 13, 8, .ref wt_), (wt_, 1, 2, .int wn)] ∧ jMc (dC, dI) G0 H0 [(wk, 140, 1502, ca 1, fk), (wi, 141, 1502, ca 1, fi), (wz, 142, 1502, ca 1, fz), (jnx, 143, 1502, ca 1, fn), (jkf, 144, 1502, ca 1, fa), (jks, 145, 1502, ca 1, fs), (jun, 146, 3000, ca 1, fu)] ∧ jIs (dC, dI) G0 H0 [(jFy, jYb dC dI G0), (jFs11, jSef dC dI G0), (jFl, jLs dC dI ca G0 3 none wl), (jFcd, jCD dC dI ca G0 none tq), (jFkd, jKD dC dI ca G0 none kq), (jFqd, jQD dC dI ca G0 none qq)] ∧ H0.size + (1048576 - n_pa) / 16 + 4 ≤ LC ∧ jTot H0 + 2 * (1048576 - n_pa) + 3100 ≤ LS ∧ 0 ≤ pc.toInt ∧ pc.toInt ≤ n_pa ∧ 16 ≤ n_pa ∧ n_pa ≤ 1048576 ∧ jPw n_pa ∧ 0 ≤ pv.toInt ∧ pv.toInt ≤ 1502 ∧ 0 ≤ pu.toInt ∧ pu.toInt ≤ 3000 ∧ jJq fk fi fz pv.toInt ∧ jJu fk fz pv.toInt pu.toInt ∧ jjTC T9 pv.toInt pu.toInt fk fi fz fn fa fs fu ∧ jqR fk fi fz fa fs pv.toInt pu.toInt ∧ jjCo T9 0 pv.toInt ∧ 0 ≤ pz.toInt ∧ pz.toInt ≤ 2 ∧ 0 ≤ sz.toInt ∧ sz.toInt ≤ 40 ∧ jcZ G0 s0 tq kq wl ho us rw qq ib S9 Z9 ∧ jzAq qq ib wl r1 (jwId T9 pv.toInt (jdId T9 pv.toInt)))) (va_Qv (S := Int32 × Int32 × Nat × Nat × jWl9 × jRqG × jT) (fun u => 0 ≤ u.1.toInt ∧ u.1.toInt ≤ u.2.2.2.1 ∧ n_pa ≤ u.2.2.2.1 ∧ u.2.2.2.1 ≤ 1048576 ∧ jPw u.2.2.2.1 ∧ u.2.1.toInt = jdRq T9 pv.toInt pz.toInt ∧ jcZ G0 s0 tq kq u.2.2.2.2.1 ho us rw u.2.2.2.2.2.1 ib S9 (jwRq T9 pv.toInt pz.toInt S9 Z9)) (fun u t => jRa (dC, dI) B base G0 u.2.2.2.2.2.2 EX11_requestT H0 ((u.2.2.2.1 - n_pa) / 16 + 2) (2 * (u.2.2.2.1 - n_pa) + 40 + pu.toInt.toNat) [(bo, 2, 1, .int u.1), (r0, 13, 11, .int u.2.1), (bo, 2, 0, .ref u.2.2.1)] t.heap ∧ u.2.2.2.2.2.2 u.2.2.1 = some (196, u.2.2.2.1) ∧ (jNk [0, 1, 2, 3, 4, 5, 6, 7, 8, 9, 10, 11, 12, 13, 14, 15, 16, 17, 175]) G0 u.2.2.2.2.2.2 ∧ jOl (dC, dI) G0 2 [bo, ou] H0 t.heap ∧ jIs (dC, dI) u.2.2.2.2.2.2 t.heap [(jFy, jYb dC dI u.2.2.2.2.2.2), (jFs11, jSef dC dI u.2.2.2.2.2.2), (jFl, jLs dC dI ca u.2.2.2.2.2.2 3 none (u.2.2.2.2.1)), (jFcd, jCD dC dI ca u.2.2.2.2.2.2 none tq), (jFkd, jKD dC dI ca u.2.2.2.2.2.2 none kq), (jFqd, jQD dC dI ca u.2.2.2.2.2.2 none (u.2.2.2.2.2.1))]) (jA base)) (LC - H0.size) (LS - jTot H0) (jA base) := by
  refine Met.ofW (cc := cX11_request) (maxL := 4) (ret := none) (by decide) rfl ?_
  intro p e s m args below meth c s₁ Bd hml hv
  obtain ⟨rfl, hH0, hX, hG, hK2, hK5, hK7, hg_r0, hg_r1, hg_bo, hg_pa, hg_ou, hg_js, hg_wk, hg_wi, hg_wz, hg_jnx, hg_jkf, hg_jks, hg_jun, hg_op, hg_wt_, hP0, hM0, hI0, hLC0, hLS0, hp0, hp1, hp2, hp3, hp4, hp5, hp6, hp7, hp8, hp9, hp10, hp11, hp12, hp13, hp14, hp15, hp16, hp17, hp18, hp19⟩ := hv
  have hK := hG.1
  have hx := Bd.exec
  have hb := Bd.bytes
  have hr := Bd.returns
  have hts := atoms_spec (ws := (jw yX11_request cX11_request 4 none)) Bd.pre
  have htw : ∀ w ∈ jWl, w.before _ s = true := fun w h => hts w (List.mem_cons_of_mem _ h)
  have hown : s.vm.findClass RX11 = some m.cls := findClass_of_methodNamed Bd.named
  have hlocks := Bd.notSynchronized
  obtain ⟨Q, hQ⟩ : ∃ Q, Q = MQ below (va_Qv (S := Int32 × Int32 × Nat × Nat × jWl9 × jRqG × jT) (fun u => 0 ≤ u.1.toInt ∧ u.1.toInt ≤ u.2.2.2.1 ∧ n_pa ≤ u.2.2.2.1 ∧ u.2.2.2.1 ≤ 1048576 ∧ jPw u.2.2.2.1 ∧ u.2.1.toInt = jdRq T9 pv.toInt pz.toInt ∧ jcZ G0 s0 tq kq u.2.2.2.2.1 ho us rw u.2.2.2.2.2.1 ib S9 (jwRq T9 pv.toInt pz.toInt S9 Z9)) (fun u t => jRa (dC, dI) B base G0 u.2.2.2.2.2.2 EX11_requestT H0 ((u.2.2.2.1 - n_pa) / 16 + 2) (2 * (u.2.2.2.1 - n_pa) + 40 + pu.toInt.toNat) [(bo, 2, 1, .int u.1), (r0, 13, 11, .int u.2.1), (bo, 2, 0, .ref u.2.2.1)] t.heap ∧ u.2.2.2.2.2.2 u.2.2.1 = some (196, u.2.2.2.1) ∧ (jNk [0, 1, 2, 3, 4, 5, 6, 7, 8, 9, 10, 11, 12, 13, 14, 15, 16, 17, 175]) G0 u.2.2.2.2.2.2 ∧ jOl (dC, dI) G0 2 [bo, ou] H0 t.heap ∧ jIs (dC, dI) u.2.2.2.2.2.2 t.heap [(jFy, jYb dC dI u.2.2.2.2.2.2), (jFs11, jSef dC dI u.2.2.2.2.2.2), (jFl, jLs dC dI ca u.2.2.2.2.2.2 3 none (u.2.2.2.2.1)), (jFcd, jCD dC dI ca u.2.2.2.2.2.2 none tq), (jFkd, jKD dC dI ca u.2.2.2.2.2.2 none kq), (jFqd, jQD dC dI ca u.2.2.2.2.2.2 none (u.2.2.2.2.2.1))]) (jA base)) ([.ref r0, .ref r1] : List Value).toArray s (LC - H0.size) (LS - jTot H0) (jA base) := ⟨_, rfl⟩
  rw [← hQ]
  have hl := lv_entry ([.ref r0, .ref r1]) (n := 4) (Nat.le_of_ble_eq_true rfl)
  rw [lg_entry_eq]
  generalize (lg_sl ([.ref r0, .ref r1]) ++ List.replicate (4 - (lg_sl ([.ref r0, .ref r1])).length) Slot.unset).toArray = ls at hl ⊢
  have hl : lv_has ls 4 [(0, .ref r0), (1, .ref r1)] := hl
  generalize hR : (headSpec (jw yX11_request cX11_request 4 none) ({ frames := 9, cells := LC - H0.size, slots := LS - jTot H0, locals := 263 })).room = R
  subst hH0
  have hh : jSt (dC, dI) B base G0 G0 EX11_requestT s.heap 0 0 [(r0, 13, 4, .ref bo), (bo, 2, 1, .int pc), (bo, 2, 0, .ref pa), (r0, 13, 3, .ref ou), (r0, 13, 2, .ref js), (js, 6, 7, .int pv), (js, 6, 8, .int pu), (js, 6, 0, .ref wk), (js, 6, 1, .ref wi), (js, 6, 2, .ref wz), (js, 6, 3, .ref jnx), (js, 6, 4, .ref jkf), (js, 6, 5, .ref jks), (js, 6, 6, .ref jun), (r0, 13, 11, .int pz), (r0, 13, 7, .ref op), (op, 1, 2, .int sz), (r0, 13, 8, .ref wt_), (wt_, 1, 2, .int wn)] [(wk, 140, 1502, ca 1, fk), (wi, 141, 1502, ca 1, fi), (wz, 142, 1502, ca 1, fz), (jnx, 143, 1502, ca 1, fn), (jkf, 144, 1502, ca 1, fa), (jks, 145, 1502, ca 1, fs), (jun, 146, 3000, ca 1, fu)] [(jFy, jYb dC dI G0), (jFs11, jSef dC dI G0), (jFl, jLs dC dI ca G0 3 none wl), (jFcd, jCD dC dI ca G0 none tq), (jFkd, jKD dC dI ca G0 none kq), (jFqd, jQD dC dI ca G0 none qq)] s.heap [] := jSt.start hX hP0 hM0 hI0
  clear hX hP0
  have hkm32601 : ((-32601) : Int32).toInt = (-32601) := by decide
  have hkm32600 : ((-32600) : Int32).toInt = (-32600) := by decide
  have hkm32002 : ((-32002) : Int32).toInt = (-32002) := by decide
  have hk0 : (0 : Int32).toInt = 0 := by decide
  have hk1 : (1 : Int32).toInt = 1 := by decide
  have hk2 : (2 : Int32).toInt = 2 := by decide
  have hly_13_2 := htw (u_lay RX11 TX11 2) (jWc_wsX110 _ (u_in_lay (by decide)))
  have hly_13_4 := htw (u_lay RX11 TX11 4) (jWc_wsX110 _ (u_in_lay (by decide)))
  have hly_13_11 := htw (u_lay RX11 TX11 11) (jWc_wsX110 _ (u_in_lay (by decide)))
  have hlk_28 := (htw (.fieldLink RX11 28 "ProofServer" "json" "LProofServer$Json;") (jWr_1 _ (List.mem_of_getElem? (i := 23) rfl)))
  obtain ⟨str281, rstr281, hstr2810⟩ := hG.strT (o := RX11) (k := 281) (tx := "method") (List.mem_of_getElem? (i := 859) (by decide +kernel))
  have hTstr281 : jStrF base str281 6 (jChT "method") s s.heap := hstr2810.F (by decide +kernel)
  have hstr281 : jStr base str281 6 s s.heap := hTstr281.str
  obtain ⟨str287, rstr287, hstr2870⟩ := hG.strT (o := RX11) (k := 287) (tx := qtx865) (List.mem_of_getElem? (i := 865) (by decide +kernel))
  have hTstr287 : jStrF base str287 10 (jChT qtx865) s s.heap := hstr2870.F (by decide +kernel)
  have hstr287 : jStr base str287 10 s s.heap := hTstr287.str
  have hlk_77 := (htw (.fieldLink RX11 77 "ProofServer" "phase" "I") (jWr_2 _ (List.mem_of_getElem? (i := 19) rfl)))
  obtain ⟨str289, rstr289, hstr2890⟩ := hG.strT (o := RX11) (k := 289) (tx := ",\"result\":") (List.mem_of_getElem? (i := 866) (by decide +kernel))
  have hTstr289 : jStrF base str289 10 (jChT ",\"result\":") s s.heap := hstr2890.F (by decide +kernel)
  have hstr289 : jStr base str289 10 s s.heap := hTstr289.str
  have hlk_35 := (htw (.fieldLink RX11 35 "ProofServer" "body" "LProofServer$Bytes;") (jWr_2 _ (List.mem_of_getElem? (i := 1) rfl)))
  obtain ⟨str295, rstr295, hstr2950⟩ := hG.strT (o := RX11) (k := 295) (tx := "{\"capabilities\":{\"textDocumentSync\":2}}}") (List.mem_of_getElem? (i := 867) (by decide +kernel))
  have hTstr295 : jStrF base str295 40 (jChT "{\"capabilities\":{\"textDocumentSync\":2}}}") s s.heap := hstr2950.F (by decide +kernel)
  have hstr295 : jStr base str295 40 s s.heap := hTstr295.str
  obtain ⟨str303, rstr303, hstr3030⟩ := hG.strT (o := RX11) (k := 303) (tx := "shutdown") (List.mem_of_getElem? (i := 868) (by decide +kernel))
  have hTstr303 : jStrF base str303 8 (jChT "shutdown") s s.heap := hstr3030.F (by decide +kernel)
  have hstr303 : jStr base str303 8 s s.heap := hTstr303.str
  obtain ⟨str305, rstr305, hstr3050⟩ := hG.strT (o := RX11) (k := 305) (tx := "null}") (List.mem_of_getElem? (i := 869) (by decide +kernel))
  have hTstr305 : jStrF base str305 5 (jChT "null}") s s.heap := hstr3050.F (by decide +kernel)
  have hstr305 : jStr base str305 5 s s.heap := hTstr305.str
  obtain ⟨str307, rstr307, hstr3070⟩ := hG.strT (o := RX11) (k := 307) (tx := "proof/goals") (List.mem_of_getElem? (i := 870) (by decide +kernel))
  have hTstr307 : jStrF base str307 11 (jChT "proof/goals") s s.heap := hstr3070.F (by decide +kernel)
  have hstr307 : jStr base str307 11 s s.heap := hTstr307.str
  obtain ⟨str317, rstr317, hstr3170⟩ := hG.strT (o := RX11) (k := 317) (tx := "proof/statement") (List.mem_of_getElem? (i := 1083) (by decide +kernel))
  have hTstr317 : jStrF base str317 15 (jChT "proof/statement") s s.heap := hstr3170.F (by decide +kernel)
  have hstr317 : jStr base str317 15 s s.heap := hTstr317.str
  have hbs : base ≤ s.heap.size := Nat.le_of_lt (Nat.lt_of_le_of_lt (hh.ab hg_r0).1 (hh.ab hg_r0).2)
  have hRc : R.cells = LC - s.heap.size := by rw [← hR]; rfl
  have hRs : R.slots = LS - jTot s.heap := by rw [← hR]; rfl
  have hh_1 := hh.addI (jOl.ie (dC := dC) (dI := dI) (G0 := G0) (k := 2) (rs := [bo, ou]) (H0 := s.heap) (F := [(2, 0), (2, 1)]) (C := RX0) (T := TX0) (N := 2) rfl (by decide) hh.2.2.2.2.1 (jOl.rf))
  clear hh
  have hCz9 := hp18
  have hAq9 := hp19
  refine lv_aload_n hx hb dX11_request_0 rfl (lv_at hl 0 rfl) ?_
  refine j7_read hx hb hown hK (C := RX11) (T := TX11) (N := 19) rfl hly_13_2 hlk_28 (hh_1.at 4 rfl) dX11_request_1 ?_
  refine lv_iconst (v := 0) hx hb dX11_request_4 (by decide) ?_
  refine j_ldcSw hx hb hown rstr281 dX11_request_5 ?_
  have hsz_2 := hh_1.2.2.2.2.2.1
  have htt_2 := hh_1.2.2.2.2.2.2.1
  refine W.room (fun hrc_2 hrs_2 => ?_)
  refine va_calli (A0 := jA base) (H0 := s.heap) (va_runV (As := [.int 0, .ref str281]) (rest := []) ⟨hx, hb, hml, hown, hts⟩ (uX4_memberJ l dC dI ca base B hB hAp hB6 hB140 hB141 hB142 hB143 hB144 hB145 hB146 G0 s.heap js 0 str281 6 (jChT "method") pv pu wk wi wz jnx jkf jks jun T9 fk fi fz fn fa fs fu) (cwV 2 hts (jgV (jWr_23 _ (List.mem_of_getElem? (i := 10) rfl)) (jWr_23 _ (List.mem_of_getElem? (i := 11) rfl)) (jWr_23 _ (List.mem_of_getElem? (i := 12) rfl)) (jWr_1 _ (List.mem_of_getElem? (i := 22) rfl)) (jWr_23 _ (List.mem_of_getElem? (i := 13) rfl))) rfl rfl rfl (by decide +kernel) ⟨by rw [← hR]; exact Nat.le_of_ble_eq_true rfl, by rw [← hR]; exact Nat.le_of_ble_eq_true rfl⟩) ⟨fun a U g mk q => by obtain ⟨q0, q1, q2, qK, q10, q11, q12, q13, q14, q15, q16, q17, q18, q19, q20, q21⟩ := q; exact ⟨q0, q1, q2, jG.calling g mk a qK, (q10.moved (Vm.Alike.refl U.vm)), q11, q12, q13, q14, q15, q16, q17, q18, q19, q20, q21⟩, hh_1.recv (C := RX4) (T := TX4) (N := 12) hB6 rfl (by decide) hg_js hK, fun U hU hW => ⟨rfl, hU, hh_1.2.1, hG.step hW hU hh_1.1, (hTstr281.moved hW.alike).kept hh_1.1.2.1, hg_js, hg_wk, hg_wi, hg_wz, hg_jnx, hg_jkf, hg_jks, hg_jun, (hh_1.2.2.1.sub (L1 := [(js, 6, 7, .int pv), (js, 6, 8, .int pu), (js, 6, 0, .ref wk), (js, 6, 1, .ref wi), (js, 6, 2, .ref wz), (js, 6, 3, .ref jnx), (js, 6, 4, .ref jkf), (js, 6, 5, .ref jks), (js, 6, 6, .ref jun)]) [5, 6, 7, 8, 9, 10, 11, 12, 13] rfl), (hh_1.2.2.2.2.2.2.2.1.sub (L1 := [(wk, 140, 1502, ca 1, fk), (wi, 141, 1502, ca 1, fi), (wz, 142, 1502, ca 1, fz), (jnx, 143, 1502, ca 1, fn), (jkf, 144, 1502, ca 1, fa), (jks, 145, 1502, ca 1, fs), (jun, 146, 3000, ca 1, fu)]) [0, 1, 2, 3, 4, 5, 6] rfl), ⟨(by first | omega | rfl | assumption | fail), (by first | omega | rfl | assumption | fail), (by first | omega | rfl | assumption | fail), (by first | omega | rfl | assumption | fail), (by first | assumption | fail | omega), (by first | omega | rfl | assumption | fail), (by first | assumption | fail | omega), (by first | assumption | fail | omega)⟩⟩⟩ rfl rfl hl.1 rfl (lv_room (Nat.le_of_ble_eq_true rfl)) dX11_request_8 ⟨by rw [hRc]; show _ + 0 ≤ _; omega, by rw [hRs]; show _ + 0 ≤ _; omega⟩) hh_1.1 (fun q _ h => h) (fun q h => h) (fun r_3 u_2 t_2 H_2 locs_2 ht_2 hvm_2 hr_3 hb_2 hz_2 hk_2 hS_2 => ?_)
  rw [ht_2] at hb_2
  obtain ⟨hb_2, hbF_2⟩ := hb_2
  obtain ⟨hb_21, hb_22, hb_23, hb_24, hb_25⟩ := hb_2
  have hh_2 : jSt (dC, dI) B base G0 G0 EX11_requestT s.heap 0 0 [(r0, 13, 4, .ref bo), (bo, 2, 1, .int pc), (bo, 2, 0, .ref pa), (r0, 13, 3, .ref ou), (r0, 13, 2, .ref js), (js, 6, 7, .int pv), (js, 6, 8, .int pu), (js, 6, 0, .ref wk), (js, 6, 1, .ref wi), (js, 6, 2, .ref wz), (js, 6, 3, .ref jnx), (js, 6, 4, .ref jkf), (js, 6, 5, .ref jks), (js, 6, 6, .ref jun), (r0, 13, 11, .int pz), (r0, 13, 7, .ref op), (op, 1, 2, .int sz), (r0, 13, 8, .ref wt_), (wt_, 1, 2, .int wn)] [(wk, 140, 1502, ca 1, fk), (wi, 141, 1502, ca 1, fi), (wz, 142, 1502, ca 1, fz), (jnx, 143, 1502, ca 1, fn), (jkf, 144, 1502, ca 1, fa), (jks, 145, 1502, ca 1, fs), (jun, 146, 3000, ca 1, fu)] [([(2, 0), (2, 1)], jOl (dC, dI) G0 2 [bo, ou] s.heap), (jFy, jYb dC dI G0), (jFs11, jSef dC dI G0), (jFl, jLs dC dI ca G0 3 none wl), (jFcd, jCD dC dI ca G0 none tq), (jFkd, jKD dC dI ca G0 none kq), (jFqd, jQD dC dI ca G0 none qq)] H_2 locs_2 := ((hh_1.call hb_21 hb_22 hb_23 hb_24 hS_2 rfl (L1 := [(r0, 13, 4, .ref bo), (bo, 2, 1, .int pc), (bo, 2, 0, .ref pa), (r0, 13, 3, .ref ou), (r0, 13, 2, .ref js), (js, 6, 7, .int pv), (js, 6, 8, .int pu), (js, 6, 0, .ref wk), (js, 6, 1, .ref wi), (js, 6, 2, .ref wz), (js, 6, 3, .ref jnx), (js, 6, 4, .ref jkf), (js, 6, 5, .ref jks), (js, 6, 6, .ref jun), (r0, 13, 11, .int pz), (r0, 13, 7, .ref op), (op, 1, 2, .int sz), (r0, 13, 8, .ref wt_), (wt_, 1, 2, .int wn)]) [0, 1, 2, 3, 4, 5, 6, 7, 8, 9, 10, 11, 12, 13, 14, 15, 16, 17, 18] rfl rfl (M1 := [(wk, 140, 1502, ca 1, fk), (wi, 141, 1502, ca 1, fi), (wz, 142, 1502, ca 1, fz), (jnx, 143, 1502, ca 1, fn), (jkf, 144, 1502, ca 1, fa), (jks, 145, 1502, ca 1, fs), (jun, 146, 3000, ca 1, fu)]) [0, 1, 2, 3, 4, 5, 6] rfl rfl (I1 := [([(2, 0), (2, 1)], jOl (dC, dI) G0 2 [bo, ou] s.heap), (jFy, jYb dC dI G0), (jFs11, jSef dC dI G0), (jFl, jLs dC dI ca G0 3 none wl), (jFcd, jCD dC dI ca G0 none tq), (jFkd, jKD dC dI ca G0 none kq), (jFqd, jQD dC dI ca G0 none qq)]) [0, 1, 2, 3, 4, 5, 6] rfl rfl).more hb_25)
  clear hh_1 ht_2 hvm_2 hz_2 hk_2 hS_2 hb_21 hb_22 hb_23 hb_24 hb_25
  obtain ⟨hr_3_0, hr_3_1, hr_3_2, hr_3_3⟩ := hr_3
  refine lv_istore_n (lv' := [(2, .int r_3), (0, .ref r0), (1, .ref r1)]) hx hb dX11_request_11 rfl hl (by decide) rfl (fun ls hl => ?_)
  have hm9 : r_3.toInt = jdMe T9 pv.toInt := by have h9 := hr_3_3; rw [hk0] at h9; exact h9
  refine lv_aload_n hx hb dX11_request_12 rfl (lv_at hl 1 rfl) ?_
  refine j7_read hx hb hown hK (C := RX11) (T := TX11) (N := 19) rfl hly_13_2 hlk_28 (hh_2.at 4 rfl) dX11_request_13 ?_
  refine lv_iload_n hx hb dX11_request_16 rfl (lv_at hl 0 rfl) ?_
  refine j_ldcSw hx hb hown rstr287 dX11_request_17 ?_
  try clear hsz_2 htt_2 hrc_2 hrs_2
  have hsz_4 := hh_2.2.2.2.2.2.1
  have htt_4 := hh_2.2.2.2.2.2.2.1
  refine W.room (fun hrc_4 hrs_4 => ?_)
  refine va_calli (A0 := jA base) (H0 := s.heap) (va_runV (As := [.int r_3, .ref str287]) (rest := []) ⟨hx, hb, hml, hown, hts⟩ (uX4_isTextJ l dC dI ca base B hB hAp hB6 hB140 hB141 hB142 hB146 G0 H_2 js r_3 str287 10 (jChT qtx865) pv pu wk wi wz jnx jkf jks jun T9 fk fi fz fn fa fs fu) (cwV 2 hts (jgV (jWr_27 _ (List.mem_of_getElem? (i := 1) rfl)) (jWr_27 _ (List.mem_of_getElem? (i := 2) rfl)) (jWr_27 _ (List.mem_of_getElem? (i := 3) rfl)) (jWr_1 _ (List.mem_of_getElem? (i := 22) rfl)) (jWr_27 _ (List.mem_of_getElem? (i := 4) rfl))) rfl rfl rfl (by decide +kernel) ⟨by rw [← hR]; exact Nat.le_of_ble_eq_true rfl, by rw [← hR]; exact Nat.le_of_ble_eq_true rfl⟩) ⟨fun a U g mk q => by obtain ⟨q0, q1, q2, qK, q10, q11, q12, q13, q14, q15, q16, q17, q18, q19, q20, q21⟩ := q; exact ⟨q0, q1, q2, jG.calling g mk a qK, (q10.moved (Vm.Alike.refl U.vm)), q11, q12, q13, q14, q15, q16, q17, q18, q19, q20, q21⟩, hh_2.recv (C := RX4) (T := TX4) (N := 12) hB6 rfl (by decide) hg_js hK, fun U hU hW => ⟨rfl, hU, hh_2.2.1, hG.step hW hU hh_2.1, (hTstr287.moved hW.alike).kept hh_2.1.2.1, hg_js, hg_wk, hg_wi, hg_wz, hg_jnx, hg_jkf, hg_jks, hg_jun, (hh_2.2.2.1.sub (L1 := [(js, 6, 7, .int pv), (js, 6, 8, .int pu), (js, 6, 0, .ref wk), (js, 6, 1, .ref wi), (js, 6, 2, .ref wz), (js, 6, 3, .ref jnx), (js, 6, 4, .ref jkf), (js, 6, 5, .ref jks), (js, 6, 6, .ref jun)]) [5, 6, 7, 8, 9, 10, 11, 12, 13] rfl), (hh_2.2.2.2.2.2.2.2.1.sub (L1 := [(wk, 140, 1502, ca 1, fk), (wi, 141, 1502, ca 1, fi), (wz, 142, 1502, ca 1, fz), (jnx, 143, 1502, ca 1, fn), (jkf, 144, 1502, ca 1, fa), (jks, 145, 1502, ca 1, fs), (jun, 146, 3000, ca 1, fu)]) [0, 1, 2, 3, 4, 5, 6] rfl), ⟨(by first | omega | rfl | assumption | fail), (by first | omega | rfl | assumption | fail), (by first | omega | rfl | assumption | fail), (by first | omega | rfl | assumption | fail), (by first | assumption | fail | omega), (by first | omega | rfl | assumption | fail), (by first | assumption | fail | omega)⟩⟩⟩ rfl rfl hl.1 rfl (lv_room (Nat.le_of_ble_eq_true rfl)) dX11_request_20 ⟨by rw [hRc]; show _ + 0 ≤ _; omega, by rw [hRs]; show _ + 0 ≤ _; omega⟩) hh_2.1 (fun q _ h => h) (fun q h => h) (fun r_5 u_4 t_4 H_4 locs_4 ht_4 hvm_4 hr_5 hb_4 hz_4 hk_4 hS_4 => ?_)
  rw [ht_4] at hb_4
  obtain ⟨hb_4, hbF_4⟩ := hb_4
  obtain ⟨hb_41, hb_42, hb_43, hb_44, hb_45⟩ := hb_4
  have hh_4 : jSt (dC, dI) B base G0 G0 EX11_requestT s.heap 0 0 [(r0, 13, 4, .ref bo), (bo, 2, 1, .int pc), (bo, 2, 0, .ref pa), (r0, 13, 3, .ref ou), (r0, 13, 2, .ref js), (js, 6, 7, .int pv), (js, 6, 8, .int pu), (js, 6, 0, .ref wk), (js, 6, 1, .ref wi), (js, 6, 2, .ref wz), (js, 6, 3, .ref jnx), (js, 6, 4, .ref jkf), (js, 6, 5, .ref jks), (js, 6, 6, .ref jun), (r0, 13, 11, .int pz), (r0, 13, 7, .ref op), (op, 1, 2, .int sz), (r0, 13, 8, .ref wt_), (wt_, 1, 2, .int wn)] [(wk, 140, 1502, ca 1, fk), (wi, 141, 1502, ca 1, fi), (wz, 142, 1502, ca 1, fz), (jnx, 143, 1502, ca 1, fn), (jkf, 144, 1502, ca 1, fa), (jks, 145, 1502, ca 1, fs), (jun, 146, 3000, ca 1, fu)] [([(2, 0), (2, 1)], jOl (dC, dI) G0 2 [bo, ou] s.heap), (jFy, jYb dC dI G0), (jFs11, jSef dC dI G0), (jFl, jLs dC dI ca G0 3 none wl), (jFcd, jCD dC dI ca G0 none tq), (jFkd, jKD dC dI ca G0 none kq), (jFqd, jQD dC dI ca G0 none qq)] H_4 locs_4 := ((hh_2.call hb_41 hb_42 hb_43 hb_44 hS_4 rfl (L1 := [(r0, 13, 4, .ref bo), (bo, 2, 1, .int pc), (bo, 2, 0, .ref pa), (r0, 13, 3, .ref ou), (r0, 13, 2, .ref js), (js, 6, 7, .int pv), (js, 6, 8, .int pu), (js, 6, 0, .ref wk), (js, 6, 1, .ref wi), (js, 6, 2, .ref wz), (js, 6, 3, .ref jnx), (js, 6, 4, .ref jkf), (js, 6, 5, .ref jks), (js, 6, 6, .ref jun), (r0, 13, 11, .int pz), (r0, 13, 7, .ref op), (op, 1, 2, .int sz), (r0, 13, 8, .ref wt_), (wt_, 1, 2, .int wn)]) [0, 1, 2, 3, 4, 5, 6, 7, 8, 9, 10, 11, 12, 13, 14, 15, 16, 17, 18] rfl rfl (M1 := [(wk, 140, 1502, ca 1, fk), (wi, 141, 1502, ca 1, fi), (wz, 142, 1502, ca 1, fz), (jnx, 143, 1502, ca 1, fn), (jkf, 144, 1502, ca 1, fa), (jks, 145, 1502, ca 1, fs), (jun, 146, 3000, ca 1, fu)]) [0, 1, 2, 3, 4, 5, 6] rfl rfl (I1 := [([(2, 0), (2, 1)], jOl (dC, dI) G0 2 [bo, ou] s.heap), (jFy, jYb dC dI G0), (jFs11, jSef dC dI G0), (jFl, jLs dC dI ca G0 3 none wl), (jFcd, jCD dC dI ca G0 none tq), (jFkd, jKD dC dI ca G0 none kq), (jFqd, jQD dC dI ca G0 none qq)]) [0, 1, 2, 3, 4, 5, 6] rfl rfl).more hb_45)
  clear hh_2 ht_4 hvm_4 hz_4 hk_4 hS_4 hb_41 hb_42 hb_43 hb_44 hb_45
  obtain ⟨hr_5b, hr_5p⟩ := hr_5
  obtain ⟨hr_5p_0, hr_5p_1⟩ := hr_5p
  have hr_5' := jb_01 hr_5b
  refine lv_istore_n (lv' := [(3, .int r_5), (2, .int r_3), (0, .ref r0), (1, .ref r1)]) hx hb dX11_request_23 rfl hl (by decide) rfl (fun ls hl => ?_)
  have hin9 : r_5.toInt = jqI T9 pv.toInt (jChT jdIn) 10 r_3.toInt := by have h9 := hr_5p_1; rw [show qtx865 = jdIn by decide +kernel] at h9; exact h9
  refine lv_aload_n hx hb dX11_request_24 rfl (lv_at hl 2 rfl) ?_
  refine j7_read hx hb hown hK (C := RX11) (T := TX11) (N := 19) rfl hly_13_11 hlk_77 (hh_4.at 14 rfl) dX11_request_25 ?_
  refine lv_if_ne (tgt := 65) hx hb dX11_request_28 (by decide) (fun c_6 => ?_) (fun c_6 => ?_)
  · skip
    have c_6' : pz.toInt ≠ 0 := jb_ne (rfl) ((by decide)) c_6
    refine lv_aload_n hx hb dX11_request_65 rfl (lv_at hl 2 rfl) ?_
    refine j7_read hx hb hown hK (C := RX11) (T := TX11) (N := 19) rfl hly_13_11 hlk_77 (hh_4.at 14 rfl) dX11_request_66 ?_
    refine lv_if_ne (tgt := 83) hx hb dX11_request_69 (by decide) (fun c_7 => ?_) (fun c_7 => ?_)
    · skip
      have c_7' : pz.toInt ≠ 0 := jb_ne (rfl) ((by decide)) c_7
      refine lv_aload_n hx hb dX11_request_83 rfl (lv_at hl 2 rfl) ?_
      refine j7_read hx hb hown hK (C := RX11) (T := TX11) (N := 19) rfl hly_13_11 hlk_77 (hh_4.at 14 rfl) dX11_request_84 ?_
      refine lv_iconst (v := 2) hx hb dX11_request_87 (by decide) ?_
      refine lv_icmp_eq (tgt := 95) hx hb dX11_request_88 (by decide) (fun c_8 => ?_) (fun c_8 => ?_)
      · skip
        have c_8' : pz.toInt = 2 := jb_eq (rfl) ((by decide)) c_8
        refine lv_aload_n hx hb dX11_request_95 rfl (lv_at hl 2 rfl) ?_
        refine lv_aload_n hx hb dX11_request_96 rfl (lv_at hl 3 rfl) ?_
        refine lv_sipush (v := (-32600)) hx hb dX11_request_97 (by decide) ?_
        try clear hsz_4 htt_4 hrc_4 hrs_4
        have hsz_9 := hh_4.2.2.2.2.2.1
        have htt_9 := hh_4.2.2.2.2.2.2.1
        refine W.room (fun hrc_9 hrs_9 => ?_)
        refine va_callv (A0 := jA base) (H0 := s.heap) (va_runV (As := [.ref r1, .int (-32600)]) (rest := []) ⟨hx, hb, hml, hown, hts⟩ (uX11_refuse l dC dI ca base B hB hAp hB2 hB4 hB10 hB13 hB17 hB196 hB199 G0 H_4 r0 r1 (-32600) bo pc pa n_pa ou LC LS) (cwV 2 hts (jgV (jWr_26 _ (List.mem_of_getElem? (i := 3) rfl)) (jWr_26 _ (List.mem_of_getElem? (i := 4) rfl)) (jWr_26 _ (List.mem_of_getElem? (i := 5) rfl)) (jWr_1 _ (List.mem_of_getElem? (i := 2) rfl)) (jWr_26 _ (List.mem_of_getElem? (i := 6) rfl))) rfl rfl rfl (by decide +kernel) ⟨by rw [← hR]; exact Nat.le_of_ble_eq_true rfl, by rw [← hR]; exact Nat.le_of_ble_eq_true rfl⟩) ⟨fun a U g mk q => by obtain ⟨q0, q1, q2, qK, q10, q11, q12, q13, q14, q15, q16, q17⟩ := q; exact ⟨q0, q1, q2, jG.calling g mk a qK, q10, q11, q12, q13, q14, q15, q16, q17⟩, hh_4.recv (C := RX11) (T := TX11) (N := 19) hB13 rfl (by decide) hg_r0 hK, fun U hU hW => ⟨rfl, hU, hh_4.2.1, hG.step hW hU hh_4.1, hg_r1, hg_r0, hg_bo, hg_pa, hg_ou, (hh_4.2.2.1.sub (L1 := [(r0, 13, 4, .ref bo), (bo, 2, 1, .int pc), (bo, 2, 0, .ref pa), (r0, 13, 3, .ref ou)]) [0, 1, 2, 3] rfl), (hh_4.2.2.2.2.2.2.2.2.sub (L1 := [(jFy, jYb dC dI G0)]) [1] rfl), (by omega), (by omega), ⟨(by first | omega | rfl | assumption | fail), (by first | omega | rfl | assumption | fail), (by first | omega | rfl | assumption | fail), (by first | omega | rfl | assumption | fail), (by first | assumption | fail | omega)⟩⟩⟩ rfl rfl hl.1 rfl (lv_room (Nat.le_of_ble_eq_true rfl)) dX11_request_100 ⟨by rw [hRc]; omega, by rw [hRs]; omega⟩) hh_4.1 (fun q _ h => h) (fun q h => h) (fun u_9 t_9 H_9 locs_9 ht_9 hvm_9 hr_10 hb_9 hz_9 hk_9 hS_9 => ?_)
        obtain ⟨qc_9, qa_9, m_qa_9, G_9⟩ := u_9
        rw [ht_9] at hb_9
        simp only at hb_9
        obtain ⟨⟨hb_91, hb_92, hb_93, hb_94, hb_95, hb_96⟩, hgq_9_0, hN_9, hbO_9, hbE_9⟩ := hb_9
        have hW_9 := hN_9
        have hh_9 : jSt (dC, dI) B base G0 G_9 EX11_requestT s.heap (0 + ((m_qa_9 - n_pa) / 16)) (0 + (2 * (m_qa_9 - n_pa))) [(bo, 2, 1, .int qc_9), (bo, 2, 0, .ref qa_9), (r0, 13, 4, .ref bo), (r0, 13, 3, .ref ou), (r0, 13, 2, .ref js), (js, 6, 7, .int pv), (js, 6, 8, .int pu), (js, 6, 0, .ref wk), (js, 6, 1, .ref wi), (js, 6, 2, .ref wz), (js, 6, 3, .ref jnx), (js, 6, 4, .ref jkf), (js, 6, 5, .ref jks), (js, 6, 6, .ref jun), (r0, 13, 11, .int pz), (r0, 13, 7, .ref op), (op, 1, 2, .int sz), (r0, 13, 8, .ref wt_), (wt_, 1, 2, .int wn)] [(wk, 140, 1502, ca 1, fk), (wi, 141, 1502, ca 1, fi), (wz, 142, 1502, ca 1, fz), (jnx, 143, 1502, ca 1, fn), (jkf, 144, 1502, ca 1, fa), (jks, 145, 1502, ca 1, fs), (jun, 146, 3000, ca 1, fu)] [(jFs11, jSef dC dI G0), (jFl, jLs dC dI ca G0 3 none wl), (jFcd, jCD dC dI ca G0 none tq), (jFkd, jKD dC dI ca G0 none kq), (jFqd, jQD dC dI ca G0 none qq)] H_9 locs_9 := (hh_4.callG hb_91 hb_92 hb_93 hb_94 hb_95 hS_9 rfl (L1 := [(r0, 13, 4, .ref bo), (r0, 13, 3, .ref ou), (r0, 13, 2, .ref js), (js, 6, 7, .int pv), (js, 6, 8, .int pu), (js, 6, 0, .ref wk), (js, 6, 1, .ref wi), (js, 6, 2, .ref wz), (js, 6, 3, .ref jnx), (js, 6, 4, .ref jkf), (js, 6, 5, .ref jks), (js, 6, 6, .ref jun), (r0, 13, 11, .int pz), (r0, 13, 7, .ref op), (op, 1, 2, .int sz), (r0, 13, 8, .ref wt_), (wt_, 1, 2, .int wn)]) [0, 3, 4, 5, 6, 7, 8, 9, 10, 11, 12, 13, 14, 15, 16, 17, 18] rfl rfl (M1 := [(wk, 140, 1502, ca 1, fk), (wi, 141, 1502, ca 1, fi), (wz, 142, 1502, ca 1, fz), (jnx, 143, 1502, ca 1, fn), (jkf, 144, 1502, ca 1, fa), (jks, 145, 1502, ca 1, fs), (jun, 146, 3000, ca 1, fu)]) [0, 1, 2, 3, 4, 5, 6] rfl rfl (I1 := [(jFs11, jSef dC dI G0), (jFl, jLs dC dI ca G0 3 none wl), (jFcd, jCD dC dI ca G0 none tq), (jFkd, jKD dC dI ca G0 none kq), (jFqd, jQD dC dI ca G0 none qq)]) [2, 3, 4, 5, 6] rfl rfl).more hb_96
        have hNn_9 : (jNk [0, 1, 2, 3, 4, 5, 6, 7, 8, 9, 10, 11, 12, 13, 14, 15, 16, 17, 175]) G0 G_9 := (jNk.rf).tr hN_9
        have hg_11 := hb_92 _ _ hg_r0
        have hg_12 := hb_92 _ _ hg_r1
        have hg_13 := hb_92 _ _ hg_bo
        have hg_14 := hb_92 _ _ hg_ou
        have hg_15 := hb_92 _ _ hg_js
        have hg_16 := hb_92 _ _ hg_wk
        have hg_17 := hb_92 _ _ hg_wi
        have hg_18 := hb_92 _ _ hg_wz
        have hg_19 := hb_92 _ _ hg_jnx
        have hg_20 := hb_92 _ _ hg_jkf
        have hg_21 := hb_92 _ _ hg_jks
        have hg_22 := hb_92 _ _ hg_jun
        have hg_23 := hb_92 _ _ hg_op
        have hg_24 := hb_92 _ _ hg_wt_
        have hd_25 := jSef.grow (hh_9.iv 0 rfl) hb_92 hN_9 (by decide)
        have hh_26 := hh_9.sub (L1 := [(bo, 2, 1, .int qc_9), (bo, 2, 0, .ref qa_9), (r0, 13, 4, .ref bo), (r0, 13, 3, .ref ou), (r0, 13, 2, .ref js), (js, 6, 7, .int pv), (js, 6, 8, .int pu), (js, 6, 0, .ref wk), (js, 6, 1, .ref wi), (js, 6, 2, .ref wz), (js, 6, 3, .ref jnx), (js, 6, 4, .ref jkf), (js, 6, 5, .ref jks), (js, 6, 6, .ref jun), (r0, 13, 11, .int pz), (r0, 13, 7, .ref op), (op, 1, 2, .int sz), (r0, 13, 8, .ref wt_), (wt_, 1, 2, .int wn)]) [0, 1, 2, 3, 4, 5, 6, 7, 8, 9, 10, 11, 12, 13, 14, 15, 16, 17, 18] rfl (M1 := [(wk, 140, 1502, ca 1, fk), (wi, 141, 1502, ca 1, fi), (wz, 142, 1502, ca 1, fz), (jnx, 143, 1502, ca 1, fn), (jkf, 144, 1502, ca 1, fa), (jks, 145, 1502, ca 1, fs), (jun, 146, 3000, ca 1, fu)]) [0, 1, 2, 3, 4, 5, 6] rfl (I1 := [(jFl, jLs dC dI ca G0 3 none wl), (jFcd, jCD dC dI ca G0 none tq), (jFkd, jKD dC dI ca G0 none kq), (jFqd, jQD dC dI ca G0 none qq)]) [1, 2, 3, 4] rfl
        clear hh_9
        have hh_27 := hh_26.addI (jSef.ie hd_25)
        clear hh_26
        have hd_28 := jLs.grow (hh_27.iv 1 rfl) hb_92 hN_9 (by decide)
        have hh_29 := hh_27.sub (L1 := [(bo, 2, 1, .int qc_9), (bo, 2, 0, .ref qa_9), (r0, 13, 4, .ref bo), (r0, 13, 3, .ref ou), (r0, 13, 2, .ref js), (js, 6, 7, .int pv), (js, 6, 8, .int pu), (js, 6, 0, .ref wk), (js, 6, 1, .ref wi), (js, 6, 2, .ref wz), (js, 6, 3, .ref jnx), (js, 6, 4, .ref jkf), (js, 6, 5, .ref jks), (js, 6, 6, .ref jun), (r0, 13, 11, .int pz), (r0, 13, 7, .ref op), (op, 1, 2, .int sz), (r0, 13, 8, .ref wt_), (wt_, 1, 2, .int wn)]) [0, 1, 2, 3, 4, 5, 6, 7, 8, 9, 10, 11, 12, 13, 14, 15, 16, 17, 18] rfl (M1 := [(wk, 140, 1502, ca 1, fk), (wi, 141, 1502, ca 1, fi), (wz, 142, 1502, ca 1, fz), (jnx, 143, 1502, ca 1, fn), (jkf, 144, 1502, ca 1, fa), (jks, 145, 1502, ca 1, fs), (jun, 146, 3000, ca 1, fu)]) [0, 1, 2, 3, 4, 5, 6] rfl (I1 := [(jFs11, jSef dC dI G_9), (jFcd, jCD dC dI ca G0 none tq), (jFkd, jKD dC dI ca G0 none kq), (jFqd, jQD dC dI ca G0 none qq)]) [0, 2, 3, 4] rfl
        clear hh_27
        have hh_30 := hh_29.addI (jLs.ie hd_28)
        clear hh_29
        have hd_31 := jCD.grow (hh_30.iv 2 rfl) hb_92 hN_9 (by decide)
        have hh_32 := hh_30.sub (L1 := [(bo, 2, 1, .int qc_9), (bo, 2, 0, .ref qa_9), (r0, 13, 4, .ref bo), (r0, 13, 3, .ref ou), (r0, 13, 2, .ref js), (js, 6, 7, .int pv), (js, 6, 8, .int pu), (js, 6, 0, .ref wk), (js, 6, 1, .ref wi), (js, 6, 2, .ref wz), (js, 6, 3, .ref jnx), (js, 6, 4, .ref jkf), (js, 6, 5, .ref jks), (js, 6, 6, .ref jun), (r0, 13, 11, .int pz), (r0, 13, 7, .ref op), (op, 1, 2, .int sz), (r0, 13, 8, .ref wt_), (wt_, 1, 2, .int wn)]) [0, 1, 2, 3, 4, 5, 6, 7, 8, 9, 10, 11, 12, 13, 14, 15, 16, 17, 18] rfl (M1 := [(wk, 140, 1502, ca 1, fk), (wi, 141, 1502, ca 1, fi), (wz, 142, 1502, ca 1, fz), (jnx, 143, 1502, ca 1, fn), (jkf, 144, 1502, ca 1, fa), (jks, 145, 1502, ca 1, fs), (jun, 146, 3000, ca 1, fu)]) [0, 1, 2, 3, 4, 5, 6] rfl (I1 := [(jFl, jLs dC dI ca G_9 3 none wl), (jFs11, jSef dC dI G_9), (jFkd, jKD dC dI ca G0 none kq), (jFqd, jQD dC dI ca G0 none qq)]) [0, 1, 3, 4] rfl
        clear hh_30
        have hh_33 := hh_32.addI (jCD.ie hd_31)
        clear hh_32
        have hd_34 := jKD.grow (ca := ca) (hh_33.iv 3 rfl) hb_92 hW_9 (by decide)
        have hh_35 := hh_33.sub (L1 := [(bo, 2, 1, .int qc_9), (bo, 2, 0, .ref qa_9), (r0, 13, 4, .ref bo), (r0, 13, 3, .ref ou), (r0, 13, 2, .ref js), (js, 6, 7, .int pv), (js, 6, 8, .int pu), (js, 6, 0, .ref wk), (js, 6, 1, .ref wi), (js, 6, 2, .ref wz), (js, 6, 3, .ref jnx), (js, 6, 4, .ref jkf), (js, 6, 5, .ref jks), (js, 6, 6, .ref jun), (r0, 13, 11, .int pz), (r0, 13, 7, .ref op), (op, 1, 2, .int sz), (r0, 13, 8, .ref wt_), (wt_, 1, 2, .int wn)]) [0, 1, 2, 3, 4, 5, 6, 7, 8, 9, 10, 11, 12, 13, 14, 15, 16, 17, 18] rfl (M1 := [(wk, 140, 1502, ca 1, fk), (wi, 141, 1502, ca 1, fi), (wz, 142, 1502, ca 1, fz), (jnx, 143, 1502, ca 1, fn), (jkf, 144, 1502, ca 1, fa), (jks, 145, 1502, ca 1, fs), (jun, 146, 3000, ca 1, fu)]) [0, 1, 2, 3, 4, 5, 6] rfl (I1 := [(jFcd, jCD dC dI ca G_9 none tq), (jFl, jLs dC dI ca G_9 3 none wl), (jFs11, jSef dC dI G_9), (jFqd, jQD dC dI ca G0 none qq)]) [0, 1, 2, 4] rfl
        clear hh_33
        have hh_36 := hh_35.addI (jKD.ie hd_34)
        clear hh_35
        have hd_37 := jQD.grow (ca := ca) (hh_36.iv 4 rfl) hb_92 hW_9 (by decide)
        have hh_38 := hh_36.sub (L1 := [(bo, 2, 1, .int qc_9), (bo, 2, 0, .ref qa_9), (r0, 13, 4, .ref bo), (r0, 13, 3, .ref ou), (r0, 13, 2, .ref js), (js, 6, 7, .int pv), (js, 6, 8, .int pu), (js, 6, 0, .ref wk), (js, 6, 1, .ref wi), (js, 6, 2, .ref wz), (js, 6, 3, .ref jnx), (js, 6, 4, .ref jkf), (js, 6, 5, .ref jks), (js, 6, 6, .ref jun), (r0, 13, 11, .int pz), (r0, 13, 7, .ref op), (op, 1, 2, .int sz), (r0, 13, 8, .ref wt_), (wt_, 1, 2, .int wn)]) [0, 1, 2, 3, 4, 5, 6, 7, 8, 9, 10, 11, 12, 13, 14, 15, 16, 17, 18] rfl (M1 := [(wk, 140, 1502, ca 1, fk), (wi, 141, 1502, ca 1, fi), (wz, 142, 1502, ca 1, fz), (jnx, 143, 1502, ca 1, fn), (jkf, 144, 1502, ca 1, fa), (jks, 145, 1502, ca 1, fs), (jun, 146, 3000, ca 1, fu)]) [0, 1, 2, 3, 4, 5, 6] rfl (I1 := [(jFkd, jKD dC dI ca G_9 none kq), (jFcd, jCD dC dI ca G_9 none tq), (jFl, jLs dC dI ca G_9 3 none wl), (jFs11, jSef dC dI G_9)]) [0, 1, 2, 3] rfl
        clear hh_36
        have hh_39 := hh_38.addI (jQD.ie hd_37)
        clear hh_38
        have hh_40 := hh_39.addIs hbE_9
        have hd_41 := jOl.trL (hh_4.iv 0 rfl) hh_4.2.2.2.2.1 hbO_9 (by simp)
        have hh_42 := hh_40.addI (jOl.ie (dC := dC) (dI := dI) (G0 := G0) (k := 2) (rs := [bo, ou]) (H0 := s.heap) (F := [(2, 0), (2, 1)]) (C := RX0) (T := TX0) (N := 2) rfl (by decide) hh_40.2.2.2.2.1 (hd_41))
        clear hh_40
        try simp only at hr_10
        obtain ⟨hr_10_0, hr_10_1, hr_10_2, hr_10_3, hr_10_4⟩ := hr_10
        have hh_43 := hh_42.wk (zc1 := (m_qa_9 - n_pa) / 16 + 2) (zs1 := 2 * (m_qa_9 - n_pa) + 40 + pu.toInt.toNat) (by omega) (by omega)
        clear hh_42
        try clear hsz_9 htt_9 hrc_9 hrs_9
        try clear hb_94 hb_95
        refine lv_goto (tgt := 212) hx hb dX11_request_103 (by decide) ?_
        have hqz9 : (pz.toInt : Int) = jdRq T9 pv.toInt pz.toInt := by have h9 : jdRq T9 pv.toInt pz.toInt = _ := jdRq.c hm9 (by omega) (Or.inl (by omega)); omega
        try clear hsz_9 htt_9 hrc_9 hrs_9
        have hsz_44 := hh_43.2.2.2.2.2.1
        have htt_44 := hh_43.2.2.2.2.2.2.1
        refine W.room (fun hrc_44 hrs_44 => ?_)
        refine W.widen (k := LC - s.heap.size) (n := LS - jTot s.heap) (by omega) (by omega) ?_
        rw [hQ]
        exact W.vret hx hb hr (fun t ht hW => ⟨⟨(qc_9, pz, qa_9, m_qa_9, wl, qq, G_9), rfl, by skip; (try dsimp only); refine ⟨(by first | (with_reducible assumption) | omega | exact hqz9), (by first | (with_reducible assumption) | omega | exact hqz9), (by first | (with_reducible assumption) | omega | exact hqz9), (by first | (with_reducible assumption) | omega | exact hqz9), (by first | (with_reducible assumption) | omega | exact hqz9), (by first | (with_reducible assumption) | omega | exact hqz9), ?_⟩; rw [jwRq.z1 hm9 (by omega)]; exact hCz9, ⟨hh_43.ra (by first | (simp only; omega) | omega) (by first | (simp only; omega) | omega) (M1 := [(bo, 2, 1, .int qc_9), (r0, 13, 11, .int pz), (bo, 2, 0, .ref qa_9)]) [0, 14, 1] rfl ht, hgq_9_0, hNn_9, by rw [ht]; exact hh_43.iv 0 rfl, by rw [ht]; exact hh_43.2.2.2.2.2.2.2.2.sub (L1 := [(jFy, jYb dC dI G_9), (jFs11, jSef dC dI G_9), (jFl, jLs dC dI ca G_9 3 none wl), (jFcd, jCD dC dI ca G_9 none tq), (jFkd, jKD dC dI ca G_9 none kq), (jFqd, jQD dC dI ca G_9 none qq)]) [1, 6, 5, 4, 3, 2] rfl⟩⟩, by rw [ht]; try exact hh_43.1.1, fun q h9 hq => by rw [ht]; try exact hh_43.1.2.1 q h9 hq⟩) hh_43.1.2.2 dX11_request_212
      · skip
        have c_8' : pz.toInt ≠ 2 := jb_eq_n (rfl) ((by decide)) c_8
        refine lv_iload_n hx hb dX11_request_91 rfl (lv_at hl 0 rfl) ?_
        refine lv_if_eq (tgt := 106) hx hb dX11_request_92 (by decide) (fun c_45 => ?_) (fun c_45 => ?_)
        · skip
          have c_45' : r_5.toInt = 0 := jb_eq (rfl) ((by decide)) c_45
          first | (have hr_3_2q := hr_3_2.resolve_left (by omega); clear hr_3_2) | (have hr_3_2q := hr_3_2.resolve_right (by omega); clear hr_3_2) | skip
          first | (have hr_5p_0q := hr_5p_0.resolve_left (by omega); clear hr_5p_0) | (have hr_5p_0q := hr_5p_0.resolve_right (by omega); clear hr_5p_0) | skip
          refine lv_aload_n hx hb dX11_request_106 rfl (lv_at hl 2 rfl) ?_
          refine j7_read hx hb hown hK (C := RX11) (T := TX11) (N := 19) rfl hly_13_2 hlk_28 (hh_4.at 4 rfl) dX11_request_107 ?_
          refine lv_iload_n hx hb dX11_request_110 rfl (lv_at hl 1 rfl) ?_
          refine j_ldcSw hx hb hown rstr303 dX11_request_111 ?_
          try clear hsz_4 htt_4 hrc_4 hrs_4
          have hsz_46 := hh_4.2.2.2.2.2.1
          have htt_46 := hh_4.2.2.2.2.2.2.1
          refine W.room (fun hrc_46 hrs_46 => ?_)
          refine va_calli (A0 := jA base) (H0 := s.heap) (va_runV (As := [.int r_3, .ref str303]) (rest := []) ⟨hx, hb, hml, hown, hts⟩ (uX4_isTextJ l dC dI ca base B hB hAp hB6 hB140 hB141 hB142 hB146 G0 H_4 js r_3 str303 8 (jChT "shutdown") pv pu wk wi wz jnx jkf jks jun T9 fk fi fz fn fa fs fu) (cwV 2 hts (jgV (jWr_27 _ (List.mem_of_getElem? (i := 1) rfl)) (jWr_27 _ (List.mem_of_getElem? (i := 2) rfl)) (jWr_27 _ (List.mem_of_getElem? (i := 3) rfl)) (jWr_1 _ (List.mem_of_getElem? (i := 22) rfl)) (jWr_27 _ (List.mem_of_getElem? (i := 4) rfl))) rfl rfl rfl (by decide +kernel) ⟨by rw [← hR]; exact Nat.le_of_ble_eq_true rfl, by rw [← hR]; exact Nat.le_of_ble_eq_true rfl⟩) ⟨fun a U g mk q => by obtain ⟨q0, q1, q2, qK, q10, q11, q12, q13, q14, q15, q16, q17, q18, q19, q20, q21⟩ := q; exact ⟨q0, q1, q2, jG.calling g mk a qK, (q10.moved (Vm.Alike.refl U.vm)), q11, q12, q13, q14, q15, q16, q17, q18, q19, q20, q21⟩, hh_4.recv (C := RX4) (T := TX4) (N := 12) hB6 rfl (by decide) hg_js hK, fun U hU hW => ⟨rfl, hU, hh_4.2.1, hG.step hW hU hh_4.1, (hTstr303.moved hW.alike).kept hh_4.1.2.1, hg_js, hg_wk, hg_wi, hg_wz, hg_jnx, hg_jkf, hg_jks, hg_jun, (hh_4.2.2.1.sub (L1 := [(js, 6, 7, .int pv), (js, 6, 8, .int pu), (js, 6, 0, .ref wk), (js, 6, 1, .ref wi), (js, 6, 2, .ref wz), (js, 6, 3, .ref jnx), (js, 6, 4, .ref jkf), (js, 6, 5, .ref jks), (js, 6, 6, .ref jun)]) [5, 6, 7, 8, 9, 10, 11, 12, 13] rfl), (hh_4.2.2.2.2.2.2.2.1.sub (L1 := [(wk, 140, 1502, ca 1, fk), (wi, 141, 1502, ca 1, fi), (wz, 142, 1502, ca 1, fz), (jnx, 143, 1502, ca 1, fn), (jkf, 144, 1502, ca 1, fa), (jks, 145, 1502, ca 1, fs), (jun, 146, 3000, ca 1, fu)]) [0, 1, 2, 3, 4, 5, 6] rfl), ⟨(by first | omega | rfl | assumption | fail), (by first | omega | rfl | assumption | fail), (by first | omega | rfl | assumption | fail), (by first | omega | rfl | assumption | fail), (by first | assumption | fail | omega), (by first | omega | rfl | assumption | fail), (by first | assumption | fail | omega)⟩⟩⟩ rfl rfl hl.1 rfl (lv_room (Nat.le_of_ble_eq_true rfl)) dX11_request_114 ⟨by rw [hRc]; show _ + 0 ≤ _; omega, by rw [hRs]; show _ + 0 ≤ _; omega⟩) hh_4.1 (fun q _ h => h) (fun q h => h) (fun r_47 u_46 t_46 H_46 locs_46 ht_46 hvm_46 hr_47 hb_46 hz_46 hk_46 hS_46 => ?_)
          rw [ht_46] at hb_46
          obtain ⟨hb_46, hbF_46⟩ := hb_46
          obtain ⟨hb_461, hb_462, hb_463, hb_464, hb_465⟩ := hb_46
          have hh_46 : jSt (dC, dI) B base G0 G0 EX11_requestT s.heap 0 0 [(r0, 13, 4, .ref bo), (bo, 2, 1, .int pc), (bo, 2, 0, .ref pa), (r0, 13, 3, .ref ou), (r0, 13, 2, .ref js), (js, 6, 7, .int pv), (js, 6, 8, .int pu), (js, 6, 0, .ref wk), (js, 6, 1, .ref wi), (js, 6, 2, .ref wz), (js, 6, 3, .ref jnx), (js, 6, 4, .ref jkf), (js, 6, 5, .ref jks), (js, 6, 6, .ref jun), (r0, 13, 11, .int pz), (r0, 13, 7, .ref op), (op, 1, 2, .int sz), (r0, 13, 8, .ref wt_), (wt_, 1, 2, .int wn)] [(wk, 140, 1502, ca 1, fk), (wi, 141, 1502, ca 1, fi), (wz, 142, 1502, ca 1, fz), (jnx, 143, 1502, ca 1, fn), (jkf, 144, 1502, ca 1, fa), (jks, 145, 1502, ca 1, fs), (jun, 146, 3000, ca 1, fu)] [([(2, 0), (2, 1)], jOl (dC, dI) G0 2 [bo, ou] s.heap), (jFy, jYb dC dI G0), (jFs11, jSef dC dI G0), (jFl, jLs dC dI ca G0 3 none wl), (jFcd, jCD dC dI ca G0 none tq), (jFkd, jKD dC dI ca G0 none kq), (jFqd, jQD dC dI ca G0 none qq)] H_46 locs_46 := ((hh_4.call hb_461 hb_462 hb_463 hb_464 hS_46 rfl (L1 := [(r0, 13, 4, .ref bo), (bo, 2, 1, .int pc), (bo, 2, 0, .ref pa), (r0, 13, 3, .ref ou), (r0, 13, 2, .ref js), (js, 6, 7, .int pv), (js, 6, 8, .int pu), (js, 6, 0, .ref wk), (js, 6, 1, .ref wi), (js, 6, 2, .ref wz), (js, 6, 3, .ref jnx), (js, 6, 4, .ref jkf), (js, 6, 5, .ref jks), (js, 6, 6, .ref jun), (r0, 13, 11, .int pz), (r0, 13, 7, .ref op), (op, 1, 2, .int sz), (r0, 13, 8, .ref wt_), (wt_, 1, 2, .int wn)]) [0, 1, 2, 3, 4, 5, 6, 7, 8, 9, 10, 11, 12, 13, 14, 15, 16, 17, 18] rfl rfl (M1 := [(wk, 140, 1502, ca 1, fk), (wi, 141, 1502, ca 1, fi), (wz, 142, 1502, ca 1, fz), (jnx, 143, 1502, ca 1, fn), (jkf, 144, 1502, ca 1, fa), (jks, 145, 1502, ca 1, fs), (jun, 146, 3000, ca 1, fu)]) [0, 1, 2, 3, 4, 5, 6] rfl rfl (I1 := [([(2, 0), (2, 1)], jOl (dC, dI) G0 2 [bo, ou] s.heap), (jFy, jYb dC dI G0), (jFs11, jSef dC dI G0), (jFl, jLs dC dI ca G0 3 none wl), (jFcd, jCD dC dI ca G0 none tq), (jFkd, jKD dC dI ca G0 none kq), (jFqd, jQD dC dI ca G0 none qq)]) [0, 1, 2, 3, 4, 5, 6] rfl rfl).more hb_465)
          clear hh_4 ht_46 hvm_46 hz_46 hk_46 hS_46 hb_461 hb_462 hb_463 hb_464 hb_465
          obtain ⟨hr_47b, hr_47p⟩ := hr_47
          obtain ⟨hr_47p_0, hr_47p_1⟩ := hr_47p
          have hr_47' := jb_01 hr_47b
          refine lv_if_eq (tgt := 150) hx hb dX11_request_117 (by decide) (fun c_48 => ?_) (fun c_48 => ?_)
          · skip
            have c_48' : r_47.toInt = 0 := jb_eq (rfl) ((by decide)) c_48
            first | (have hr_3_2q := hr_3_2.resolve_left (by omega); clear hr_3_2) | (have hr_3_2q := hr_3_2.resolve_right (by omega); clear hr_3_2) | skip
            first | (have hr_5p_0q := hr_5p_0.resolve_left (by omega); clear hr_5p_0) | (have hr_5p_0q := hr_5p_0.resolve_right (by omega); clear hr_5p_0) | skip
            first | (have hr_47p_0q := hr_47p_0.resolve_left (by omega); clear hr_47p_0) | (have hr_47p_0q := hr_47p_0.resolve_right (by omega); clear hr_47p_0) | try clear hr_47p_0
            refine lv_aload_n hx hb dX11_request_150 rfl (lv_at hl 2 rfl) ?_
            refine j7_read hx hb hown hK (C := RX11) (T := TX11) (N := 19) rfl hly_13_2 hlk_28 (hh_46.at 4 rfl) dX11_request_151 ?_
            refine lv_iload_n hx hb dX11_request_154 rfl (lv_at hl 1 rfl) ?_
            refine j_ldcSw hx hb hown rstr307 dX11_request_155 ?_
            try clear hsz_46 htt_46 hrc_46 hrs_46
            have hsz_49 := hh_46.2.2.2.2.2.1
            have htt_49 := hh_46.2.2.2.2.2.2.1
            refine W.room (fun hrc_49 hrs_49 => ?_)
            refine va_calli (A0 := jA base) (H0 := s.heap) (va_runV (As := [.int r_3, .ref str307]) (rest := []) ⟨hx, hb, hml, hown, hts⟩ (uX4_isTextJ l dC dI ca base B hB hAp hB6 hB140 hB141 hB142 hB146 G0 H_46 js r_3 str307 11 (jChT "proof/goals") pv pu wk wi wz jnx jkf jks jun T9 fk fi fz fn fa fs fu) (cwV 2 hts (jgV (jWr_27 _ (List.mem_of_getElem? (i := 1) rfl)) (jWr_27 _ (List.mem_of_getElem? (i := 2) rfl)) (jWr_27 _ (List.mem_of_getElem? (i := 3) rfl)) (jWr_1 _ (List.mem_of_getElem? (i := 22) rfl)) (jWr_27 _ (List.mem_of_getElem? (i := 4) rfl))) rfl rfl rfl (by decide +kernel) ⟨by rw [← hR]; exact Nat.le_of_ble_eq_true rfl, by rw [← hR]; exact Nat.le_of_ble_eq_true rfl⟩) ⟨fun a U g mk q => by obtain ⟨q0, q1, q2, qK, q10, q11, q12, q13, q14, q15, q16, q17, q18, q19, q20, q21⟩ := q; exact ⟨q0, q1, q2, jG.calling g mk a qK, (q10.moved (Vm.Alike.refl U.vm)), q11, q12, q13, q14, q15, q16, q17, q18, q19, q20, q21⟩, hh_46.recv (C := RX4) (T := TX4) (N := 12) hB6 rfl (by decide) hg_js hK, fun U hU hW => ⟨rfl, hU, hh_46.2.1, hG.step hW hU hh_46.1, (hTstr307.moved hW.alike).kept hh_46.1.2.1, hg_js, hg_wk, hg_wi, hg_wz, hg_jnx, hg_jkf, hg_jks, hg_jun, (hh_46.2.2.1.sub (L1 := [(js, 6, 7, .int pv), (js, 6, 8, .int pu), (js, 6, 0, .ref wk), (js, 6, 1, .ref wi), (js, 6, 2, .ref wz), (js, 6, 3, .ref jnx), (js, 6, 4, .ref jkf), (js, 6, 5, .ref jks), (js, 6, 6, .ref jun)]) [5, 6, 7, 8, 9, 10, 11, 12, 13] rfl), (hh_46.2.2.2.2.2.2.2.1.sub (L1 := [(wk, 140, 1502, ca 1, fk), (wi, 141, 1502, ca 1, fi), (wz, 142, 1502, ca 1, fz), (jnx, 143, 1502, ca 1, fn), (jkf, 144, 1502, ca 1, fa), (jks, 145, 1502, ca 1, fs), (jun, 146, 3000, ca 1, fu)]) [0, 1, 2, 3, 4, 5, 6] rfl), ⟨(by first | omega | rfl | assumption | fail), (by first | omega | rfl | assumption | fail), (by first | omega | rfl | assumption | fail), (by first | omega | rfl | assumption | fail), (by first | assumption | fail | omega), (by first | omega | rfl | assumption | fail), (by first | assumption | fail | omega)⟩⟩⟩ rfl rfl hl.1 rfl (lv_room (Nat.le_of_ble_eq_true rfl)) dX11_request_158 ⟨by rw [hRc]; show _ + 0 ≤ _; omega, by rw [hRs]; show _ + 0 ≤ _; omega⟩) hh_46.1 (fun q _ h => h) (fun q h => h) (fun r_50 u_49 t_49 H_49 locs_49 ht_49 hvm_49 hr_50 hb_49 hz_49 hk_49 hS_49 => ?_)
            rw [ht_49] at hb_49
            obtain ⟨hb_49, hbF_49⟩ := hb_49
            obtain ⟨hb_491, hb_492, hb_493, hb_494, hb_495⟩ := hb_49
            have hh_49 : jSt (dC, dI) B base G0 G0 EX11_requestT s.heap 0 0 [(r0, 13, 4, .ref bo), (bo, 2, 1, .int pc), (bo, 2, 0, .ref pa), (r0, 13, 3, .ref ou), (r0, 13, 2, .ref js), (js, 6, 7, .int pv), (js, 6, 8, .int pu), (js, 6, 0, .ref wk), (js, 6, 1, .ref wi), (js, 6, 2, .ref wz), (js, 6, 3, .ref jnx), (js, 6, 4, .ref jkf), (js, 6, 5, .ref jks), (js, 6, 6, .ref jun), (r0, 13, 11, .int pz), (r0, 13, 7, .ref op), (op, 1, 2, .int sz), (r0, 13, 8, .ref wt_), (wt_, 1, 2, .int wn)] [(wk, 140, 1502, ca 1, fk), (wi, 141, 1502, ca 1, fi), (wz, 142, 1502, ca 1, fz), (jnx, 143, 1502, ca 1, fn), (jkf, 144, 1502, ca 1, fa), (jks, 145, 1502, ca 1, fs), (jun, 146, 3000, ca 1, fu)] [([(2, 0), (2, 1)], jOl (dC, dI) G0 2 [bo, ou] s.heap), (jFy, jYb dC dI G0), (jFs11, jSef dC dI G0), (jFl, jLs dC dI ca G0 3 none wl), (jFcd, jCD dC dI ca G0 none tq), (jFkd, jKD dC dI ca G0 none kq), (jFqd, jQD dC dI ca G0 none qq)] H_49 locs_49 := ((hh_46.call hb_491 hb_492 hb_493 hb_494 hS_49 rfl (L1 := [(r0, 13, 4, .ref bo), (bo, 2, 1, .int pc), (bo, 2, 0, .ref pa), (r0, 13, 3, .ref ou), (r0, 13, 2, .ref js), (js, 6, 7, .int pv), (js, 6, 8, .int pu), (js, 6, 0, .ref wk), (js, 6, 1, .ref wi), (js, 6, 2, .ref wz), (js, 6, 3, .ref jnx), (js, 6, 4, .ref jkf), (js, 6, 5, .ref jks), (js, 6, 6, .ref jun), (r0, 13, 11, .int pz), (r0, 13, 7, .ref op), (op, 1, 2, .int sz), (r0, 13, 8, .ref wt_), (wt_, 1, 2, .int wn)]) [0, 1, 2, 3, 4, 5, 6, 7, 8, 9, 10, 11, 12, 13, 14, 15, 16, 17, 18] rfl rfl (M1 := [(wk, 140, 1502, ca 1, fk), (wi, 141, 1502, ca 1, fi), (wz, 142, 1502, ca 1, fz), (jnx, 143, 1502, ca 1, fn), (jkf, 144, 1502, ca 1, fa), (jks, 145, 1502, ca 1, fs), (jun, 146, 3000, ca 1, fu)]) [0, 1, 2, 3, 4, 5, 6] rfl rfl (I1 := [([(2, 0), (2, 1)], jOl (dC, dI) G0 2 [bo, ou] s.heap), (jFy, jYb dC dI G0), (jFs11, jSef dC dI G0), (jFl, jLs dC dI ca G0 3 none wl), (jFcd, jCD dC dI ca G0 none tq), (jFkd, jKD dC dI ca G0 none kq), (jFqd, jQD dC dI ca G0 none qq)]) [0, 1, 2, 3, 4, 5, 6] rfl rfl).more hb_495)
            clear hh_46 ht_49 hvm_49 hz_49 hk_49 hS_49 hb_491 hb_492 hb_493 hb_494 hb_495
            obtain ⟨hr_50b, hr_50p⟩ := hr_50
            obtain ⟨hr_50p_0, hr_50p_1⟩ := hr_50p
            have hr_50' := jb_01 hr_50b
            refine lv_if_eq (tgt := 177) hx hb dX11_request_161 (by decide) (fun c_51 => ?_) (fun c_51 => ?_)
            · skip
              have c_51' : r_50.toInt = 0 := jb_eq (rfl) ((by decide)) c_51
              first | (have hr_3_2q := hr_3_2.resolve_left (by omega); clear hr_3_2) | (have hr_3_2q := hr_3_2.resolve_right (by omega); clear hr_3_2) | skip
              first | (have hr_5p_0q := hr_5p_0.resolve_left (by omega); clear hr_5p_0) | (have hr_5p_0q := hr_5p_0.resolve_right (by omega); clear hr_5p_0) | skip
              first | (have hr_50p_0q := hr_50p_0.resolve_left (by omega); clear hr_50p_0) | (have hr_50p_0q := hr_50p_0.resolve_right (by omega); clear hr_50p_0) | try clear hr_50p_0
              refine lv_aload_n hx hb dX11_request_177 rfl (lv_at hl 2 rfl) ?_
              refine j7_read hx hb hown hK (C := RX11) (T := TX11) (N := 19) rfl hly_13_2 hlk_28 (hh_49.at 4 rfl) dX11_request_178 ?_
              refine lv_iload_n hx hb dX11_request_181 rfl (lv_at hl 1 rfl) ?_
              refine j_ldcSw hx hb hown rstr317 dX11_request_182 ?_
              try clear hsz_49 htt_49 hrc_49 hrs_49
              have hsz_52 := hh_49.2.2.2.2.2.1
              have htt_52 := hh_49.2.2.2.2.2.2.1
              refine W.room (fun hrc_52 hrs_52 => ?_)
              refine va_calli (A0 := jA base) (H0 := s.heap) (va_runV (As := [.int r_3, .ref str317]) (rest := []) ⟨hx, hb, hml, hown, hts⟩ (uX4_isTextJ l dC dI ca base B hB hAp hB6 hB140 hB141 hB142 hB146 G0 H_49 js r_3 str317 15 (jChT "proof/statement") pv pu wk wi wz jnx jkf jks jun T9 fk fi fz fn fa fs fu) (cwV 2 hts (jgV (jWr_27 _ (List.mem_of_getElem? (i := 1) rfl)) (jWr_27 _ (List.mem_of_getElem? (i := 2) rfl)) (jWr_27 _ (List.mem_of_getElem? (i := 3) rfl)) (jWr_1 _ (List.mem_of_getElem? (i := 22) rfl)) (jWr_27 _ (List.mem_of_getElem? (i := 4) rfl))) rfl rfl rfl (by decide +kernel) ⟨by rw [← hR]; exact Nat.le_of_ble_eq_true rfl, by rw [← hR]; exact Nat.le_of_ble_eq_true rfl⟩) ⟨fun a U g mk q => by obtain ⟨q0, q1, q2, qK, q10, q11, q12, q13, q14, q15, q16, q17, q18, q19, q20, q21⟩ := q; exact ⟨q0, q1, q2, jG.calling g mk a qK, (q10.moved (Vm.Alike.refl U.vm)), q11, q12, q13, q14, q15, q16, q17, q18, q19, q20, q21⟩, hh_49.recv (C := RX4) (T := TX4) (N := 12) hB6 rfl (by decide) hg_js hK, fun U hU hW => ⟨rfl, hU, hh_49.2.1, hG.step hW hU hh_49.1, (hTstr317.moved hW.alike).kept hh_49.1.2.1, hg_js, hg_wk, hg_wi, hg_wz, hg_jnx, hg_jkf, hg_jks, hg_jun, (hh_49.2.2.1.sub (L1 := [(js, 6, 7, .int pv), (js, 6, 8, .int pu), (js, 6, 0, .ref wk), (js, 6, 1, .ref wi), (js, 6, 2, .ref wz), (js, 6, 3, .ref jnx), (js, 6, 4, .ref jkf), (js, 6, 5, .ref jks), (js, 6, 6, .ref jun)]) [5, 6, 7, 8, 9, 10, 11, 12, 13] rfl), (hh_49.2.2.2.2.2.2.2.1.sub (L1 := [(wk, 140, 1502, ca 1, fk), (wi, 141, 1502, ca 1, fi), (wz, 142, 1502, ca 1, fz), (jnx, 143, 1502, ca 1, fn), (jkf, 144, 1502, ca 1, fa), (jks, 145, 1502, ca 1, fs), (jun, 146, 3000, ca 1, fu)]) [0, 1, 2, 3, 4, 5, 6] rfl), ⟨(by first | omega | rfl | assumption | fail), (by first | omega | rfl | assumption | fail), (by first | omega | rfl | assumption | fail), (by first | omega | rfl | assumption | fail), (by first | assumption | fail | omega), (by first | omega | rfl | assumption | fail), (by first | assumption | fail | omega)⟩⟩⟩ rfl rfl hl.1 rfl (lv_room (Nat.le_of_ble_eq_true rfl)) dX11_request_185 ⟨by rw [hRc]; show _ + 0 ≤ _; omega, by rw [hRs]; show _ + 0 ≤ _; omega⟩) hh_49.1 (fun q _ h => h) (fun q h => h) (fun r_53 u_52 t_52 H_52 locs_52 ht_52 hvm_52 hr_53 hb_52 hz_52 hk_52 hS_52 => ?_)
              rw [ht_52] at hb_52
              obtain ⟨hb_52, hbF_52⟩ := hb_52
              obtain ⟨hb_521, hb_522, hb_523, hb_524, hb_525⟩ := hb_52
              have hh_52 : jSt (dC, dI) B base G0 G0 EX11_requestT s.heap 0 0 [(r0, 13, 4, .ref bo), (bo, 2, 1, .int pc), (bo, 2, 0, .ref pa), (r0, 13, 3, .ref ou), (r0, 13, 2, .ref js), (js, 6, 7, .int pv), (js, 6, 8, .int pu), (js, 6, 0, .ref wk), (js, 6, 1, .ref wi), (js, 6, 2, .ref wz), (js, 6, 3, .ref jnx), (js, 6, 4, .ref jkf), (js, 6, 5, .ref jks), (js, 6, 6, .ref jun), (r0, 13, 11, .int pz), (r0, 13, 7, .ref op), (op, 1, 2, .int sz), (r0, 13, 8, .ref wt_), (wt_, 1, 2, .int wn)] [(wk, 140, 1502, ca 1, fk), (wi, 141, 1502, ca 1, fi), (wz, 142, 1502, ca 1, fz), (jnx, 143, 1502, ca 1, fn), (jkf, 144, 1502, ca 1, fa), (jks, 145, 1502, ca 1, fs), (jun, 146, 3000, ca 1, fu)] [([(2, 0), (2, 1)], jOl (dC, dI) G0 2 [bo, ou] s.heap), (jFy, jYb dC dI G0), (jFs11, jSef dC dI G0), (jFl, jLs dC dI ca G0 3 none wl), (jFcd, jCD dC dI ca G0 none tq), (jFkd, jKD dC dI ca G0 none kq), (jFqd, jQD dC dI ca G0 none qq)] H_52 locs_52 := ((hh_49.call hb_521 hb_522 hb_523 hb_524 hS_52 rfl (L1 := [(r0, 13, 4, .ref bo), (bo, 2, 1, .int pc), (bo, 2, 0, .ref pa), (r0, 13, 3, .ref ou), (r0, 13, 2, .ref js), (js, 6, 7, .int pv), (js, 6, 8, .int pu), (js, 6, 0, .ref wk), (js, 6, 1, .ref wi), (js, 6, 2, .ref wz), (js, 6, 3, .ref jnx), (js, 6, 4, .ref jkf), (js, 6, 5, .ref jks), (js, 6, 6, .ref jun), (r0, 13, 11, .int pz), (r0, 13, 7, .ref op), (op, 1, 2, .int sz), (r0, 13, 8, .ref wt_), (wt_, 1, 2, .int wn)]) [0, 1, 2, 3, 4, 5, 6, 7, 8, 9, 10, 11, 12, 13, 14, 15, 16, 17, 18] rfl rfl (M1 := [(wk, 140, 1502, ca 1, fk), (wi, 141, 1502, ca 1, fi), (wz, 142, 1502, ca 1, fz), (jnx, 143, 1502, ca 1, fn), (jkf, 144, 1502, ca 1, fa), (jks, 145, 1502, ca 1, fs), (jun, 146, 3000, ca 1, fu)]) [0, 1, 2, 3, 4, 5, 6] rfl rfl (I1 := [([(2, 0), (2, 1)], jOl (dC, dI) G0 2 [bo, ou] s.heap), (jFy, jYb dC dI G0), (jFs11, jSef dC dI G0), (jFl, jLs dC dI ca G0 3 none wl), (jFcd, jCD dC dI ca G0 none tq), (jFkd, jKD dC dI ca G0 none kq), (jFqd, jQD dC dI ca G0 none qq)]) [0, 1, 2, 3, 4, 5, 6] rfl rfl).more hb_525)
              clear hh_49 ht_52 hvm_52 hz_52 hk_52 hS_52 hb_521 hb_522 hb_523 hb_524 hb_525
              obtain ⟨hr_53b, hr_53p⟩ := hr_53
              obtain ⟨hr_53p_0, hr_53p_1⟩ := hr_53p
              have hr_53' := jb_01 hr_53b
              refine lv_if_eq (tgt := 204) hx hb dX11_request_188 (by decide) (fun c_54 => ?_) (fun c_54 => ?_)
              · skip
                have c_54' : r_53.toInt = 0 := jb_eq (rfl) ((by decide)) c_54
                first | (have hr_3_2q := hr_3_2.resolve_left (by omega); clear hr_3_2) | (have hr_3_2q := hr_3_2.resolve_right (by omega); clear hr_3_2) | skip
                first | (have hr_5p_0q := hr_5p_0.resolve_left (by omega); clear hr_5p_0) | (have hr_5p_0q := hr_5p_0.resolve_right (by omega); clear hr_5p_0) | skip
                first | (have hr_53p_0q := hr_53p_0.resolve_left (by omega); clear hr_53p_0) | (have hr_53p_0q := hr_53p_0.resolve_right (by omega); clear hr_53p_0) | try clear hr_53p_0
                refine lv_aload_n hx hb dX11_request_204 rfl (lv_at hl 2 rfl) ?_
                refine lv_aload_n hx hb dX11_request_205 rfl (lv_at hl 3 rfl) ?_
                refine lv_sipush (v := (-32601)) hx hb dX11_request_206 (by decide) ?_
                try clear hsz_52 htt_52 hrc_52 hrs_52
                have hsz_55 := hh_52.2.2.2.2.2.1
                have htt_55 := hh_52.2.2.2.2.2.2.1
                refine W.room (fun hrc_55 hrs_55 => ?_)
                refine va_callv (A0 := jA base) (H0 := s.heap) (va_runV (As := [.ref r1, .int (-32601)]) (rest := []) ⟨hx, hb, hml, hown, hts⟩ (uX11_refuse l dC dI ca base B hB hAp hB2 hB4 hB10 hB13 hB17 hB196 hB199 G0 H_52 r0 r1 (-32601) bo pc pa n_pa ou LC LS) (cwV 2 hts (jgV (jWr_26 _ (List.mem_of_getElem? (i := 3) rfl)) (jWr_26 _ (List.mem_of_getElem? (i := 4) rfl)) (jWr_26 _ (List.mem_of_getElem? (i := 5) rfl)) (jWr_1 _ (List.mem_of_getElem? (i := 2) rfl)) (jWr_26 _ (List.mem_of_getElem? (i := 6) rfl))) rfl rfl rfl (by decide +kernel) ⟨by rw [← hR]; exact Nat.le_of_ble_eq_true rfl, by rw [← hR]; exact Nat.le_of_ble_eq_true rfl⟩) ⟨fun a U g mk q => by obtain ⟨q0, q1, q2, qK, q10, q11, q12, q13, q14, q15, q16, q17⟩ := q; exact ⟨q0, q1, q2, jG.calling g mk a qK, q10, q11, q12, q13, q14, q15, q16, q17⟩, hh_52.recv (C := RX11) (T := TX11) (N := 19) hB13 rfl (by decide) hg_r0 hK, fun U hU hW => ⟨rfl, hU, hh_52.2.1, hG.step hW hU hh_52.1, hg_r1, hg_r0, hg_bo, hg_pa, hg_ou, (hh_52.2.2.1.sub (L1 := [(r0, 13, 4, .ref bo), (bo, 2, 1, .int pc), (bo, 2, 0, .ref pa), (r0, 13, 3, .ref ou)]) [0, 1, 2, 3] rfl), (hh_52.2.2.2.2.2.2.2.2.sub (L1 := [(jFy, jYb dC dI G0)]) [1] rfl), (by omega), (by omega), ⟨(by first | omega | rfl | assumption | fail), (by first | omega | rfl | assumption | fail), (by first | omega | rfl | assumption | fail), (by first | omega | rfl | assumption | fail), (by first | assumption | fail | omega)⟩⟩⟩ rfl rfl hl.1 rfl (lv_room (Nat.le_of_ble_eq_true rfl)) dX11_request_209 ⟨by rw [hRc]; omega, by rw [hRs]; omega⟩) hh_52.1 (fun q _ h => h) (fun q h => h) (fun u_55 t_55 H_55 locs_55 ht_55 hvm_55 hr_56 hb_55 hz_55 hk_55 hS_55 => ?_)
                obtain ⟨qc_55, qa_55, m_qa_55, G_55⟩ := u_55
                rw [ht_55] at hb_55
                simp only at hb_55
                obtain ⟨⟨hb_551, hb_552, hb_553, hb_554, hb_555, hb_556⟩, hgq_55_0, hN_55, hbO_55, hbE_55⟩ := hb_55
                have hW_55 := hN_55
                have hh_55 : jSt (dC, dI) B base G0 G_55 EX11_requestT s.heap (0 + ((m_qa_55 - n_pa) / 16)) (0 + (2 * (m_qa_55 - n_pa))) [(bo, 2, 1, .int qc_55), (bo, 2, 0, .ref qa_55), (r0, 13, 4, .ref bo), (r0, 13, 3, .ref ou), (r0, 13, 2, .ref js), (js, 6, 7, .int pv), (js, 6, 8, .int pu), (js, 6, 0, .ref wk), (js, 6, 1, .ref wi), (js, 6, 2, .ref wz), (js, 6, 3, .ref jnx), (js, 6, 4, .ref jkf), (js, 6, 5, .ref jks), (js, 6, 6, .ref jun), (r0, 13, 11, .int pz), (r0, 13, 7, .ref op), (op, 1, 2, .int sz), (r0, 13, 8, .ref wt_), (wt_, 1, 2, .int wn)] [(wk, 140, 1502, ca 1, fk), (wi, 141, 1502, ca 1, fi), (wz, 142, 1502, ca 1, fz), (jnx, 143, 1502, ca 1, fn), (jkf, 144, 1502, ca 1, fa), (jks, 145, 1502, ca 1, fs), (jun, 146, 3000, ca 1, fu)] [(jFs11, jSef dC dI G0), (jFl, jLs dC dI ca G0 3 none wl), (jFcd, jCD dC dI ca G0 none tq), (jFkd, jKD dC dI ca G0 none kq), (jFqd, jQD dC dI ca G0 none qq)] H_55 locs_55 := (hh_52.callG hb_551 hb_552 hb_553 hb_554 hb_555 hS_55 rfl (L1 := [(r0, 13, 4, .ref bo), (r0, 13, 3, .ref ou), (r0, 13, 2, .ref js), (js, 6, 7, .int pv), (js, 6, 8, .int pu), (js, 6, 0, .ref wk), (js, 6, 1, .ref wi), (js, 6, 2, .ref wz), (js, 6, 3, .ref jnx), (js, 6, 4, .ref jkf), (js, 6, 5, .ref jks), (js, 6, 6, .ref jun), (r0, 13, 11, .int pz), (r0, 13, 7, .ref op), (op, 1, 2, .int sz), (r0, 13, 8, .ref wt_), (wt_, 1, 2, .int wn)]) [0, 3, 4, 5, 6, 7, 8, 9, 10, 11, 12, 13, 14, 15, 16, 17, 18] rfl rfl (M1 := [(wk, 140, 1502, ca 1, fk), (wi, 141, 1502, ca 1, fi), (wz, 142, 1502, ca 1, fz), (jnx, 143, 1502, ca 1, fn), (jkf, 144, 1502, ca 1, fa), (jks, 145, 1502, ca 1, fs), (jun, 146, 3000, ca 1, fu)]) [0, 1, 2, 3, 4, 5, 6] rfl rfl (I1 := [(jFs11, jSef dC dI G0), (jFl, jLs dC dI ca G0 3 none wl), (jFcd, jCD dC dI ca G0 none tq), (jFkd, jKD dC dI ca G0 none kq), (jFqd, jQD dC dI ca G0 none qq)]) [2, 3, 4, 5, 6] rfl rfl).more hb_556
                have hNn_55 : (jNk [0, 1, 2, 3, 4, 5, 6, 7, 8, 9, 10, 11, 12, 13, 14, 15, 16, 17, 175]) G0 G_55 := (jNk.rf).tr hN_55
                have hg_57 := hb_552 _ _ hg_r0
                have hg_58 := hb_552 _ _ hg_r1
                have hg_59 := hb_552 _ _ hg_bo
                have hg_60 := hb_552 _ _ hg_ou
                have hg_61 := hb_552 _ _ hg_js
                have hg_62 := hb_552 _ _ hg_wk
                have hg_63 := hb_552 _ _ hg_wi
                have hg_64 := hb_552 _ _ hg_wz
                have hg_65 := hb_552 _ _ hg_jnx
                have hg_66 := hb_552 _ _ hg_jkf
                have hg_67 := hb_552 _ _ hg_jks
                have hg_68 := hb_552 _ _ hg_jun
                have hg_69 := hb_552 _ _ hg_op
                have hg_70 := hb_552 _ _ hg_wt_
                have hd_71 := jSef.grow (hh_55.iv 0 rfl) hb_552 hN_55 (by decide)
                have hh_72 := hh_55.sub (L1 := [(bo, 2, 1, .int qc_55), (bo, 2, 0, .ref qa_55), (r0, 13, 4, .ref bo), (r0, 13, 3, .ref ou), (r0, 13, 2, .ref js), (js, 6, 7, .int pv), (js, 6, 8, .int pu), (js, 6, 0, .ref wk), (js, 6, 1, .ref wi), (js, 6, 2, .ref wz), (js, 6, 3, .ref jnx), (js, 6, 4, .ref jkf), (js, 6, 5, .ref jks), (js, 6, 6, .ref jun), (r0, 13, 11, .int pz), (r0, 13, 7, .ref op), (op, 1, 2, .int sz), (r0, 13, 8, .ref wt_), (wt_, 1, 2, .int wn)]) [0, 1, 2, 3, 4, 5, 6, 7, 8, 9, 10, 11, 12, 13, 14, 15, 16, 17, 18] rfl (M1 := [(wk, 140, 1502, ca 1, fk), (wi, 141, 1502, ca 1, fi), (wz, 142, 1502, ca 1, fz), (jnx, 143, 1502, ca 1, fn), (jkf, 144, 1502, ca 1, fa), (jks, 145, 1502, ca 1, fs), (jun, 146, 3000, ca 1, fu)]) [0, 1, 2, 3, 4, 5, 6] rfl (I1 := [(jFl, jLs dC dI ca G0 3 none wl), (jFcd, jCD dC dI ca G0 none tq), (jFkd, jKD dC dI ca G0 none kq), (jFqd, jQD dC dI ca G0 none qq)]) [1, 2, 3, 4] rfl
                clear hh_55
                have hh_73 := hh_72.addI (jSef.ie hd_71)
                clear hh_72
                have hd_74 := jLs.grow (hh_73.iv 1 rfl) hb_552 hN_55 (by decide)
                have hh_75 := hh_73.sub (L1 := [(bo, 2, 1, .int qc_55), (bo, 2, 0, .ref qa_55), (r0, 13, 4, .ref bo), (r0, 13, 3, .ref ou), (r0, 13, 2, .ref js), (js, 6, 7, .int pv), (js, 6, 8, .int pu), (js, 6, 0, .ref wk), (js, 6, 1, .ref wi), (js, 6, 2, .ref wz), (js, 6, 3, .ref jnx), (js, 6, 4, .ref jkf), (js, 6, 5, .ref jks), (js, 6, 6, .ref jun), (r0, 13, 11, .int pz), (r0, 13, 7, .ref op), (op, 1, 2, .int sz), (r0, 13, 8, .ref wt_), (wt_, 1, 2, .int wn)]) [0, 1, 2, 3, 4, 5, 6, 7, 8, 9, 10, 11, 12, 13, 14, 15, 16, 17, 18] rfl (M1 := [(wk, 140, 1502, ca 1, fk), (wi, 141, 1502, ca 1, fi), (wz, 142, 1502, ca 1, fz), (jnx, 143, 1502, ca 1, fn), (jkf, 144, 1502, ca 1, fa), (jks, 145, 1502, ca 1, fs), (jun, 146, 3000, ca 1, fu)]) [0, 1, 2, 3, 4, 5, 6] rfl (I1 := [(jFs11, jSef dC dI G_55), (jFcd, jCD dC dI ca G0 none tq), (jFkd, jKD dC dI ca G0 none kq), (jFqd, jQD dC dI ca G0 none qq)]) [0, 2, 3, 4] rfl
                clear hh_73
                have hh_76 := hh_75.addI (jLs.ie hd_74)
                clear hh_75
                have hd_77 := jCD.grow (hh_76.iv 2 rfl) hb_552 hN_55 (by decide)
                have hh_78 := hh_76.sub (L1 := [(bo, 2, 1, .int qc_55), (bo, 2, 0, .ref qa_55), (r0, 13, 4, .ref bo), (r0, 13, 3, .ref ou), (r0, 13, 2, .ref js), (js, 6, 7, .int pv), (js, 6, 8, .int pu), (js, 6, 0, .ref wk), (js, 6, 1, .ref wi), (js, 6, 2, .ref wz), (js, 6, 3, .ref jnx), (js, 6, 4, .ref jkf), (js, 6, 5, .ref jks), (js, 6, 6, .ref jun), (r0, 13, 11, .int pz), (r0, 13, 7, .ref op), (op, 1, 2, .int sz), (r0, 13, 8, .ref wt_), (wt_, 1, 2, .int wn)]) [0, 1, 2, 3, 4, 5, 6, 7, 8, 9, 10, 11, 12, 13, 14, 15, 16, 17, 18] rfl (M1 := [(wk, 140, 1502, ca 1, fk), (wi, 141, 1502, ca 1, fi), (wz, 142, 1502, ca 1, fz), (jnx, 143, 1502, ca 1, fn), (jkf, 144, 1502, ca 1, fa), (jks, 145, 1502, ca 1, fs), (jun, 146, 3000, ca 1, fu)]) [0, 1, 2, 3, 4, 5, 6] rfl (I1 := [(jFl, jLs dC dI ca G_55 3 none wl), (jFs11, jSef dC dI G_55), (jFkd, jKD dC dI ca G0 none kq), (jFqd, jQD dC dI ca G0 none qq)]) [0, 1, 3, 4] rfl
                clear hh_76
                have hh_79 := hh_78.addI (jCD.ie hd_77)
                clear hh_78
                have hd_80 := jKD.grow (ca := ca) (hh_79.iv 3 rfl) hb_552 hW_55 (by decide)
                have hh_81 := hh_79.sub (L1 := [(bo, 2, 1, .int qc_55), (bo, 2, 0, .ref qa_55), (r0, 13, 4, .ref bo), (r0, 13, 3, .ref ou), (r0, 13, 2, .ref js), (js, 6, 7, .int pv), (js, 6, 8, .int pu), (js, 6, 0, .ref wk), (js, 6, 1, .ref wi), (js, 6, 2, .ref wz), (js, 6, 3, .ref jnx), (js, 6, 4, .ref jkf), (js, 6, 5, .ref jks), (js, 6, 6, .ref jun), (r0, 13, 11, .int pz), (r0, 13, 7, .ref op), (op, 1, 2, .int sz), (r0, 13, 8, .ref wt_), (wt_, 1, 2, .int wn)]) [0, 1, 2, 3, 4, 5, 6, 7, 8, 9, 10, 11, 12, 13, 14, 15, 16, 17, 18] rfl (M1 := [(wk, 140, 1502, ca 1, fk), (wi, 141, 1502, ca 1, fi), (wz, 142, 1502, ca 1, fz), (jnx, 143, 1502, ca 1, fn), (jkf, 144, 1502, ca 1, fa), (jks, 145, 1502, ca 1, fs), (jun, 146, 3000, ca 1, fu)]) [0, 1, 2, 3, 4, 5, 6] rfl (I1 := [(jFcd, jCD dC dI ca G_55 none tq), (jFl, jLs dC dI ca G_55 3 none wl), (jFs11, jSef dC dI G_55), (jFqd, jQD dC dI ca G0 none qq)]) [0, 1, 2, 4] rfl
                clear hh_79
                have hh_82 := hh_81.addI (jKD.ie hd_80)
                clear hh_81
                have hd_83 := jQD.grow (ca := ca) (hh_82.iv 4 rfl) hb_552 hW_55 (by decide)
                have hh_84 := hh_82.sub (L1 := [(bo, 2, 1, .int qc_55), (bo, 2, 0, .ref qa_55), (r0, 13, 4, .ref bo), (r0, 13, 3, .ref ou), (r0, 13, 2, .ref js), (js, 6, 7, .int pv), (js, 6, 8, .int pu), (js, 6, 0, .ref wk), (js, 6, 1, .ref wi), (js, 6, 2, .ref wz), (js, 6, 3, .ref jnx), (js, 6, 4, .ref jkf), (js, 6, 5, .ref jks), (js, 6, 6, .ref jun), (r0, 13, 11, .int pz), (r0, 13, 7, .ref op), (op, 1, 2, .int sz), (r0, 13, 8, .ref wt_), (wt_, 1, 2, .int wn)]) [0, 1, 2, 3, 4, 5, 6, 7, 8, 9, 10, 11, 12, 13, 14, 15, 16, 17, 18] rfl (M1 := [(wk, 140, 1502, ca 1, fk), (wi, 141, 1502, ca 1, fi), (wz, 142, 1502, ca 1, fz), (jnx, 143, 1502, ca 1, fn), (jkf, 144, 1502, ca 1, fa), (jks, 145, 1502, ca 1, fs), (jun, 146, 3000, ca 1, fu)]) [0, 1, 2, 3, 4, 5, 6] rfl (I1 := [(jFkd, jKD dC dI ca G_55 none kq), (jFcd, jCD dC dI ca G_55 none tq), (jFl, jLs dC dI ca G_55 3 none wl), (jFs11, jSef dC dI G_55)]) [0, 1, 2, 3] rfl
                clear hh_82
                have hh_85 := hh_84.addI (jQD.ie hd_83)
                clear hh_84
                have hh_86 := hh_85.addIs hbE_55
                have hd_87 := jOl.trL (hh_52.iv 0 rfl) hh_52.2.2.2.2.1 hbO_55 (by simp)
                have hh_88 := hh_86.addI (jOl.ie (dC := dC) (dI := dI) (G0 := G0) (k := 2) (rs := [bo, ou]) (H0 := s.heap) (F := [(2, 0), (2, 1)]) (C := RX0) (T := TX0) (N := 2) rfl (by decide) hh_86.2.2.2.2.1 (hd_87))
                clear hh_86
                try simp only at hr_56
                obtain ⟨hr_56_0, hr_56_1, hr_56_2, hr_56_3, hr_56_4⟩ := hr_56
                have hh_89 := hh_88.wk (zc1 := (m_qa_55 - n_pa) / 16 + 2) (zs1 := 2 * (m_qa_55 - n_pa) + 40 + pu.toInt.toNat) (by omega) (by omega)
                clear hh_88
                try clear hsz_55 htt_55 hrc_55 hrs_55
                try clear hb_554 hb_555
                have hqz9 : (pz.toInt : Int) = jdRq T9 pv.toInt pz.toInt := by have h9 : jdRq T9 pv.toInt pz.toInt = _ := jdRq.e hm9 (by omega) (by rw [← hr_47p_1]; omega); omega
                try clear hsz_55 htt_55 hrc_55 hrs_55
                have hsz_90 := hh_89.2.2.2.2.2.1
                have htt_90 := hh_89.2.2.2.2.2.2.1
                refine W.room (fun hrc_90 hrs_90 => ?_)
                refine W.widen (k := LC - s.heap.size) (n := LS - jTot s.heap) (by omega) (by omega) ?_
                rw [hQ]
                exact W.vret hx hb hr (fun t ht hW => ⟨⟨(qc_55, pz, qa_55, m_qa_55, wl, qq, G_55), rfl, by skip; (try dsimp only); refine ⟨(by first | (with_reducible assumption) | omega | exact hqz9), (by first | (with_reducible assumption) | omega | exact hqz9), (by first | (with_reducible assumption) | omega | exact hqz9), (by first | (with_reducible assumption) | omega | exact hqz9), (by first | (with_reducible assumption) | omega | exact hqz9), (by first | (with_reducible assumption) | omega | exact hqz9), ?_⟩; rw [jwRq.z4 hm9 (by rw [← hr_50p_1]; omega) (by rw [← hr_53p_1]; omega)]; exact hCz9, ⟨hh_89.ra (by first | (simp only; omega) | omega) (by first | (simp only; omega) | omega) (M1 := [(bo, 2, 1, .int qc_55), (r0, 13, 11, .int pz), (bo, 2, 0, .ref qa_55)]) [0, 14, 1] rfl ht, hgq_55_0, hNn_55, by rw [ht]; exact hh_89.iv 0 rfl, by rw [ht]; exact hh_89.2.2.2.2.2.2.2.2.sub (L1 := [(jFy, jYb dC dI G_55), (jFs11, jSef dC dI G_55), (jFl, jLs dC dI ca G_55 3 none wl), (jFcd, jCD dC dI ca G_55 none tq), (jFkd, jKD dC dI ca G_55 none kq), (jFqd, jQD dC dI ca G_55 none qq)]) [1, 6, 5, 4, 3, 2] rfl⟩⟩, by rw [ht]; try exact hh_89.1.1, fun q h9 hq => by rw [ht]; try exact hh_89.1.2.1 q h9 hq⟩) hh_89.1.2.2 dX11_request_212
              · skip
                have c_54' : r_53.toInt ≠ 0 := jb_eq_n (rfl) ((by decide)) c_54
                first | (have hr_3_2q := hr_3_2.resolve_left (by omega); clear hr_3_2) | (have hr_3_2q := hr_3_2.resolve_right (by omega); clear hr_3_2) | skip
                first | (have hr_5p_0q := hr_5p_0.resolve_left (by omega); clear hr_5p_0) | (have hr_5p_0q := hr_5p_0.resolve_right (by omega); clear hr_5p_0) | skip
                first | (have hr_53p_0q := hr_53p_0.resolve_left (by omega); clear hr_53p_0) | (have hr_53p_0q := hr_53p_0.resolve_right (by omega); clear hr_53p_0) | try clear hr_53p_0
                refine lv_aload_n hx hb dX11_request_191 rfl (lv_at hl 2 rfl) ?_
                refine lv_aload_n hx hb dX11_request_192 rfl (lv_at hl 3 rfl) ?_
                refine lv_aload_n hx hb dX11_request_193 rfl (lv_at hl 2 rfl) ?_
                refine lv_aload_n hx hb dX11_request_194 rfl (lv_at hl 3 rfl) ?_
                try clear hsz_52 htt_52 hrc_52 hrs_52
                have hsz_91 := hh_52.2.2.2.2.2.1
                have htt_91 := hh_52.2.2.2.2.2.2.1
                refine W.room (fun hrc_91 hrs_91 => ?_)
                refine va_calli (A0 := jA base) (H0 := s.heap) (va_runV (As := [.ref r1]) (rest := [.ref r1, .ref r0]) ⟨hx, hb, hml, hown, hts⟩ (uX11_aimAtNameT l dC dI ca base B hB hAp hB1 hB3 hB6 hB7 hB8 hB10 hB11 hB13 hB101 hB102 hB132 hB133 hB140 hB141 hB142 hB143 hB144 hB145 hB146 hB171 hB172 hB173 hB174 hB175 hB176 hB210 hB221 G0 H_52 r0 r1 js pv pu wk wi wz jnx jkf jks jun op sz s0 tq ho us rw ib S9 Z9 T9 wl kq qq fk fi fz fn fa fs fu LC LS) (cwV 1 hts (jgV (jWr_35 _ (List.mem_of_getElem? (i := 0) rfl)) (jWr_35 _ (List.mem_of_getElem? (i := 1) rfl)) (jWr_35 _ (List.mem_of_getElem? (i := 2) rfl)) (jWr_1 _ (List.mem_of_getElem? (i := 2) rfl)) (jWr_35 _ (List.mem_of_getElem? (i := 3) rfl))) rfl rfl rfl (by decide +kernel) ⟨by rw [← hR]; exact Nat.le_of_ble_eq_true rfl, by rw [← hR]; exact Nat.le_of_ble_eq_true rfl⟩) ⟨fun a U g mk q => by obtain ⟨q0, q1, q2, qK, q10, q11, q12, q13, q14, q15, q16, q17, q18, q19, q20, q21, q22, q23, q24, q25⟩ := q; exact ⟨q0, q1, q2, jG.calling g mk a qK, (jK7.calling g mk a q10), q11, q12, q13, q14, q15, q16, q17, q18, q19, q20, q21, q22, q23, q24, q25⟩, hh_52.recv (C := RX11) (T := TX11) (N := 19) hB13 rfl (by decide) hg_r0 hK, fun U hU hW => ⟨rfl, hU, hh_52.2.1, hG.step hW hU hh_52.1, (hK7.step hW hU hh_52.1), hg_r0, hg_r1, hg_js, hg_wk, hg_wi, hg_wz, hg_jnx, hg_jkf, hg_jks, hg_jun, hg_op, (hh_52.2.2.1.sub (L1 := [(r0, 13, 2, .ref js), (js, 6, 7, .int pv), (js, 6, 8, .int pu), (js, 6, 0, .ref wk), (js, 6, 1, .ref wi), (js, 6, 2, .ref wz), (js, 6, 3, .ref jnx), (js, 6, 4, .ref jkf), (js, 6, 5, .ref jks), (js, 6, 6, .ref jun), (r0, 13, 7, .ref op), (op, 1, 2, .int sz)]) [4, 5, 6, 7, 8, 9, 10, 11, 12, 13, 15, 16] rfl), (hh_52.2.2.2.2.2.2.2.1.sub (L1 := [(wk, 140, 1502, ca 1, fk), (wi, 141, 1502, ca 1, fi), (wz, 142, 1502, ca 1, fz), (jnx, 143, 1502, ca 1, fn), (jkf, 144, 1502, ca 1, fa), (jks, 145, 1502, ca 1, fs), (jun, 146, 3000, ca 1, fu)]) [0, 1, 2, 3, 4, 5, 6] rfl), (hh_52.2.2.2.2.2.2.2.2.sub (L1 := [(jFl, jLs dC dI ca G0 3 none wl), (jFcd, jCD dC dI ca G0 none tq), (jFkd, jKD dC dI ca G0 none kq), (jFqd, jQD dC dI ca G0 none qq)]) [3, 4, 5, 6] rfl), (by omega), (by omega), ⟨(by first | omega | rfl | assumption | exact hCz9), (by first | omega | rfl | assumption | exact hCz9), (by first | omega | rfl | assumption | exact hCz9), (by first | omega | rfl | assumption | exact hCz9), (by first | assumption | exact hCz9 | omega), (by first | assumption | exact hCz9 | omega), (by first | assumption | exact hCz9 | omega), (by first | omega | rfl | assumption | exact hCz9), (by first | omega | rfl | assumption | exact hCz9), (by first | assumption | exact hCz9 | omega)⟩⟩⟩ rfl rfl hl.1 rfl (lv_room (Nat.le_of_ble_eq_true rfl)) dX11_request_195 ⟨by rw [hRc]; omega, by rw [hRs]; omega⟩) hh_52.1 (fun q _ h => h) (fun q h => h) (fun r_92 u_91 t_91 H_91 locs_91 ht_91 hvm_91 hr_92 hb_91 hz_91 hk_91 hS_91 => ?_)
                rw [ht_91] at hb_91
                obtain ⟨gQ_91, G_91⟩ := u_91
                simp only at hb_91
                obtain ⟨⟨hb_911, hb_912, hb_913, hb_914, hb_915, hb_916⟩, hN_91, hbE_91⟩ := hb_91
                have hW_91 := hN_91
                have hh_91 : jSt (dC, dI) B base G0 G_91 EX11_requestT s.heap (0 + (1)) (0 + ((pu.toInt : Int).toNat)) [(r0, 13, 4, .ref bo), (bo, 2, 1, .int pc), (bo, 2, 0, .ref pa), (r0, 13, 3, .ref ou), (r0, 13, 2, .ref js), (js, 6, 7, .int pv), (js, 6, 8, .int pu), (js, 6, 0, .ref wk), (js, 6, 1, .ref wi), (js, 6, 2, .ref wz), (js, 6, 3, .ref jnx), (js, 6, 4, .ref jkf), (js, 6, 5, .ref jks), (js, 6, 6, .ref jun), (r0, 13, 11, .int pz), (r0, 13, 7, .ref op), (op, 1, 2, .int sz), (r0, 13, 8, .ref wt_), (wt_, 1, 2, .int wn)] [(wk, 140, 1502, ca 1, fk), (wi, 141, 1502, ca 1, fi), (wz, 142, 1502, ca 1, fz), (jnx, 143, 1502, ca 1, fn), (jkf, 144, 1502, ca 1, fa), (jks, 145, 1502, ca 1, fs), (jun, 146, 3000, ca 1, fu)] [([(2, 0), (2, 1)], jOl (dC, dI) G0 2 [bo, ou] s.heap), (jFy, jYb dC dI G0), (jFs11, jSef dC dI G0)] H_91 locs_91 := (hh_52.callG hb_911 hb_912 hb_913 hb_914 hb_915 hS_91 rfl (L1 := [(r0, 13, 4, .ref bo), (bo, 2, 1, .int pc), (bo, 2, 0, .ref pa), (r0, 13, 3, .ref ou), (r0, 13, 2, .ref js), (js, 6, 7, .int pv), (js, 6, 8, .int pu), (js, 6, 0, .ref wk), (js, 6, 1, .ref wi), (js, 6, 2, .ref wz), (js, 6, 3, .ref jnx), (js, 6, 4, .ref jkf), (js, 6, 5, .ref jks), (js, 6, 6, .ref jun), (r0, 13, 11, .int pz), (r0, 13, 7, .ref op), (op, 1, 2, .int sz), (r0, 13, 8, .ref wt_), (wt_, 1, 2, .int wn)]) [0, 1, 2, 3, 4, 5, 6, 7, 8, 9, 10, 11, 12, 13, 14, 15, 16, 17, 18] rfl rfl (M1 := [(wk, 140, 1502, ca 1, fk), (wi, 141, 1502, ca 1, fi), (wz, 142, 1502, ca 1, fz), (jnx, 143, 1502, ca 1, fn), (jkf, 144, 1502, ca 1, fa), (jks, 145, 1502, ca 1, fs), (jun, 146, 3000, ca 1, fu)]) [0, 1, 2, 3, 4, 5, 6] rfl rfl (I1 := [([(2, 0), (2, 1)], jOl (dC, dI) G0 2 [bo, ou] s.heap), (jFy, jYb dC dI G0), (jFs11, jSef dC dI G0)]) [0, 1, 2] rfl rfl).more hb_916
                have hNn_91 : (jNk [0, 1, 2, 3, 4, 5, 6, 7, 8, 9, 10, 11, 12, 13, 14, 15, 16, 17, 175]) G0 G_91 := (jNk.rf).tr hN_91
                have hg_93 := hb_912 _ _ hg_r0
                have hg_94 := hb_912 _ _ hg_r1
                have hg_95 := hb_912 _ _ hg_bo
                have hg_96 := hb_912 _ _ hg_pa
                have hg_97 := hb_912 _ _ hg_ou
                have hg_98 := hb_912 _ _ hg_js
                have hg_99 := hb_912 _ _ hg_wk
                have hg_100 := hb_912 _ _ hg_wi
                have hg_101 := hb_912 _ _ hg_wz
                have hg_102 := hb_912 _ _ hg_jnx
                have hg_103 := hb_912 _ _ hg_jkf
                have hg_104 := hb_912 _ _ hg_jks
                have hg_105 := hb_912 _ _ hg_jun
                have hg_106 := hb_912 _ _ hg_op
                have hg_107 := hb_912 _ _ hg_wt_
                have hd_108 := jYb.grow (hh_91.iv 1 rfl) hb_912 hN_91 (by decide)
                have hh_109 := hh_91.sub (L1 := [(r0, 13, 4, .ref bo), (bo, 2, 1, .int pc), (bo, 2, 0, .ref pa), (r0, 13, 3, .ref ou), (r0, 13, 2, .ref js), (js, 6, 7, .int pv), (js, 6, 8, .int pu), (js, 6, 0, .ref wk), (js, 6, 1, .ref wi), (js, 6, 2, .ref wz), (js, 6, 3, .ref jnx), (js, 6, 4, .ref jkf), (js, 6, 5, .ref jks), (js, 6, 6, .ref jun), (r0, 13, 11, .int pz), (r0, 13, 7, .ref op), (op, 1, 2, .int sz), (r0, 13, 8, .ref wt_), (wt_, 1, 2, .int wn)]) [0, 1, 2, 3, 4, 5, 6, 7, 8, 9, 10, 11, 12, 13, 14, 15, 16, 17, 18] rfl (M1 := [(wk, 140, 1502, ca 1, fk), (wi, 141, 1502, ca 1, fi), (wz, 142, 1502, ca 1, fz), (jnx, 143, 1502, ca 1, fn), (jkf, 144, 1502, ca 1, fa), (jks, 145, 1502, ca 1, fs), (jun, 146, 3000, ca 1, fu)]) [0, 1, 2, 3, 4, 5, 6] rfl (I1 := [([(2, 0), (2, 1)], jOl (dC, dI) G0 2 [bo, ou] s.heap), (jFs11, jSef dC dI G0)]) [0, 2] rfl
                clear hh_91
                have hh_110 := hh_109.addI (jYb.ie hd_108)
                clear hh_109
                have hd_111 := jSef.grow (hh_110.iv 2 rfl) hb_912 hN_91 (by decide)
                have hh_112 := hh_110.sub (L1 := [(r0, 13, 4, .ref bo), (bo, 2, 1, .int pc), (bo, 2, 0, .ref pa), (r0, 13, 3, .ref ou), (r0, 13, 2, .ref js), (js, 6, 7, .int pv), (js, 6, 8, .int pu), (js, 6, 0, .ref wk), (js, 6, 1, .ref wi), (js, 6, 2, .ref wz), (js, 6, 3, .ref jnx), (js, 6, 4, .ref jkf), (js, 6, 5, .ref jks), (js, 6, 6, .ref jun), (r0, 13, 11, .int pz), (r0, 13, 7, .ref op), (op, 1, 2, .int sz), (r0, 13, 8, .ref wt_), (wt_, 1, 2, .int wn)]) [0, 1, 2, 3, 4, 5, 6, 7, 8, 9, 10, 11, 12, 13, 14, 15, 16, 17, 18] rfl (M1 := [(wk, 140, 1502, ca 1, fk), (wi, 141, 1502, ca 1, fi), (wz, 142, 1502, ca 1, fz), (jnx, 143, 1502, ca 1, fn), (jkf, 144, 1502, ca 1, fa), (jks, 145, 1502, ca 1, fs), (jun, 146, 3000, ca 1, fu)]) [0, 1, 2, 3, 4, 5, 6] rfl (I1 := [(jFy, jYb dC dI G_91), ([(2, 0), (2, 1)], jOl (dC, dI) G0 2 [bo, ou] s.heap)]) [0, 1] rfl
                clear hh_110
                have hh_113 := hh_112.addI (jSef.ie hd_111)
                clear hh_112
                have hh_114 := hh_113.addIs hbE_91
                obtain ⟨hr_92b, hr_92p⟩ := hr_92
                try simp only at hr_92p
                have hr_92' := jb_01 hr_92b
                try clear hsz_91 htt_91 hrc_91 hrs_91
                have hsz_115 := hh_114.2.2.2.2.2.1
                have htt_115 := hh_114.2.2.2.2.2.2.1
                refine W.room (fun hrc_115 hrs_115 => ?_)
                refine va_callv (A0 := jA base) (H0 := s.heap) (va_runV (As := [.ref r1, .int r_92]) (rest := []) ⟨hx, hb, hml, hown, hts⟩ (uX11_answerOrWaitT l dC dI ca base B hB hAp hB1 hB2 hB3 hB4 hB5 hB7 hB8 hB9 hB10 hB11 hB13 hB17 hB101 hB102 hB132 hB171 hB172 hB176 hB196 hB199 hB210 hB214 hB222 hB280 hB286 hB287 hB288 hB313 G_91 H_91 r0 r1 r_92 bo pc pa n_pa ou wt_ wn wl kq gQ_91 LC LS) (cwV 2 hts (jgV (jWr_29 _ (List.mem_of_getElem? (i := 15) rfl)) (jWr_29 _ (List.mem_of_getElem? (i := 16) rfl)) (jWr_29 _ (List.mem_of_getElem? (i := 17) rfl)) (jWr_1 _ (List.mem_of_getElem? (i := 2) rfl)) (jWr_29 _ (List.mem_of_getElem? (i := 18) rfl))) rfl rfl rfl (by decide +kernel) ⟨by rw [← hR]; exact Nat.le_of_ble_eq_true rfl, by rw [← hR]; exact Nat.le_of_ble_eq_true rfl⟩) ⟨fun a U g mk q => by obtain ⟨q0, q1, q2, qK, q10, q11, q12, q13, q14, q15, q16, q17, q18, q19, q20, q21, q22⟩ := q; exact ⟨q0, q1, q2, jG.calling g mk a qK, (va_K.moved (Vm.Alike.refl U.vm) q10), (jK5.moved (Vm.Alike.refl U.vm) q11), (jK7.calling g mk a q12), q13, q14, q15, q16, q17, q18, q19, q20, q21, q22⟩, hh_114.recv (C := RX11) (T := TX11) (N := 19) hB13 rfl (by decide) hg_93 hK, fun U hU hW => ⟨rfl, hU, hh_114.2.1, hG.step hW hU hh_114.1, va_K.moved hW.alike hK2, jK5.moved hW.alike hK5, (hK7.step hW hU hh_114.1), hg_93, hg_94, (hr_92b), hg_95, hg_96, hg_97, hg_107, (hh_114.2.2.1.sub (L1 := [(r0, 13, 4, .ref bo), (bo, 2, 1, .int pc), (bo, 2, 0, .ref pa), (r0, 13, 3, .ref ou), (r0, 13, 8, .ref wt_), (wt_, 1, 2, .int wn)]) [0, 1, 2, 3, 17, 18] rfl), (hh_114.2.2.2.2.2.2.2.2.sub (L1 := [(jFy, jYb dC dI G_91), (jFs11, jSef dC dI G_91), (jFl, jLs dC dI ca G_91 3 none wl), (jFkd, jKD dC dI ca G_91 none kq), (jFqd, jQD dC dI ca G_91 none gQ_91)]) [5, 4, 0, 2, 3] rfl), (by omega), (by omega), ⟨(by first | omega | rfl | assumption | fail), (by first | omega | rfl | assumption | fail), (by first | omega | rfl | assumption | fail), (by first | omega | rfl | assumption | fail), (by first | assumption | fail | omega)⟩⟩⟩ rfl rfl hl.1 rfl (lv_room (Nat.le_of_ble_eq_true rfl)) dX11_request_198 ⟨by rw [hRc]; omega, by rw [hRs]; omega⟩) hh_114.1 (fun q _ h => h) (fun q h => h) (fun u_115 t_115 H_115 locs_115 ht_115 hvm_115 hr_116 hb_115 hz_115 hk_115 hS_115 => ?_)
                obtain ⟨qc_115, qa_115, m_qa_115, qw_115, G_115⟩ := u_115
                rw [ht_115] at hb_115
                simp only at hb_115
                obtain ⟨⟨hb_1151, hb_1152, hb_1153, hb_1154, hb_1155, hb_1156⟩, hgq_115_0, hN_115, hbO_115, hbE_115⟩ := hb_115
                have hW_115 := hN_115
                have hh_115 : jSt (dC, dI) B base G0 G_115 EX11_requestT s.heap ((0 + (1)) + ((m_qa_115 - n_pa) / 16 + 1)) ((0 + ((pu.toInt : Int).toNat)) + (2 * (m_qa_115 - n_pa) + 40)) [(bo, 2, 1, .int qc_115), (bo, 2, 0, .ref qa_115), (r0, 13, 4, .ref bo), (r0, 13, 3, .ref ou), (r0, 13, 2, .ref js), (js, 6, 7, .int pv), (js, 6, 8, .int pu), (js, 6, 0, .ref wk), (js, 6, 1, .ref wi), (js, 6, 2, .ref wz), (js, 6, 3, .ref jnx), (js, 6, 4, .ref jkf), (js, 6, 5, .ref jks), (js, 6, 6, .ref jun), (r0, 13, 11, .int pz), (r0, 13, 7, .ref op), (r0, 13, 8, .ref wt_)] [(wk, 140, 1502, ca 1, fk), (wi, 141, 1502, ca 1, fi), (wz, 142, 1502, ca 1, fz), (jnx, 143, 1502, ca 1, fn), (jkf, 144, 1502, ca 1, fa), (jks, 145, 1502, ca 1, fs), (jun, 146, 3000, ca 1, fu)] [(jFcd, jCD dC dI ca G_91 none tq)] H_115 locs_115 := (hh_114.callG hb_1151 hb_1152 hb_1153 hb_1154 hb_1155 hS_115 rfl (L1 := [(r0, 13, 4, .ref bo), (r0, 13, 3, .ref ou), (r0, 13, 2, .ref js), (js, 6, 7, .int pv), (js, 6, 8, .int pu), (js, 6, 0, .ref wk), (js, 6, 1, .ref wi), (js, 6, 2, .ref wz), (js, 6, 3, .ref jnx), (js, 6, 4, .ref jkf), (js, 6, 5, .ref jks), (js, 6, 6, .ref jun), (r0, 13, 11, .int pz), (r0, 13, 7, .ref op), (r0, 13, 8, .ref wt_)]) [0, 3, 4, 5, 6, 7, 8, 9, 10, 11, 12, 13, 14, 15, 17] rfl rfl (M1 := [(wk, 140, 1502, ca 1, fk), (wi, 141, 1502, ca 1, fi), (wz, 142, 1502, ca 1, fz), (jnx, 143, 1502, ca 1, fn), (jkf, 144, 1502, ca 1, fa), (jks, 145, 1502, ca 1, fs), (jun, 146, 3000, ca 1, fu)]) [0, 1, 2, 3, 4, 5, 6] rfl rfl (I1 := [(jFcd, jCD dC dI ca G_91 none tq)]) [1] rfl rfl).more hb_1156
                have hNn_115 : (jNk [0, 1, 2, 3, 4, 5, 6, 7, 8, 9, 10, 11, 12, 13, 14, 15, 16, 17, 175]) G0 G_115 := (hNn_91).tr hN_115
                have hg_117 := hb_1152 _ _ hg_93
                have hg_118 := hb_1152 _ _ hg_94
                have hg_119 := hb_1152 _ _ hg_95
                have hg_120 := hb_1152 _ _ hg_97
                have hg_121 := hb_1152 _ _ hg_98
                have hg_122 := hb_1152 _ _ hg_99
                have hg_123 := hb_1152 _ _ hg_100
                have hg_124 := hb_1152 _ _ hg_101
                have hg_125 := hb_1152 _ _ hg_102
                have hg_126 := hb_1152 _ _ hg_103
                have hg_127 := hb_1152 _ _ hg_104
                have hg_128 := hb_1152 _ _ hg_105
                have hg_129 := hb_1152 _ _ hg_106
                have hg_130 := hb_1152 _ _ hg_107
                have hd_131 := jCD.grow (hh_115.iv 0 rfl) hb_1152 hN_115 (by decide)
                have hh_132 := hh_115.sub (L1 := [(bo, 2, 1, .int qc_115), (bo, 2, 0, .ref qa_115), (r0, 13, 4, .ref bo), (r0, 13, 3, .ref ou), (r0, 13, 2, .ref js), (js, 6, 7, .int pv), (js, 6, 8, .int pu), (js, 6, 0, .ref wk), (js, 6, 1, .ref wi), (js, 6, 2, .ref wz), (js, 6, 3, .ref jnx), (js, 6, 4, .ref jkf), (js, 6, 5, .ref jks), (js, 6, 6, .ref jun), (r0, 13, 11, .int pz), (r0, 13, 7, .ref op), (r0, 13, 8, .ref wt_)]) [0, 1, 2, 3, 4, 5, 6, 7, 8, 9, 10, 11, 12, 13, 14, 15, 16] rfl (M1 := [(wk, 140, 1502, ca 1, fk), (wi, 141, 1502, ca 1, fi), (wz, 142, 1502, ca 1, fz), (jnx, 143, 1502, ca 1, fn), (jkf, 144, 1502, ca 1, fa), (jks, 145, 1502, ca 1, fs), (jun, 146, 3000, ca 1, fu)]) [0, 1, 2, 3, 4, 5, 6] rfl (I1 := []) [] rfl
                clear hh_115
                have hh_133 := hh_132.addI (jCD.ie hd_131)
                clear hh_132
                have hh_134 := hh_133.addIs hbE_115
                have hd_135 := jOl.trL (hh_114.iv 6 rfl) hh_114.2.2.2.2.1 hbO_115 (by simp)
                have hh_136 := hh_134.addI (jOl.ie (dC := dC) (dI := dI) (G0 := G0) (k := 2) (rs := [bo, ou]) (H0 := s.heap) (F := [(2, 0), (2, 1)]) (C := RX0) (T := TX0) (N := 2) rfl (by decide) hh_134.2.2.2.2.1 (hd_135))
                clear hh_134
                try simp only at hr_116
                obtain ⟨hr_116_0, hr_116_1, hr_116_2, hr_116_3, hr_116_4, hr_116_5⟩ := hr_116
                have hh_137 := hh_136.wk (zc1 := (m_qa_115 - n_pa) / 16 + 2) (zs1 := 2 * (m_qa_115 - n_pa) + 40 + pu.toInt.toNat) (by omega) (by omega)
                clear hh_136
                try clear hsz_115 htt_115 hrc_115 hrs_115
                try clear hb_1154 hb_1155
                refine lv_goto (tgt := 212) hx hb dX11_request_201 (by decide) ?_
                have hqz9 : (pz.toInt : Int) = jdRq T9 pv.toInt pz.toInt := by have h9 : jdRq T9 pv.toInt pz.toInt = _ := jdRq.e hm9 (by omega) (by rw [← hr_47p_1]; omega); omega
                try clear hsz_115 htt_115 hrc_115 hrs_115
                have hsz_138 := hh_137.2.2.2.2.2.1
                have htt_138 := hh_137.2.2.2.2.2.2.1
                refine W.room (fun hrc_138 hrs_138 => ?_)
                refine W.widen (k := LC - s.heap.size) (n := LS - jTot s.heap) (by omega) (by omega) ?_
                rw [hQ]
                exact W.vret hx hb hr (fun t ht hW => ⟨⟨(qc_115, pz, qa_115, m_qa_115, qw_115, gQ_91, G_115), rfl, by skip; (try dsimp only); refine ⟨(by first | (with_reducible assumption) | omega | exact hqz9), (by first | (with_reducible assumption) | omega | exact hqz9), (by first | (with_reducible assumption) | omega | exact hqz9), (by first | (with_reducible assumption) | omega | exact hqz9), (by first | (with_reducible assumption) | omega | exact hqz9), (by first | (with_reducible assumption) | omega | exact hqz9), ?_⟩; rw [jwRq.sta hm9 (by omega) (by rw [← hin9]; omega) (by rw [← hr_47p_1]; omega) (by rw [← hr_50p_1]; omega) (by rw [← hr_53p_1]; omega)]; exact hCz9.stat hAq9 hr_92p hr_116_5, ⟨hh_137.ra (by first | (simp only; omega) | omega) (by first | (simp only; omega) | omega) (M1 := [(bo, 2, 1, .int qc_115), (r0, 13, 11, .int pz), (bo, 2, 0, .ref qa_115)]) [0, 14, 1] rfl ht, hgq_115_0, hNn_115, by rw [ht]; exact hh_137.iv 0 rfl, by rw [ht]; exact hh_137.2.2.2.2.2.2.2.2.sub (L1 := [(jFy, jYb dC dI G_115), (jFs11, jSef dC dI G_115), (jFl, jLs dC dI ca G_115 3 none qw_115), (jFcd, jCD dC dI ca G_115 none tq), (jFkd, jKD dC dI ca G_115 none kq), (jFqd, jQD dC dI ca G_115 none gQ_91)]) [1, 2, 3, 6, 4, 5] rfl⟩⟩, by rw [ht]; try exact hh_137.1.1, fun q h9 hq => by rw [ht]; try exact hh_137.1.2.1 q h9 hq⟩) hh_137.1.2.2 dX11_request_212
            · skip
              have c_51' : r_50.toInt ≠ 0 := jb_eq_n (rfl) ((by decide)) c_51
              first | (have hr_3_2q := hr_3_2.resolve_left (by omega); clear hr_3_2) | (have hr_3_2q := hr_3_2.resolve_right (by omega); clear hr_3_2) | skip
              first | (have hr_5p_0q := hr_5p_0.resolve_left (by omega); clear hr_5p_0) | (have hr_5p_0q := hr_5p_0.resolve_right (by omega); clear hr_5p_0) | skip
              first | (have hr_50p_0q := hr_50p_0.resolve_left (by omega); clear hr_50p_0) | (have hr_50p_0q := hr_50p_0.resolve_right (by omega); clear hr_50p_0) | try clear hr_50p_0
              refine lv_aload_n hx hb dX11_request_164 rfl (lv_at hl 2 rfl) ?_
              refine lv_aload_n hx hb dX11_request_165 rfl (lv_at hl 3 rfl) ?_
              refine lv_aload_n hx hb dX11_request_166 rfl (lv_at hl 2 rfl) ?_
              refine lv_aload_n hx hb dX11_request_167 rfl (lv_at hl 3 rfl) ?_
              try clear hsz_49 htt_49 hrc_49 hrs_49
              have hsz_139 := hh_49.2.2.2.2.2.1
              have htt_139 := hh_49.2.2.2.2.2.2.1
              refine W.room (fun hrc_139 hrs_139 => ?_)
              refine va_calli (A0 := jA base) (H0 := s.heap) (va_runV (As := [.ref r1]) (rest := [.ref r1, .ref r0]) ⟨hx, hb, hml, hown, hts⟩ (uX11_aimAtPlaceT l dC dI ca base B hB hAp hB1 hB3 hB6 hB10 hB11 hB13 hB101 hB140 hB141 hB142 hB143 hB144 hB145 hB146 hB171 hB172 hB173 hB174 hB175 hB176 hB210 hB221 G0 H_49 r0 r1 js pv pu wk wi wz jnx jkf jks jun op sz s0 tq ho us rw ib S9 Z9 T9 wl kq qq fk fi fz fn fa fs fu) (cwV 1 hts (jgV (jWr_27 _ (List.mem_of_getElem? (i := 10) rfl)) (jWr_27 _ (List.mem_of_getElem? (i := 11) rfl)) (jWr_27 _ (List.mem_of_getElem? (i := 12) rfl)) (jWr_1 _ (List.mem_of_getElem? (i := 2) rfl)) (jWr_27 _ (List.mem_of_getElem? (i := 13) rfl))) rfl rfl rfl (by decide +kernel) ⟨by rw [← hR]; exact Nat.le_of_ble_eq_true rfl, by rw [← hR]; exact Nat.le_of_ble_eq_true rfl⟩) ⟨fun a U g mk q => by obtain ⟨q0, q1, q2, qK, q10, q11, q12, q13, q14, q15, q16, q17, q18, q19, q20, q21, q22, q23, q24, q25⟩ := q; exact ⟨q0, q1, q2, jG.calling g mk a qK, (jK7.calling g mk a q10), q11, q12, q13, q14, q15, q16, q17, q18, q19, q20, q21, q22, q23, q24, q25⟩, hh_49.recv (C := RX11) (T := TX11) (N := 19) hB13 rfl (by decide) hg_r0 hK, fun U hU hW => ⟨rfl, hU, hh_49.2.1, hG.step hW hU hh_49.1, (hK7.step hW hU hh_49.1), hg_r0, hg_r1, hg_js, hg_wk, hg_wi, hg_wz, hg_jnx, hg_jkf, hg_jks, hg_jun, hg_op, (hh_49.2.2.1.sub (L1 := [(r0, 13, 2, .ref js), (js, 6, 7, .int pv), (js, 6, 8, .int pu), (js, 6, 0, .ref wk), (js, 6, 1, .ref wi), (js, 6, 2, .ref wz), (js, 6, 3, .ref jnx), (js, 6, 4, .ref jkf), (js, 6, 5, .ref jks), (js, 6, 6, .ref jun), (r0, 13, 7, .ref op), (op, 1, 2, .int sz)]) [4, 5, 6, 7, 8, 9, 10, 11, 12, 13, 15, 16] rfl), (hh_49.2.2.2.2.2.2.2.1.sub (L1 := [(wk, 140, 1502, ca 1, fk), (wi, 141, 1502, ca 1, fi), (wz, 142, 1502, ca 1, fz), (jnx, 143, 1502, ca 1, fn), (jkf, 144, 1502, ca 1, fa), (jks, 145, 1502, ca 1, fs), (jun, 146, 3000, ca 1, fu)]) [0, 1, 2, 3, 4, 5, 6] rfl), (hh_49.2.2.2.2.2.2.2.2.sub (L1 := [(jFl, jLs dC dI ca G0 3 none wl), (jFcd, jCD dC dI ca G0 none tq), (jFkd, jKD dC dI ca G0 none kq), (jFqd, jQD dC dI ca G0 none qq)]) [3, 4, 5, 6] rfl), ⟨(by first | omega | rfl | assumption | exact hCz9), (by first | omega | rfl | assumption | exact hCz9), (by first | omega | rfl | assumption | exact hCz9), (by first | omega | rfl | assumption | exact hCz9), (by first | assumption | exact hCz9 | omega), (by first | assumption | exact hCz9 | omega), (by first | assumption | exact hCz9 | omega), (by first | omega | rfl | assumption | exact hCz9), (by first | omega | rfl | assumption | exact hCz9), (by first | assumption | exact hCz9 | omega)⟩⟩⟩ rfl rfl hl.1 rfl (lv_room (Nat.le_of_ble_eq_true rfl)) dX11_request_168 ⟨by rw [hRc]; show _ + 0 ≤ _; omega, by rw [hRs]; show _ + 0 ≤ _; omega⟩) hh_49.1 (fun q _ h => h) (fun q h => h) (fun r_140 u_139 t_139 H_139 locs_139 ht_139 hvm_139 hr_140 hb_139 hz_139 hk_139 hS_139 => ?_)
              obtain ⟨gQ_139, rfl⟩ : ∃ z, z = u_139 := ⟨_, rfl⟩
              rw [ht_139] at hb_139
              obtain ⟨hb_139, hbE_139⟩ := hb_139
              obtain ⟨hb_1391, hb_1392, hb_1393, hb_1394, hb_1395⟩ := hb_139
              have hh_139 : jSt (dC, dI) B base G0 G0 EX11_requestT s.heap 0 0 [(r0, 13, 4, .ref bo), (bo, 2, 1, .int pc), (bo, 2, 0, .ref pa), (r0, 13, 3, .ref ou), (r0, 13, 2, .ref js), (js, 6, 7, .int pv), (js, 6, 8, .int pu), (js, 6, 0, .ref wk), (js, 6, 1, .ref wi), (js, 6, 2, .ref wz), (js, 6, 3, .ref jnx), (js, 6, 4, .ref jkf), (js, 6, 5, .ref jks), (js, 6, 6, .ref jun), (r0, 13, 11, .int pz), (r0, 13, 7, .ref op), (op, 1, 2, .int sz), (r0, 13, 8, .ref wt_), (wt_, 1, 2, .int wn)] [(wk, 140, 1502, ca 1, fk), (wi, 141, 1502, ca 1, fi), (wz, 142, 1502, ca 1, fz), (jnx, 143, 1502, ca 1, fn), (jkf, 144, 1502, ca 1, fa), (jks, 145, 1502, ca 1, fs), (jun, 146, 3000, ca 1, fu)] [(jFl, jLs dC dI ca G0 3 none wl), (jFcd, jCD dC dI ca G0 none tq), (jFkd, jKD dC dI ca G0 none kq), (jFqd, jQD dC dI ca G0 none gQ_139), ([(2, 0), (2, 1)], jOl (dC, dI) G0 2 [bo, ou] s.heap), (jFy, jYb dC dI G0), (jFs11, jSef dC dI G0)] H_139 locs_139 := (((hh_49.call hb_1391 hb_1392 hb_1393 hb_1394 hS_139 rfl (L1 := [(r0, 13, 4, .ref bo), (bo, 2, 1, .int pc), (bo, 2, 0, .ref pa), (r0, 13, 3, .ref ou), (r0, 13, 2, .ref js), (js, 6, 7, .int pv), (js, 6, 8, .int pu), (js, 6, 0, .ref wk), (js, 6, 1, .ref wi), (js, 6, 2, .ref wz), (js, 6, 3, .ref jnx), (js, 6, 4, .ref jkf), (js, 6, 5, .ref jks), (js, 6, 6, .ref jun), (r0, 13, 11, .int pz), (r0, 13, 7, .ref op), (op, 1, 2, .int sz), (r0, 13, 8, .ref wt_), (wt_, 1, 2, .int wn)]) [0, 1, 2, 3, 4, 5, 6, 7, 8, 9, 10, 11, 12, 13, 14, 15, 16, 17, 18] rfl rfl (M1 := [(wk, 140, 1502, ca 1, fk), (wi, 141, 1502, ca 1, fi), (wz, 142, 1502, ca 1, fz), (jnx, 143, 1502, ca 1, fn), (jkf, 144, 1502, ca 1, fa), (jks, 145, 1502, ca 1, fs), (jun, 146, 3000, ca 1, fu)]) [0, 1, 2, 3, 4, 5, 6] rfl rfl (I1 := [([(2, 0), (2, 1)], jOl (dC, dI) G0 2 [bo, ou] s.heap), (jFy, jYb dC dI G0), (jFs11, jSef dC dI G0)]) [0, 1, 2] rfl rfl).more hb_1395)).addIs hbE_139
              clear hh_49 ht_139 hvm_139 hz_139 hk_139 hS_139 hb_1391 hb_1392 hb_1393 hb_1394 hb_1395
              clear  hbE_139
              obtain ⟨hr_140b, hr_140p⟩ := hr_140
              have hr_140' := jb_01 hr_140b
              try clear hsz_139 htt_139 hrc_139 hrs_139
              have hsz_141 := hh_139.2.2.2.2.2.1
              have htt_141 := hh_139.2.2.2.2.2.2.1
              refine W.room (fun hrc_141 hrs_141 => ?_)
              refine va_callv (A0 := jA base) (H0 := s.heap) (va_runV (As := [.ref r1, .int r_140]) (rest := []) ⟨hx, hb, hml, hown, hts⟩ (uX11_answerOrWaitT l dC dI ca base B hB hAp hB1 hB2 hB3 hB4 hB5 hB7 hB8 hB9 hB10 hB11 hB13 hB17 hB101 hB102 hB132 hB171 hB172 hB176 hB196 hB199 hB210 hB214 hB222 hB280 hB286 hB287 hB288 hB313 G0 H_139 r0 r1 r_140 bo pc pa n_pa ou wt_ wn wl kq gQ_139 LC LS) (cwV 2 hts (jgV (jWr_29 _ (List.mem_of_getElem? (i := 15) rfl)) (jWr_29 _ (List.mem_of_getElem? (i := 16) rfl)) (jWr_29 _ (List.mem_of_getElem? (i := 17) rfl)) (jWr_1 _ (List.mem_of_getElem? (i := 2) rfl)) (jWr_29 _ (List.mem_of_getElem? (i := 18) rfl))) rfl rfl rfl (by decide +kernel) ⟨by rw [← hR]; exact Nat.le_of_ble_eq_true rfl, by rw [← hR]; exact Nat.le_of_ble_eq_true rfl⟩) ⟨fun a U g mk q => by obtain ⟨q0, q1, q2, qK, q10, q11, q12, q13, q14, q15, q16, q17, q18, q19, q20, q21, q22⟩ := q; exact ⟨q0, q1, q2, jG.calling g mk a qK, (va_K.moved (Vm.Alike.refl U.vm) q10), (jK5.moved (Vm.Alike.refl U.vm) q11), (jK7.calling g mk a q12), q13, q14, q15, q16, q17, q18, q19, q20, q21, q22⟩, hh_139.recv (C := RX11) (T := TX11) (N := 19) hB13 rfl (by decide) hg_r0 hK, fun U hU hW => ⟨rfl, hU, hh_139.2.1, hG.step hW hU hh_139.1, va_K.moved hW.alike hK2, jK5.moved hW.alike hK5, (hK7.step hW hU hh_139.1), hg_r0, hg_r1, (hr_140b), hg_bo, hg_pa, hg_ou, hg_wt_, (hh_139.2.2.1.sub (L1 := [(r0, 13, 4, .ref bo), (bo, 2, 1, .int pc), (bo, 2, 0, .ref pa), (r0, 13, 3, .ref ou), (r0, 13, 8, .ref wt_), (wt_, 1, 2, .int wn)]) [0, 1, 2, 3, 17, 18] rfl), (hh_139.2.2.2.2.2.2.2.2.sub (L1 := [(jFy, jYb dC dI G0), (jFs11, jSef dC dI G0), (jFl, jLs dC dI ca G0 3 none wl), (jFkd, jKD dC dI ca G0 none kq), (jFqd, jQD dC dI ca G0 none gQ_139)]) [5, 6, 0, 2, 3] rfl), (by omega), (by omega), ⟨(by first | omega | rfl | assumption | fail), (by first | omega | rfl | assumption | fail), (by first | omega | rfl | assumption | fail), (by first | omega | rfl | assumption | fail), (by first | assumption | fail | omega)⟩⟩⟩ rfl rfl hl.1 rfl (lv_room (Nat.le_of_ble_eq_true rfl)) dX11_request_171 ⟨by rw [hRc]; omega, by rw [hRs]; omega⟩) hh_139.1 (fun q _ h => h) (fun q h => h) (fun u_141 t_141 H_141 locs_141 ht_141 hvm_141 hr_142 hb_141 hz_141 hk_141 hS_141 => ?_)
              obtain ⟨qc_141, qa_141, m_qa_141, qw_141, G_141⟩ := u_141
              rw [ht_141] at hb_141
              simp only at hb_141
              obtain ⟨⟨hb_1411, hb_1412, hb_1413, hb_1414, hb_1415, hb_1416⟩, hgq_141_0, hN_141, hbO_141, hbE_141⟩ := hb_141
              have hW_141 := hN_141
              have hh_141 : jSt (dC, dI) B base G0 G_141 EX11_requestT s.heap (0 + ((m_qa_141 - n_pa) / 16 + 1)) (0 + (2 * (m_qa_141 - n_pa) + 40)) [(bo, 2, 1, .int qc_141), (bo, 2, 0, .ref qa_141), (r0, 13, 4, .ref bo), (r0, 13, 3, .ref ou), (r0, 13, 2, .ref js), (js, 6, 7, .int pv), (js, 6, 8, .int pu), (js, 6, 0, .ref wk), (js, 6, 1, .ref wi), (js, 6, 2, .ref wz), (js, 6, 3, .ref jnx), (js, 6, 4, .ref jkf), (js, 6, 5, .ref jks), (js, 6, 6, .ref jun), (r0, 13, 11, .int pz), (r0, 13, 7, .ref op), (r0, 13, 8, .ref wt_)] [(wk, 140, 1502, ca 1, fk), (wi, 141, 1502, ca 1, fi), (wz, 142, 1502, ca 1, fz), (jnx, 143, 1502, ca 1, fn), (jkf, 144, 1502, ca 1, fa), (jks, 145, 1502, ca 1, fs), (jun, 146, 3000, ca 1, fu)] [(jFcd, jCD dC dI ca G0 none tq)] H_141 locs_141 := (hh_139.callG hb_1411 hb_1412 hb_1413 hb_1414 hb_1415 hS_141 rfl (L1 := [(r0, 13, 4, .ref bo), (r0, 13, 3, .ref ou), (r0, 13, 2, .ref js), (js, 6, 7, .int pv), (js, 6, 8, .int pu), (js, 6, 0, .ref wk), (js, 6, 1, .ref wi), (js, 6, 2, .ref wz), (js, 6, 3, .ref jnx), (js, 6, 4, .ref jkf), (js, 6, 5, .ref jks), (js, 6, 6, .ref jun), (r0, 13, 11, .int pz), (r0, 13, 7, .ref op), (r0, 13, 8, .ref wt_)]) [0, 3, 4, 5, 6, 7, 8, 9, 10, 11, 12, 13, 14, 15, 17] rfl rfl (M1 := [(wk, 140, 1502, ca 1, fk), (wi, 141, 1502, ca 1, fi), (wz, 142, 1502, ca 1, fz), (jnx, 143, 1502, ca 1, fn), (jkf, 144, 1502, ca 1, fa), (jks, 145, 1502, ca 1, fs), (jun, 146, 3000, ca 1, fu)]) [0, 1, 2, 3, 4, 5, 6] rfl rfl (I1 := [(jFcd, jCD dC dI ca G0 none tq)]) [1] rfl rfl).more hb_1416
              have hNn_141 : (jNk [0, 1, 2, 3, 4, 5, 6, 7, 8, 9, 10, 11, 12, 13, 14, 15, 16, 17, 175]) G0 G_141 := (jNk.rf).tr hN_141
              have hg_143 := hb_1412 _ _ hg_r0
              have hg_144 := hb_1412 _ _ hg_r1
              have hg_145 := hb_1412 _ _ hg_bo
              have hg_146 := hb_1412 _ _ hg_ou
              have hg_147 := hb_1412 _ _ hg_js
              have hg_148 := hb_1412 _ _ hg_wk
              have hg_149 := hb_1412 _ _ hg_wi
              have hg_150 := hb_1412 _ _ hg_wz
              have hg_151 := hb_1412 _ _ hg_jnx
              have hg_152 := hb_1412 _ _ hg_jkf
              have hg_153 := hb_1412 _ _ hg_jks
              have hg_154 := hb_1412 _ _ hg_jun
              have hg_155 := hb_1412 _ _ hg_op
              have hg_156 := hb_1412 _ _ hg_wt_
              have hd_157 := jCD.grow (hh_141.iv 0 rfl) hb_1412 hN_141 (by decide)
              have hh_158 := hh_141.sub (L1 := [(bo, 2, 1, .int qc_141), (bo, 2, 0, .ref qa_141), (r0, 13, 4, .ref bo), (r0, 13, 3, .ref ou), (r0, 13, 2, .ref js), (js, 6, 7, .int pv), (js, 6, 8, .int pu), (js, 6, 0, .ref wk), (js, 6, 1, .ref wi), (js, 6, 2, .ref wz), (js, 6, 3, .ref jnx), (js, 6, 4, .ref jkf), (js, 6, 5, .ref jks), (js, 6, 6, .ref jun), (r0, 13, 11, .int pz), (r0, 13, 7, .ref op), (r0, 13, 8, .ref wt_)]) [0, 1, 2, 3, 4, 5, 6, 7, 8, 9, 10, 11, 12, 13, 14, 15, 16] rfl (M1 := [(wk, 140, 1502, ca 1, fk), (wi, 141, 1502, ca 1, fi), (wz, 142, 1502, ca 1, fz), (jnx, 143, 1502, ca 1, fn), (jkf, 144, 1502, ca 1, fa), (jks, 145, 1502, ca 1, fs), (jun, 146, 3000, ca 1, fu)]) [0, 1, 2, 3, 4, 5, 6] rfl (I1 := []) [] rfl
              clear hh_141
              have hh_159 := hh_158.addI (jCD.ie hd_157)
              clear hh_158
              have hh_160 := hh_159.addIs hbE_141
              have hd_161 := jOl.trL (hh_139.iv 4 rfl) hh_139.2.2.2.2.1 hbO_141 (by simp)
              have hh_162 := hh_160.addI (jOl.ie (dC := dC) (dI := dI) (G0 := G0) (k := 2) (rs := [bo, ou]) (H0 := s.heap) (F := [(2, 0), (2, 1)]) (C := RX0) (T := TX0) (N := 2) rfl (by decide) hh_160.2.2.2.2.1 (hd_161))
              clear hh_160
              try simp only at hr_142
              obtain ⟨hr_142_0, hr_142_1, hr_142_2, hr_142_3, hr_142_4, hr_142_5⟩ := hr_142
              have hh_163 := hh_162.wk (zc1 := (m_qa_141 - n_pa) / 16 + 2) (zs1 := 2 * (m_qa_141 - n_pa) + 40 + pu.toInt.toNat) (by omega) (by omega)
              clear hh_162
              try clear hsz_141 htt_141 hrc_141 hrs_141
              try clear hb_1414 hb_1415
              refine lv_goto (tgt := 212) hx hb dX11_request_174 (by decide) ?_
              have hqz9 : (pz.toInt : Int) = jdRq T9 pv.toInt pz.toInt := by have h9 : jdRq T9 pv.toInt pz.toInt = _ := jdRq.e hm9 (by omega) (by rw [← hr_47p_1]; omega); omega
              try clear hsz_141 htt_141 hrc_141 hrs_141
              have hsz_164 := hh_163.2.2.2.2.2.1
              have htt_164 := hh_163.2.2.2.2.2.2.1
              refine W.room (fun hrc_164 hrs_164 => ?_)
              refine W.widen (k := LC - s.heap.size) (n := LS - jTot s.heap) (by omega) (by omega) ?_
              rw [hQ]
              exact W.vret hx hb hr (fun t ht hW => ⟨⟨(qc_141, pz, qa_141, m_qa_141, qw_141, gQ_139, G_141), rfl, by skip; (try dsimp only); refine ⟨(by first | (with_reducible assumption) | omega | exact hqz9), (by first | (with_reducible assumption) | omega | exact hqz9), (by first | (with_reducible assumption) | omega | exact hqz9), (by first | (with_reducible assumption) | omega | exact hqz9), (by first | (with_reducible assumption) | omega | exact hqz9), (by first | (with_reducible assumption) | omega | exact hqz9), ?_⟩; rw [jwRq.go hm9 (by omega) (by rw [← hin9]; omega) (by rw [← hr_47p_1]; omega) (by rw [← hr_50p_1]; omega)]; exact hCz9.goal hAq9 hr_140p hr_142_5, ⟨hh_163.ra (by first | (simp only; omega) | omega) (by first | (simp only; omega) | omega) (M1 := [(bo, 2, 1, .int qc_141), (r0, 13, 11, .int pz), (bo, 2, 0, .ref qa_141)]) [0, 14, 1] rfl ht, hgq_141_0, hNn_141, by rw [ht]; exact hh_163.iv 0 rfl, by rw [ht]; exact hh_163.2.2.2.2.2.2.2.2.sub (L1 := [(jFy, jYb dC dI G_141), (jFs11, jSef dC dI G_141), (jFl, jLs dC dI ca G_141 3 none qw_141), (jFcd, jCD dC dI ca G_141 none tq), (jFkd, jKD dC dI ca G_141 none kq), (jFqd, jQD dC dI ca G_141 none gQ_139)]) [1, 2, 3, 6, 4, 5] rfl⟩⟩, by rw [ht]; try exact hh_163.1.1, fun q h9 hq => by rw [ht]; try exact hh_163.1.2.1 q h9 hq⟩) hh_163.1.2.2 dX11_request_212
          · skip
            have c_48' : r_47.toInt ≠ 0 := jb_eq_n (rfl) ((by decide)) c_48
            first | (have hr_3_2q := hr_3_2.resolve_left (by omega); clear hr_3_2) | (have hr_3_2q := hr_3_2.resolve_right (by omega); clear hr_3_2) | skip
            first | (have hr_5p_0q := hr_5p_0.resolve_left (by omega); clear hr_5p_0) | (have hr_5p_0q := hr_5p_0.resolve_right (by omega); clear hr_5p_0) | skip
            first | (have hr_47p_0q := hr_47p_0.resolve_left (by omega); clear hr_47p_0) | (have hr_47p_0q := hr_47p_0.resolve_right (by omega); clear hr_47p_0) | try clear hr_47p_0
            refine lv_aload_n hx hb dX11_request_120 rfl (lv_at hl 2 rfl) ?_
            refine lv_iconst (v := 2) hx hb dX11_request_121 (by decide) ?_
            refine j7_put hx hb hown hK hh_46 hB hAp hB13 (C := RX11) (T := TX11) (N := 19) rfl (by decide) hg_r0 (i := 11) (by decide) hly_13_11 rfl hlk_77 rfl (ty := .int) (v := .int 2) (by decide +kernel) rfl rfl (⟨_, rfl, by omega, by omega⟩) rfl (L1 := [(r0, 13, 4, .ref bo), (bo, 2, 1, .int pc), (bo, 2, 0, .ref pa), (r0, 13, 3, .ref ou), (r0, 13, 2, .ref js), (js, 6, 7, .int pv), (js, 6, 8, .int pu), (js, 6, 0, .ref wk), (js, 6, 1, .ref wi), (js, 6, 2, .ref wz), (js, 6, 3, .ref jnx), (js, 6, 4, .ref jkf), (js, 6, 5, .ref jks), (js, 6, 6, .ref jun), (r0, 13, 7, .ref op), (op, 1, 2, .int sz), (r0, 13, 8, .ref wt_), (wt_, 1, 2, .int wn)]) [0, 1, 2, 3, 4, 5, 6, 7, 8, 9, 10, 11, 12, 13, 15, 16, 17, 18] rfl rfl rfl dX11_request_122 (fun H_165 locs_165 hh_165 => ?_)
            clear hh_46
            refine lv_aload_n hx hb dX11_request_125 rfl (lv_at hl 2 rfl) ?_
            refine lv_aload_n hx hb dX11_request_126 rfl (lv_at hl 3 rfl) ?_
            refine j_ldcSw hx hb hown rstr289 dX11_request_127 ?_
            try clear hsz_46 htt_46 hrc_46 hrs_46
            have hsz_166 := hh_165.2.2.2.2.2.1
            have htt_166 := hh_165.2.2.2.2.2.2.1
            refine W.room (fun hrc_166 hrs_166 => ?_)
            refine va_callv (A0 := jA base) (H0 := s.heap) (va_runV (As := [.ref r1, .ref str289]) (rest := []) ⟨hx, hb, hml, hown, hts⟩ (uX11_beginAnswer l dC dI ca base B hB hAp hB2 hB10 hB13 hB17 hB196 hB199 G0 H_165 r0 r1 str289 10 bo pc pa n_pa LC LS) (cwV 2 hts (jgV (jWr_26 _ (List.mem_of_getElem? (i := 7) rfl)) (jWr_26 _ (List.mem_of_getElem? (i := 8) rfl)) (jWr_26 _ (List.mem_of_getElem? (i := 9) rfl)) (jWr_1 _ (List.mem_of_getElem? (i := 2) rfl)) (jWr_26 _ (List.mem_of_getElem? (i := 10) rfl))) rfl rfl rfl (by decide +kernel) ⟨by rw [← hR]; exact Nat.le_of_ble_eq_true rfl, by rw [← hR]; exact Nat.le_of_ble_eq_true rfl⟩) ⟨fun a U g mk q => by obtain ⟨q0, q1, q2, qK, q10, q11, q12, q13, q14, q15, q16, q17⟩ := q; exact ⟨q0, q1, q2, jG.calling g mk a qK, (q10.moved (Vm.Alike.refl U.vm)), q11, q12, q13, q14, q15, q16, q17⟩, hh_165.recv (C := RX11) (T := TX11) (N := 19) hB13 rfl (by decide) hg_r0 hK, fun U hU hW => ⟨rfl, hU, hh_165.2.1, hG.step hW hU hh_165.1, (hstr289.moved hW.alike).kept hh_165.1.2.1, hg_r1, hg_r0, hg_bo, hg_pa, (hh_165.2.2.1.sub (L1 := [(r0, 13, 4, .ref bo), (bo, 2, 1, .int pc), (bo, 2, 0, .ref pa)]) [1, 2, 3] rfl), (hh_165.2.2.2.2.2.2.2.2.sub (L1 := [(jFy, jYb dC dI G0)]) [1] rfl), (by omega), (by omega), ⟨(by first | omega | rfl | assumption | fail), (by first | omega | rfl | assumption | fail), (by first | omega | rfl | assumption | fail), (by first | omega | rfl | assumption | fail), (by first | assumption | fail | omega), (by first | omega | rfl | assumption | fail)⟩⟩⟩ rfl rfl hl.1 rfl (lv_room (Nat.le_of_ble_eq_true rfl)) dX11_request_130 ⟨by rw [hRc]; omega, by rw [hRs]; omega⟩) hh_165.1 (fun q _ h => h) (fun q h => h) (fun u_166 t_166 H_166 locs_166 ht_166 hvm_166 hr_167 hb_166 hz_166 hk_166 hS_166 => ?_)
            obtain ⟨qc_166, qa_166, m_qa_166, G_166⟩ := u_166
            rw [ht_166] at hb_166
            simp only at hb_166
            obtain ⟨⟨hb_1661, hb_1662, hb_1663, hb_1664, hb_1665, hb_1666⟩, hgq_166_0, hN_166, hbO_166, hbE_166⟩ := hb_166
            have hW_166 := hN_166
            have hh_166 : jSt (dC, dI) B base G0 G_166 EX11_requestT s.heap (0 + ((m_qa_166 - n_pa) / 16)) (0 + (2 * (m_qa_166 - n_pa))) [(bo, 2, 1, .int qc_166), (bo, 2, 0, .ref qa_166), (r0, 13, 11, .int 2), (r0, 13, 4, .ref bo), (r0, 13, 3, .ref ou), (r0, 13, 2, .ref js), (js, 6, 7, .int pv), (js, 6, 8, .int pu), (js, 6, 0, .ref wk), (js, 6, 1, .ref wi), (js, 6, 2, .ref wz), (js, 6, 3, .ref jnx), (js, 6, 4, .ref jkf), (js, 6, 5, .ref jks), (js, 6, 6, .ref jun), (r0, 13, 7, .ref op), (op, 1, 2, .int sz), (r0, 13, 8, .ref wt_), (wt_, 1, 2, .int wn)] [(wk, 140, 1502, ca 1, fk), (wi, 141, 1502, ca 1, fi), (wz, 142, 1502, ca 1, fz), (jnx, 143, 1502, ca 1, fn), (jkf, 144, 1502, ca 1, fa), (jks, 145, 1502, ca 1, fs), (jun, 146, 3000, ca 1, fu)] [(jFs11, jSef dC dI G0), (jFl, jLs dC dI ca G0 3 none wl), (jFcd, jCD dC dI ca G0 none tq), (jFkd, jKD dC dI ca G0 none kq), (jFqd, jQD dC dI ca G0 none qq)] H_166 locs_166 := (hh_165.callG hb_1661 hb_1662 hb_1663 hb_1664 hb_1665 hS_166 rfl (L1 := [(r0, 13, 11, .int 2), (r0, 13, 4, .ref bo), (r0, 13, 3, .ref ou), (r0, 13, 2, .ref js), (js, 6, 7, .int pv), (js, 6, 8, .int pu), (js, 6, 0, .ref wk), (js, 6, 1, .ref wi), (js, 6, 2, .ref wz), (js, 6, 3, .ref jnx), (js, 6, 4, .ref jkf), (js, 6, 5, .ref jks), (js, 6, 6, .ref jun), (r0, 13, 7, .ref op), (op, 1, 2, .int sz), (r0, 13, 8, .ref wt_), (wt_, 1, 2, .int wn)]) [0, 1, 4, 5, 6, 7, 8, 9, 10, 11, 12, 13, 14, 15, 16, 17, 18] rfl rfl (M1 := [(wk, 140, 1502, ca 1, fk), (wi, 141, 1502, ca 1, fi), (wz, 142, 1502, ca 1, fz), (jnx, 143, 1502, ca 1, fn), (jkf, 144, 1502, ca 1, fa), (jks, 145, 1502, ca 1, fs), (jun, 146, 3000, ca 1, fu)]) [0, 1, 2, 3, 4, 5, 6] rfl rfl (I1 := [(jFs11, jSef dC dI G0), (jFl, jLs dC dI ca G0 3 none wl), (jFcd, jCD dC dI ca G0 none tq), (jFkd, jKD dC dI ca G0 none kq), (jFqd, jQD dC dI ca G0 none qq)]) [2, 3, 4, 5, 6] rfl rfl).more hb_1666
            have hNn_166 : (jNk [0, 1, 2, 3, 4, 5, 6, 7, 8, 9, 10, 11, 12, 13, 14, 15, 16, 17, 175]) G0 G_166 := (jNk.rf).tr hN_166
            have hg_168 := hb_1662 _ _ hg_r0
            have hg_169 := hb_1662 _ _ hg_r1
            have hg_170 := hb_1662 _ _ hg_bo
            have hg_171 := hb_1662 _ _ hg_ou
            have hg_172 := hb_1662 _ _ hg_js
            have hg_173 := hb_1662 _ _ hg_wk
            have hg_174 := hb_1662 _ _ hg_wi
            have hg_175 := hb_1662 _ _ hg_wz
            have hg_176 := hb_1662 _ _ hg_jnx
            have hg_177 := hb_1662 _ _ hg_jkf
            have hg_178 := hb_1662 _ _ hg_jks
            have hg_179 := hb_1662 _ _ hg_jun
            have hg_180 := hb_1662 _ _ hg_op
            have hg_181 := hb_1662 _ _ hg_wt_
            have hd_182 := jSef.grow (hh_166.iv 0 rfl) hb_1662 hN_166 (by decide)
            have hh_183 := hh_166.sub (L1 := [(bo, 2, 1, .int qc_166), (bo, 2, 0, .ref qa_166), (r0, 13, 11, .int 2), (r0, 13, 4, .ref bo), (r0, 13, 3, .ref ou), (r0, 13, 2, .ref js), (js, 6, 7, .int pv), (js, 6, 8, .int pu), (js, 6, 0, .ref wk), (js, 6, 1, .ref wi), (js, 6, 2, .ref wz), (js, 6, 3, .ref jnx), (js, 6, 4, .ref jkf), (js, 6, 5, .ref jks), (js, 6, 6, .ref jun), (r0, 13, 7, .ref op), (op, 1, 2, .int sz), (r0, 13, 8, .ref wt_), (wt_, 1, 2, .int wn)]) [0, 1, 2, 3, 4, 5, 6, 7, 8, 9, 10, 11, 12, 13, 14, 15, 16, 17, 18] rfl (M1 := [(wk, 140, 1502, ca 1, fk), (wi, 141, 1502, ca 1, fi), (wz, 142, 1502, ca 1, fz), (jnx, 143, 1502, ca 1, fn), (jkf, 144, 1502, ca 1, fa), (jks, 145, 1502, ca 1, fs), (jun, 146, 3000, ca 1, fu)]) [0, 1, 2, 3, 4, 5, 6] rfl (I1 := [(jFl, jLs dC dI ca G0 3 none wl), (jFcd, jCD dC dI ca G0 none tq), (jFkd, jKD dC dI ca G0 none kq), (jFqd, jQD dC dI ca G0 none qq)]) [1, 2, 3, 4] rfl
            clear hh_166
            have hh_184 := hh_183.addI (jSef.ie hd_182)
            clear hh_183
            have hd_185 := jLs.grow (hh_184.iv 1 rfl) hb_1662 hN_166 (by decide)
            have hh_186 := hh_184.sub (L1 := [(bo, 2, 1, .int qc_166), (bo, 2, 0, .ref qa_166), (r0, 13, 11, .int 2), (r0, 13, 4, .ref bo), (r0, 13, 3, .ref ou), (r0, 13, 2, .ref js), (js, 6, 7, .int pv), (js, 6, 8, .int pu), (js, 6, 0, .ref wk), (js, 6, 1, .ref wi), (js, 6, 2, .ref wz), (js, 6, 3, .ref jnx), (js, 6, 4, .ref jkf), (js, 6, 5, .ref jks), (js, 6, 6, .ref jun), (r0, 13, 7, .ref op), (op, 1, 2, .int sz), (r0, 13, 8, .ref wt_), (wt_, 1, 2, .int wn)]) [0, 1, 2, 3, 4, 5, 6, 7, 8, 9, 10, 11, 12, 13, 14, 15, 16, 17, 18] rfl (M1 := [(wk, 140, 1502, ca 1, fk), (wi, 141, 1502, ca 1, fi), (wz, 142, 1502, ca 1, fz), (jnx, 143, 1502, ca 1, fn), (jkf, 144, 1502, ca 1, fa), (jks, 145, 1502, ca 1, fs), (jun, 146, 3000, ca 1, fu)]) [0, 1, 2, 3, 4, 5, 6] rfl (I1 := [(jFs11, jSef dC dI G_166), (jFcd, jCD dC dI ca G0 none tq), (jFkd, jKD dC dI ca G0 none kq), (jFqd, jQD dC dI ca G0 none qq)]) [0, 2, 3, 4] rfl
            clear hh_184
            have hh_187 := hh_186.addI (jLs.ie hd_185)
            clear hh_186
            have hd_188 := jCD.grow (hh_187.iv 2 rfl) hb_1662 hN_166 (by decide)
            have hh_189 := hh_187.sub (L1 := [(bo, 2, 1, .int qc_166), (bo, 2, 0, .ref qa_166), (r0, 13, 11, .int 2), (r0, 13, 4, .ref bo), (r0, 13, 3, .ref ou), (r0, 13, 2, .ref js), (js, 6, 7, .int pv), (js, 6, 8, .int pu), (js, 6, 0, .ref wk), (js, 6, 1, .ref wi), (js, 6, 2, .ref wz), (js, 6, 3, .ref jnx), (js, 6, 4, .ref jkf), (js, 6, 5, .ref jks), (js, 6, 6, .ref jun), (r0, 13, 7, .ref op), (op, 1, 2, .int sz), (r0, 13, 8, .ref wt_), (wt_, 1, 2, .int wn)]) [0, 1, 2, 3, 4, 5, 6, 7, 8, 9, 10, 11, 12, 13, 14, 15, 16, 17, 18] rfl (M1 := [(wk, 140, 1502, ca 1, fk), (wi, 141, 1502, ca 1, fi), (wz, 142, 1502, ca 1, fz), (jnx, 143, 1502, ca 1, fn), (jkf, 144, 1502, ca 1, fa), (jks, 145, 1502, ca 1, fs), (jun, 146, 3000, ca 1, fu)]) [0, 1, 2, 3, 4, 5, 6] rfl (I1 := [(jFl, jLs dC dI ca G_166 3 none wl), (jFs11, jSef dC dI G_166), (jFkd, jKD dC dI ca G0 none kq), (jFqd, jQD dC dI ca G0 none qq)]) [0, 1, 3, 4] rfl
            clear hh_187
            have hh_190 := hh_189.addI (jCD.ie hd_188)
            clear hh_189
            have hd_191 := jKD.grow (ca := ca) (hh_190.iv 3 rfl) hb_1662 hW_166 (by decide)
            have hh_192 := hh_190.sub (L1 := [(bo, 2, 1, .int qc_166), (bo, 2, 0, .ref qa_166), (r0, 13, 11, .int 2), (r0, 13, 4, .ref bo), (r0, 13, 3, .ref ou), (r0, 13, 2, .ref js), (js, 6, 7, .int pv), (js, 6, 8, .int pu), (js, 6, 0, .ref wk), (js, 6, 1, .ref wi), (js, 6, 2, .ref wz), (js, 6, 3, .ref jnx), (js, 6, 4, .ref jkf), (js, 6, 5, .ref jks), (js, 6, 6, .ref jun), (r0, 13, 7, .ref op), (op, 1, 2, .int sz), (r0, 13, 8, .ref wt_), (wt_, 1, 2, .int wn)]) [0, 1, 2, 3, 4, 5, 6, 7, 8, 9, 10, 11, 12, 13, 14, 15, 16, 17, 18] rfl (M1 := [(wk, 140, 1502, ca 1, fk), (wi, 141, 1502, ca 1, fi), (wz, 142, 1502, ca 1, fz), (jnx, 143, 1502, ca 1, fn), (jkf, 144, 1502, ca 1, fa), (jks, 145, 1502, ca 1, fs), (jun, 146, 3000, ca 1, fu)]) [0, 1, 2, 3, 4, 5, 6] rfl (I1 := [(jFcd, jCD dC dI ca G_166 none tq), (jFl, jLs dC dI ca G_166 3 none wl), (jFs11, jSef dC dI G_166), (jFqd, jQD dC dI ca G0 none qq)]) [0, 1, 2, 4] rfl
            clear hh_190
            have hh_193 := hh_192.addI (jKD.ie hd_191)
            clear hh_192
            have hd_194 := jQD.grow (ca := ca) (hh_193.iv 4 rfl) hb_1662 hW_166 (by decide)
            have hh_195 := hh_193.sub (L1 := [(bo, 2, 1, .int qc_166), (bo, 2, 0, .ref qa_166), (r0, 13, 11, .int 2), (r0, 13, 4, .ref bo), (r0, 13, 3, .ref ou), (r0, 13, 2, .ref js), (js, 6, 7, .int pv), (js, 6, 8, .int pu), (js, 6, 0, .ref wk), (js, 6, 1, .ref wi), (js, 6, 2, .ref wz), (js, 6, 3, .ref jnx), (js, 6, 4, .ref jkf), (js, 6, 5, .ref jks), (js, 6, 6, .ref jun), (r0, 13, 7, .ref op), (op, 1, 2, .int sz), (r0, 13, 8, .ref wt_), (wt_, 1, 2, .int wn)]) [0, 1, 2, 3, 4, 5, 6, 7, 8, 9, 10, 11, 12, 13, 14, 15, 16, 17, 18] rfl (M1 := [(wk, 140, 1502, ca 1, fk), (wi, 141, 1502, ca 1, fi), (wz, 142, 1502, ca 1, fz), (jnx, 143, 1502, ca 1, fn), (jkf, 144, 1502, ca 1, fa), (jks, 145, 1502, ca 1, fs), (jun, 146, 3000, ca 1, fu)]) [0, 1, 2, 3, 4, 5, 6] rfl (I1 := [(jFkd, jKD dC dI ca G_166 none kq), (jFcd, jCD dC dI ca G_166 none tq), (jFl, jLs dC dI ca G_166 3 none wl), (jFs11, jSef dC dI G_166)]) [0, 1, 2, 3] rfl
            clear hh_193
            have hh_196 := hh_195.addI (jQD.ie hd_194)
            clear hh_195
            have hh_197 := hh_196.addIs hbE_166
            have hd_198 := jOl.trL (hh_165.iv 0 rfl) hh_165.2.2.2.2.1 hbO_166 (by simp)
            have hh_199 := hh_197.addI (jOl.ie (dC := dC) (dI := dI) (G0 := G0) (k := 2) (rs := [bo, ou]) (H0 := s.heap) (F := [(2, 0), (2, 1)]) (C := RX0) (T := TX0) (N := 2) rfl (by decide) hh_197.2.2.2.2.1 (hd_198))
            clear hh_197
            try simp only at hr_167
            obtain ⟨hr_167_0, hr_167_1, hr_167_2, hr_167_3, hr_167_4⟩ := hr_167
            have hh_200 := hh_199.wk (zc1 := (m_qa_166 - n_pa) / 16 + 2) (zs1 := 2 * (m_qa_166 - n_pa) + 40 + pu.toInt.toNat) (by omega) (by omega)
            clear hh_199
            try clear hsz_166 htt_166 hrc_166 hrs_166
            try clear hb_1664 hb_1665
            refine lv_aload_n hx hb dX11_request_133 rfl (lv_at hl 2 rfl) ?_
            refine j7_read hx hb hown hK (C := RX11) (T := TX11) (N := 19) rfl hly_13_4 hlk_35 (hh_200.at 3 rfl) dX11_request_134 ?_
            refine j_ldcSw hx hb hown rstr305 dX11_request_137 ?_
            try clear hsz_166 htt_166 hrc_166 hrs_166
            have hsz_201 := hh_200.2.2.2.2.2.1
            have htt_201 := hh_200.2.2.2.2.2.2.1
            refine W.room (fun hrc_201 hrs_201 => ?_)
            refine va_callv (A0 := jA base) (H0 := s.heap) (va_runV (As := [.ref str305]) (rest := []) ⟨hx, hb, hml, hown, hts⟩ (uX0_text l dC dI ca base B hB hAp hB2 hB196 G_166 H_166 bo str305 5 qc_166 qa_166 m_qa_166 LC LS) (cwV 1 hts (jgV (jWr_26 _ (List.mem_of_getElem? (i := 11) rfl)) (jWr_25 _ (List.mem_of_getElem? (i := 22) rfl)) (jWr_25 _ (List.mem_of_getElem? (i := 23) rfl)) (jWr_1 _ (List.mem_of_getElem? (i := 14) rfl)) (jWr_26 _ (List.mem_of_getElem? (i := 0) rfl))) rfl rfl rfl (by decide +kernel) ⟨by rw [← hR]; exact Nat.le_of_ble_eq_true rfl, by rw [← hR]; exact Nat.le_of_ble_eq_true rfl⟩) ⟨fun a U g mk q => by obtain ⟨q0, q1, q2, qK, q10, q11, q12, q13, q14⟩ := q; exact ⟨q0, q1, q2, jG.calling g mk a qK, (q10.moved (Vm.Alike.refl U.vm)), q11, q12, q13, q14⟩, hh_200.recv (C := RX0) (T := TX0) (N := 2) hB2 rfl (by decide) hg_170 hK, fun U hU hW => ⟨rfl, hU, hh_200.2.1, hG.step hW hU hh_200.1, (hstr305.moved hW.alike).kept hh_200.1.2.1, hg_170, hgq_166_0, (hh_200.2.2.1.sub (L1 := [(bo, 2, 1, .int qc_166), (bo, 2, 0, .ref qa_166)]) [0, 1] rfl), (by omega), (by omega), ⟨(by first | omega | rfl | assumption | fail), (by first | omega | rfl | assumption | fail), (by first | omega | rfl | assumption | fail), (by first | omega | rfl | assumption | fail), (by first | assumption | fail | omega), (by first | omega | rfl | assumption | fail)⟩⟩⟩ rfl rfl hl.1 rfl (lv_room (Nat.le_of_ble_eq_true rfl)) dX11_request_140 ⟨by rw [hRc]; omega, by rw [hRs]; omega⟩) hh_200.1 (fun q _ h => h) (fun q h => h) (fun u_201 t_201 H_201 locs_201 ht_201 hvm_201 hr_202 hb_201 hz_201 hk_201 hS_201 => ?_)
            obtain ⟨qc_201, qa_201, m_qa_201, G_201⟩ := u_201
            rw [ht_201] at hb_201
            simp only at hb_201
            obtain ⟨⟨hb_2011, hb_2012, hb_2013, hb_2014, hb_2015, hb_2016⟩, hgq_201_0, hN_201, hbO_201⟩ := hb_201
            have hW_201 := hN_201
            have hy_203 := hh_200.iv 1 rfl
            have hh_201 : jSt (dC, dI) B base G0 G_201 EX11_requestT s.heap (((m_qa_166 - n_pa) / 16 + 2) + ((m_qa_201 - m_qa_166) / 16)) ((2 * (m_qa_166 - n_pa) + 40 + pu.toInt.toNat) + (2 * (m_qa_201 - m_qa_166))) [(bo, 2, 1, .int qc_201), (bo, 2, 0, .ref qa_201), (r0, 13, 11, .int 2), (r0, 13, 4, .ref bo), (r0, 13, 3, .ref ou), (r0, 13, 2, .ref js), (js, 6, 7, .int pv), (js, 6, 8, .int pu), (js, 6, 0, .ref wk), (js, 6, 1, .ref wi), (js, 6, 2, .ref wz), (js, 6, 3, .ref jnx), (js, 6, 4, .ref jkf), (js, 6, 5, .ref jks), (js, 6, 6, .ref jun), (r0, 13, 7, .ref op), (op, 1, 2, .int sz), (r0, 13, 8, .ref wt_), (wt_, 1, 2, .int wn)] [(wk, 140, 1502, ca 1, fk), (wi, 141, 1502, ca 1, fi), (wz, 142, 1502, ca 1, fz), (jnx, 143, 1502, ca 1, fn), (jkf, 144, 1502, ca 1, fa), (jks, 145, 1502, ca 1, fs), (jun, 146, 3000, ca 1, fu)] [(jFqd, jQD dC dI ca G_166 none qq), (jFkd, jKD dC dI ca G_166 none kq), (jFcd, jCD dC dI ca G_166 none tq), (jFl, jLs dC dI ca G_166 3 none wl), (jFs11, jSef dC dI G_166)] H_201 locs_201 := (hh_200.callG hb_2011 hb_2012 hb_2013 hb_2014 hb_2015 hS_201 rfl (L1 := [(r0, 13, 11, .int 2), (r0, 13, 4, .ref bo), (r0, 13, 3, .ref ou), (r0, 13, 2, .ref js), (js, 6, 7, .int pv), (js, 6, 8, .int pu), (js, 6, 0, .ref wk), (js, 6, 1, .ref wi), (js, 6, 2, .ref wz), (js, 6, 3, .ref jnx), (js, 6, 4, .ref jkf), (js, 6, 5, .ref jks), (js, 6, 6, .ref jun), (r0, 13, 7, .ref op), (op, 1, 2, .int sz), (r0, 13, 8, .ref wt_), (wt_, 1, 2, .int wn)]) [2, 3, 4, 5, 6, 7, 8, 9, 10, 11, 12, 13, 14, 15, 16, 17, 18] rfl rfl (M1 := [(wk, 140, 1502, ca 1, fk), (wi, 141, 1502, ca 1, fi), (wz, 142, 1502, ca 1, fz), (jnx, 143, 1502, ca 1, fn), (jkf, 144, 1502, ca 1, fa), (jks, 145, 1502, ca 1, fs), (jun, 146, 3000, ca 1, fu)]) [0, 1, 2, 3, 4, 5, 6] rfl rfl (I1 := [(jFqd, jQD dC dI ca G_166 none qq), (jFkd, jKD dC dI ca G_166 none kq), (jFcd, jCD dC dI ca G_166 none tq), (jFl, jLs dC dI ca G_166 3 none wl), (jFs11, jSef dC dI G_166)]) [2, 3, 4, 5, 6] rfl rfl).more hb_2016
            have hNn_201 : (jNk [0, 1, 2, 3, 4, 5, 6, 7, 8, 9, 10, 11, 12, 13, 14, 15, 16, 17, 175]) G0 G_201 := (hNn_166).tr hN_201
            have hg_204 := hb_2012 _ _ hg_168
            have hg_205 := hb_2012 _ _ hg_169
            have hg_206 := hb_2012 _ _ hg_170
            have hg_207 := hb_2012 _ _ hg_171
            have hg_208 := hb_2012 _ _ hg_172
            have hg_209 := hb_2012 _ _ hg_173
            have hg_210 := hb_2012 _ _ hg_174
            have hg_211 := hb_2012 _ _ hg_175
            have hg_212 := hb_2012 _ _ hg_176
            have hg_213 := hb_2012 _ _ hg_177
            have hg_214 := hb_2012 _ _ hg_178
            have hg_215 := hb_2012 _ _ hg_179
            have hg_216 := hb_2012 _ _ hg_180
            have hg_217 := hb_2012 _ _ hg_181
            have hd_218 := jQD.grow (ca := ca) (hh_201.iv 0 rfl) hb_2012 hW_201 (by decide)
            have hh_219 := hh_201.sub (L1 := [(bo, 2, 1, .int qc_201), (bo, 2, 0, .ref qa_201), (r0, 13, 11, .int 2), (r0, 13, 4, .ref bo), (r0, 13, 3, .ref ou), (r0, 13, 2, .ref js), (js, 6, 7, .int pv), (js, 6, 8, .int pu), (js, 6, 0, .ref wk), (js, 6, 1, .ref wi), (js, 6, 2, .ref wz), (js, 6, 3, .ref jnx), (js, 6, 4, .ref jkf), (js, 6, 5, .ref jks), (js, 6, 6, .ref jun), (r0, 13, 7, .ref op), (op, 1, 2, .int sz), (r0, 13, 8, .ref wt_), (wt_, 1, 2, .int wn)]) [0, 1, 2, 3, 4, 5, 6, 7, 8, 9, 10, 11, 12, 13, 14, 15, 16, 17, 18] rfl (M1 := [(wk, 140, 1502, ca 1, fk), (wi, 141, 1502, ca 1, fi), (wz, 142, 1502, ca 1, fz), (jnx, 143, 1502, ca 1, fn), (jkf, 144, 1502, ca 1, fa), (jks, 145, 1502, ca 1, fs), (jun, 146, 3000, ca 1, fu)]) [0, 1, 2, 3, 4, 5, 6] rfl (I1 := [(jFkd, jKD dC dI ca G_166 none kq), (jFcd, jCD dC dI ca G_166 none tq), (jFl, jLs dC dI ca G_166 3 none wl), (jFs11, jSef dC dI G_166)]) [1, 2, 3, 4] rfl
            clear hh_201
            have hh_220 := hh_219.addI (jQD.ie hd_218)
            clear hh_219
            have hd_221 := jKD.grow (ca := ca) (hh_220.iv 1 rfl) hb_2012 hW_201 (by decide)
            have hh_222 := hh_220.sub (L1 := [(bo, 2, 1, .int qc_201), (bo, 2, 0, .ref qa_201), (r0, 13, 11, .int 2), (r0, 13, 4, .ref bo), (r0, 13, 3, .ref ou), (r0, 13, 2, .ref js), (js, 6, 7, .int pv), (js, 6, 8, .int pu), (js, 6, 0, .ref wk), (js, 6, 1, .ref wi), (js, 6, 2, .ref wz), (js, 6, 3, .ref jnx), (js, 6, 4, .ref jkf), (js, 6, 5, .ref jks), (js, 6, 6, .ref jun), (r0, 13, 7, .ref op), (op, 1, 2, .int sz), (r0, 13, 8, .ref wt_), (wt_, 1, 2, .int wn)]) [0, 1, 2, 3, 4, 5, 6, 7, 8, 9, 10, 11, 12, 13, 14, 15, 16, 17, 18] rfl (M1 := [(wk, 140, 1502, ca 1, fk), (wi, 141, 1502, ca 1, fi), (wz, 142, 1502, ca 1, fz), (jnx, 143, 1502, ca 1, fn), (jkf, 144, 1502, ca 1, fa), (jks, 145, 1502, ca 1, fs), (jun, 146, 3000, ca 1, fu)]) [0, 1, 2, 3, 4, 5, 6] rfl (I1 := [(jFqd, jQD dC dI ca G_201 none qq), (jFcd, jCD dC dI ca G_166 none tq), (jFl, jLs dC dI ca G_166 3 none wl), (jFs11, jSef dC dI G_166)]) [0, 2, 3, 4] rfl
            clear hh_220
            have hh_223 := hh_222.addI (jKD.ie hd_221)
            clear hh_222
            have hd_224 := jCD.grow (hh_223.iv 2 rfl) hb_2012 hN_201 (by decide)
            have hh_225 := hh_223.sub (L1 := [(bo, 2, 1, .int qc_201), (bo, 2, 0, .ref qa_201), (r0, 13, 11, .int 2), (r0, 13, 4, .ref bo), (r0, 13, 3, .ref ou), (r0, 13, 2, .ref js), (js, 6, 7, .int pv), (js, 6, 8, .int pu), (js, 6, 0, .ref wk), (js, 6, 1, .ref wi), (js, 6, 2, .ref wz), (js, 6, 3, .ref jnx), (js, 6, 4, .ref jkf), (js, 6, 5, .ref jks), (js, 6, 6, .ref jun), (r0, 13, 7, .ref op), (op, 1, 2, .int sz), (r0, 13, 8, .ref wt_), (wt_, 1, 2, .int wn)]) [0, 1, 2, 3, 4, 5, 6, 7, 8, 9, 10, 11, 12, 13, 14, 15, 16, 17, 18] rfl (M1 := [(wk, 140, 1502, ca 1, fk), (wi, 141, 1502, ca 1, fi), (wz, 142, 1502, ca 1, fz), (jnx, 143, 1502, ca 1, fn), (jkf, 144, 1502, ca 1, fa), (jks, 145, 1502, ca 1, fs), (jun, 146, 3000, ca 1, fu)]) [0, 1, 2, 3, 4, 5, 6] rfl (I1 := [(jFkd, jKD dC dI ca G_201 none kq), (jFqd, jQD dC dI ca G_201 none qq), (jFl, jLs dC dI ca G_166 3 none wl), (jFs11, jSef dC dI G_166)]) [0, 1, 3, 4] rfl
            clear hh_223
            have hh_226 := hh_225.addI (jCD.ie hd_224)
            clear hh_225
            have hd_227 := jLs.grow (hh_226.iv 3 rfl) hb_2012 hN_201 (by decide)
            have hh_228 := hh_226.sub (L1 := [(bo, 2, 1, .int qc_201), (bo, 2, 0, .ref qa_201), (r0, 13, 11, .int 2), (r0, 13, 4, .ref bo), (r0, 13, 3, .ref ou), (r0, 13, 2, .ref js), (js, 6, 7, .int pv), (js, 6, 8, .int pu), (js, 6, 0, .ref wk), (js, 6, 1, .ref wi), (js, 6, 2, .ref wz), (js, 6, 3, .ref jnx), (js, 6, 4, .ref jkf), (js, 6, 5, .ref jks), (js, 6, 6, .ref jun), (r0, 13, 7, .ref op), (op, 1, 2, .int sz), (r0, 13, 8, .ref wt_), (wt_, 1, 2, .int wn)]) [0, 1, 2, 3, 4, 5, 6, 7, 8, 9, 10, 11, 12, 13, 14, 15, 16, 17, 18] rfl (M1 := [(wk, 140, 1502, ca 1, fk), (wi, 141, 1502, ca 1, fi), (wz, 142, 1502, ca 1, fz), (jnx, 143, 1502, ca 1, fn), (jkf, 144, 1502, ca 1, fa), (jks, 145, 1502, ca 1, fs), (jun, 146, 3000, ca 1, fu)]) [0, 1, 2, 3, 4, 5, 6] rfl (I1 := [(jFcd, jCD dC dI ca G_201 none tq), (jFkd, jKD dC dI ca G_201 none kq), (jFqd, jQD dC dI ca G_201 none qq), (jFs11, jSef dC dI G_166)]) [0, 1, 2, 4] rfl
            clear hh_226
            have hh_229 := hh_228.addI (jLs.ie hd_227)
            clear hh_228
            have hd_230 := jSef.grow (hh_229.iv 4 rfl) hb_2012 hN_201 (by decide)
            have hh_231 := hh_229.sub (L1 := [(bo, 2, 1, .int qc_201), (bo, 2, 0, .ref qa_201), (r0, 13, 11, .int 2), (r0, 13, 4, .ref bo), (r0, 13, 3, .ref ou), (r0, 13, 2, .ref js), (js, 6, 7, .int pv), (js, 6, 8, .int pu), (js, 6, 0, .ref wk), (js, 6, 1, .ref wi), (js, 6, 2, .ref wz), (js, 6, 3, .ref jnx), (js, 6, 4, .ref jkf), (js, 6, 5, .ref jks), (js, 6, 6, .ref jun), (r0, 13, 7, .ref op), (op, 1, 2, .int sz), (r0, 13, 8, .ref wt_), (wt_, 1, 2, .int wn)]) [0, 1, 2, 3, 4, 5, 6, 7, 8, 9, 10, 11, 12, 13, 14, 15, 16, 17, 18] rfl (M1 := [(wk, 140, 1502, ca 1, fk), (wi, 141, 1502, ca 1, fi), (wz, 142, 1502, ca 1, fz), (jnx, 143, 1502, ca 1, fn), (jkf, 144, 1502, ca 1, fa), (jks, 145, 1502, ca 1, fs), (jun, 146, 3000, ca 1, fu)]) [0, 1, 2, 3, 4, 5, 6] rfl (I1 := [(jFl, jLs dC dI ca G_201 3 none wl), (jFcd, jCD dC dI ca G_201 none tq), (jFkd, jKD dC dI ca G_201 none kq), (jFqd, jQD dC dI ca G_201 none qq)]) [0, 1, 2, 3] rfl
            clear hh_229
            have hh_232 := hh_231.addI (jSef.ie hd_230)
            clear hh_231
            have hd_233 := jOl.trO (hh_200.iv 0 rfl) hh_200.2.2.2.2.1 hbO_201 (by simp)
            have hh_234 := hh_232.addI (jOl.ie (dC := dC) (dI := dI) (G0 := G0) (k := 2) (rs := [bo, ou]) (H0 := s.heap) (F := [(2, 0), (2, 1)]) (C := RX0) (T := TX0) (N := 2) rfl (by decide) hh_232.2.2.2.2.1 (hd_233))
            clear hh_232
            have hyp_201 : qc_201.toInt ≤ (m_qa_201 : Nat) ∧ m_qa_201 ≤ 1048576 := by (try simp only at hr_202); omega
            have hy_235 := jYb.own hy_203 hbO_201 hb_2012 hN_201 (by decide) (fun _ => ⟨_, _, _, hh_234.at 0 rfl, hh_234.at 1 rfl, hgq_201_0, hyp_201⟩)
            have hh_236 := hh_234.addI (jYb.ie hy_235)
            clear hh_234
            try simp only at hr_202
            obtain ⟨hr_202_0, hr_202_1, hr_202_2, hr_202_3, hr_202_4⟩ := hr_202
            have hh_237 := hh_236.wk (zc1 := (m_qa_201 - n_pa) / 16 + 2) (zs1 := 2 * (m_qa_201 - n_pa) + 40 + pu.toInt.toNat) (by omega) (by omega)
            clear hh_236
            try clear hsz_201 htt_201 hrc_201 hrs_201
            try clear hb_2014 hb_2015
            refine lv_aload_n hx hb dX11_request_143 rfl (lv_at hl 2 rfl) ?_
            obtain ⟨v_240, hv_240, hh_241⟩ := hh_237.pin (C := RX0) (T := TX0) (N := 2) hB2 rfl (by decide) hg_207 (i := 1) (by decide) rfl
            obtain ⟨count_242, rfl, hlocount_242, hhicount_242, hfxcount_242⟩ := hv_240
            obtain ⟨v_243, hv_243, hh_244⟩ := hh_241.pin (C := RX0) (T := TX0) (N := 2) hB2 rfl (by decide) hg_207 (i := 0) (by decide) rfl
            obtain ⟨row_245, nrow_245, rfl, hg_row_245, hlorow_245, hhirow_245, hpwrow_245, hfxrow_245⟩ := jBr.k6 (by decide) hv_243
            try clear hsz_201 htt_201 hrc_201 hrs_201
            have hsz_238 := hh_244.2.2.2.2.2.1
            have htt_238 := hh_244.2.2.2.2.2.2.1
            refine W.room (fun hrc_238 hrs_238 => ?_)
            refine va_callv (A0 := jA base) (H0 := s.heap) (va_runV (As := []) (rest := []) ⟨hx, hb, hml, hown, hts⟩ (uX11_send l dC dI ca base B hB hAp hB2 hB4 hB13 hB17 hB196 hB199 G_201 H_201 r0 bo qc_201 qa_201 m_qa_201 ou count_242 row_245 nrow_245) (cwV 0 hts (jgV (jWr_26 _ (List.mem_of_getElem? (i := 20) rfl)) (jWr_26 _ (List.mem_of_getElem? (i := 21) rfl)) (jWr_26 _ (List.mem_of_getElem? (i := 22) rfl)) (jWr_1 _ (List.mem_of_getElem? (i := 2) rfl)) (jWr_26 _ (List.mem_of_getElem? (i := 23) rfl))) rfl rfl rfl (by decide +kernel) ⟨by rw [← hR]; exact Nat.le_of_ble_eq_true rfl, by rw [← hR]; exact Nat.le_of_ble_eq_true rfl⟩) ⟨fun a U g mk q => by obtain ⟨q0, q1, q2, qK, q10, q11, q12, q13, q14, q15, q16, q17⟩ := q; exact ⟨q0, q1, q2, jG.calling g mk a qK, q10, q11, q12, q13, q14, q15, q16, q17⟩, hh_244.recv (C := RX11) (T := TX11) (N := 19) hB13 rfl (by decide) hg_204 hK, fun U hU hW => ⟨rfl, hU, hh_244.2.1, hG.step hW hU hh_244.1, hg_204, hg_206, hgq_201_0, hg_207, hg_row_245, (hh_244.2.2.1.sub (L1 := [(r0, 13, 4, .ref bo), (bo, 2, 1, .int qc_201), (bo, 2, 0, .ref qa_201), (r0, 13, 3, .ref ou), (ou, 2, 1, .int count_242), (ou, 2, 0, .ref row_245)]) [5, 2, 3, 6, 1, 0] rfl), (hh_244.2.2.2.2.2.2.2.2.sub (L1 := [(jFy, jYb dC dI G_201)]) [0] rfl), ⟨(by first | omega | rfl | assumption | fail), (by first | omega | rfl | assumption | fail), (by first | omega | rfl | assumption | fail), (by first | omega | rfl | assumption | fail), (by first | omega | rfl | assumption | fail), (by first | omega | rfl | assumption | fail)⟩⟩⟩ rfl rfl hl.1 rfl (lv_room (Nat.le_of_ble_eq_true rfl)) dX11_request_144 ⟨by rw [hRc]; show _ + 0 ≤ _; omega, by rw [hRs]; show _ + 0 ≤ _; omega⟩) hh_244.1 (fun q _ h => h) (fun q h => h) (fun u_238 t_238 H_238 locs_238 ht_238 hvm_238 hr_239 hb_238 hz_238 hk_238 hS_238 => ?_)
            rw [ht_238] at hb_238
            obtain ⟨hb_238, hbE_238⟩ := hb_238
            obtain ⟨hb_238, hbO_238⟩ := hb_238
            obtain ⟨hb_2381, hb_2382, hb_2383, hb_2384, hb_2385⟩ := hb_238
            have hh_238 : jSt (dC, dI) B base G0 G_201 EX11_requestT s.heap ((m_qa_201 - n_pa) / 16 + 2) (2 * (m_qa_201 - n_pa) + 40 + pu.toInt.toNat) [(r0, 13, 11, .int 2), (r0, 13, 4, .ref bo), (r0, 13, 3, .ref ou), (r0, 13, 2, .ref js), (js, 6, 7, .int pv), (js, 6, 8, .int pu), (js, 6, 0, .ref wk), (js, 6, 1, .ref wi), (js, 6, 2, .ref wz), (js, 6, 3, .ref jnx), (js, 6, 4, .ref jkf), (js, 6, 5, .ref jks), (js, 6, 6, .ref jun), (r0, 13, 7, .ref op), (op, 1, 2, .int sz), (r0, 13, 8, .ref wt_), (wt_, 1, 2, .int wn)] [(wk, 140, 1502, ca 1, fk), (wi, 141, 1502, ca 1, fi), (wz, 142, 1502, ca 1, fz), (jnx, 143, 1502, ca 1, fn), (jkf, 144, 1502, ca 1, fa), (jks, 145, 1502, ca 1, fs), (jun, 146, 3000, ca 1, fu)] [(jFy, jYb dC dI G_201), (jFs11, jSef dC dI G_201), (jFl, jLs dC dI ca G_201 3 none wl), (jFcd, jCD dC dI ca G_201 none tq), (jFkd, jKD dC dI ca G_201 none kq), (jFqd, jQD dC dI ca G_201 none qq)] H_238 locs_238 := (((hh_244.call hb_2381 hb_2382 hb_2383 hb_2384 hS_238 rfl (L1 := [(r0, 13, 11, .int 2), (r0, 13, 4, .ref bo), (r0, 13, 3, .ref ou), (r0, 13, 2, .ref js), (js, 6, 7, .int pv), (js, 6, 8, .int pu), (js, 6, 0, .ref wk), (js, 6, 1, .ref wi), (js, 6, 2, .ref wz), (js, 6, 3, .ref jnx), (js, 6, 4, .ref jkf), (js, 6, 5, .ref jks), (js, 6, 6, .ref jun), (r0, 13, 7, .ref op), (op, 1, 2, .int sz), (r0, 13, 8, .ref wt_), (wt_, 1, 2, .int wn)]) [4, 5, 6, 7, 8, 9, 10, 11, 12, 13, 14, 15, 16, 17, 18, 19, 20] rfl rfl (M1 := [(wk, 140, 1502, ca 1, fk), (wi, 141, 1502, ca 1, fi), (wz, 142, 1502, ca 1, fz), (jnx, 143, 1502, ca 1, fn), (jkf, 144, 1502, ca 1, fa), (jks, 145, 1502, ca 1, fs), (jun, 146, 3000, ca 1, fu)]) [0, 1, 2, 3, 4, 5, 6] rfl rfl (I1 := [(jFs11, jSef dC dI G_201), (jFl, jLs dC dI ca G_201 3 none wl), (jFcd, jCD dC dI ca G_201 none tq), (jFkd, jKD dC dI ca G_201 none kq), (jFqd, jQD dC dI ca G_201 none qq)]) [2, 3, 4, 5, 6] rfl rfl).more hb_2385)).addIs hbE_238
            have hh_246 := hh_238.more (P1 := [(bo, 2, 1, .int qc_201), (bo, 2, 0, .ref qa_201)]) (jP.cons hg_206 (hbO_238 _ _ _ _ (jn1 (by first | assumption | exact Ne.symm (by assumption) | exact jnek hg_206 hg_207 (by decide))) hg_206 (hh_244.at 2 rfl)) (jP.cons hg_206 (hbO_238 _ _ _ _ (jn1 (by first | assumption | exact Ne.symm (by assumption) | exact jnek hg_206 hg_207 (by decide))) hg_206 (hh_244.at 3 rfl)) jP.nil))
            have hd_247 := jOl.trL (hh_244.iv 1 rfl) hh_244.2.2.2.2.1 hbO_238 (by simp)
            have hh_248 := hh_246.addI (jOl.ie (dC := dC) (dI := dI) (G0 := G0) (k := 2) (rs := [bo, ou]) (H0 := s.heap) (F := [(2, 0), (2, 1)]) (C := RX0) (T := TX0) (N := 2) rfl (by decide) hh_246.2.2.2.2.1 (hd_247))
            clear hh_246
            clear hh_244 ht_238 hvm_238 hz_238 hk_238 hS_238 hb_2381 hb_2382 hb_2383 hb_2384 hb_2385
            clear  hbE_238
            refine lv_goto (tgt := 212) hx hb dX11_request_147 (by decide) ?_
            have hqz9 : (2 : Int) = jdRq T9 pv.toInt pz.toInt := by have h9 : jdRq T9 pv.toInt pz.toInt = _ := jdRq.d hm9 (by omega) (by rw [← hin9]; omega) (by rw [← hr_47p_1]; omega); omega
            try clear hsz_238 htt_238 hrc_238 hrs_238
            have hsz_249 := hh_248.2.2.2.2.2.1
            have htt_249 := hh_248.2.2.2.2.2.2.1
            refine W.room (fun hrc_249 hrs_249 => ?_)
            refine W.widen (k := LC - s.heap.size) (n := LS - jTot s.heap) (by omega) (by omega) ?_
            rw [hQ]
            exact W.vret hx hb hr (fun t ht hW => ⟨⟨(qc_201, 2, qa_201, m_qa_201, wl, qq, G_201), rfl, by skip; (try dsimp only); refine ⟨(by first | (with_reducible assumption) | omega | exact hqz9), (by first | (with_reducible assumption) | omega | exact hqz9), (by first | (with_reducible assumption) | omega | exact hqz9), (by first | (with_reducible assumption) | omega | exact hqz9), (by first | (with_reducible assumption) | omega | exact hqz9), (by first | (with_reducible assumption) | omega | exact hqz9), ?_⟩; rw [jwRq.z3 hm9 (by rw [← hr_47p_1]; omega)]; exact hCz9, ⟨hh_248.ra (by first | (simp only; omega) | omega) (by first | (simp only; omega) | omega) (M1 := [(bo, 2, 1, .int qc_201), (r0, 13, 11, .int 2), (bo, 2, 0, .ref qa_201)]) [0, 2, 1] rfl ht, hgq_201_0, hNn_201, by rw [ht]; exact hh_248.iv 0 rfl, by rw [ht]; exact hh_248.2.2.2.2.2.2.2.2.sub (L1 := [(jFy, jYb dC dI G_201), (jFs11, jSef dC dI G_201), (jFl, jLs dC dI ca G_201 3 none wl), (jFcd, jCD dC dI ca G_201 none tq), (jFkd, jKD dC dI ca G_201 none kq), (jFqd, jQD dC dI ca G_201 none qq)]) [1, 2, 3, 4, 5, 6] rfl⟩⟩, by rw [ht]; try exact hh_248.1.1, fun q h9 hq => by rw [ht]; try exact hh_248.1.2.1 q h9 hq⟩) hh_248.1.2.2 dX11_request_212
        · skip
          have c_45' : r_5.toInt ≠ 0 := jb_eq_n (rfl) ((by decide)) c_45
          first | (have hr_3_2q := hr_3_2.resolve_left (by omega); clear hr_3_2) | (have hr_3_2q := hr_3_2.resolve_right (by omega); clear hr_3_2) | skip
          first | (have hr_5p_0q := hr_5p_0.resolve_left (by omega); clear hr_5p_0) | (have hr_5p_0q := hr_5p_0.resolve_right (by omega); clear hr_5p_0) | skip
          refine lv_aload_n hx hb dX11_request_95 rfl (lv_at hl 2 rfl) ?_
          refine lv_aload_n hx hb dX11_request_96 rfl (lv_at hl 3 rfl) ?_
          refine lv_sipush (v := (-32600)) hx hb dX11_request_97 (by decide) ?_
          try clear hsz_4 htt_4 hrc_4 hrs_4
          have hsz_250 := hh_4.2.2.2.2.2.1
          have htt_250 := hh_4.2.2.2.2.2.2.1
          refine W.room (fun hrc_250 hrs_250 => ?_)
          refine va_callv (A0 := jA base) (H0 := s.heap) (va_runV (As := [.ref r1, .int (-32600)]) (rest := []) ⟨hx, hb, hml, hown, hts⟩ (uX11_refuse l dC dI ca base B hB hAp hB2 hB4 hB10 hB13 hB17 hB196 hB199 G0 H_4 r0 r1 (-32600) bo pc pa n_pa ou LC LS) (cwV 2 hts (jgV (jWr_26 _ (List.mem_of_getElem? (i := 3) rfl)) (jWr_26 _ (List.mem_of_getElem? (i := 4) rfl)) (jWr_26 _ (List.mem_of_getElem? (i := 5) rfl)) (jWr_1 _ (List.mem_of_getElem? (i := 2) rfl)) (jWr_26 _ (List.mem_of_getElem? (i := 6) rfl))) rfl rfl rfl (by decide +kernel) ⟨by rw [← hR]; exact Nat.le_of_ble_eq_true rfl, by rw [← hR]; exact Nat.le_of_ble_eq_true rfl⟩) ⟨fun a U g mk q => by obtain ⟨q0, q1, q2, qK, q10, q11, q12, q13, q14, q15, q16, q17⟩ := q; exact ⟨q0, q1, q2, jG.calling g mk a qK, q10, q11, q12, q13, q14, q15, q16, q17⟩, hh_4.recv (C := RX11) (T := TX11) (N := 19) hB13 rfl (by decide) hg_r0 hK, fun U hU hW => ⟨rfl, hU, hh_4.2.1, hG.step hW hU hh_4.1, hg_r1, hg_r0, hg_bo, hg_pa, hg_ou, (hh_4.2.2.1.sub (L1 := [(r0, 13, 4, .ref bo), (bo, 2, 1, .int pc), (bo, 2, 0, .ref pa), (r0, 13, 3, .ref ou)]) [0, 1, 2, 3] rfl), (hh_4.2.2.2.2.2.2.2.2.sub (L1 := [(jFy, jYb dC dI G0)]) [1] rfl), (by omega), (by omega), ⟨(by first | omega | rfl | assumption | fail), (by first | omega | rfl | assumption | fail), (by first | omega | rfl | assumption | fail), (by first | omega | rfl | assumption | fail), (by first | assumption | fail | omega)⟩⟩⟩ rfl rfl hl.1 rfl (lv_room (Nat.le_of_ble_eq_true rfl)) dX11_request_100 ⟨by rw [hRc]; omega, by rw [hRs]; omega⟩) hh_4.1 (fun q _ h => h) (fun q h => h) (fun u_250 t_250 H_250 locs_250 ht_250 hvm_250 hr_251 hb_250 hz_250 hk_250 hS_250 => ?_)
          obtain ⟨qc_250, qa_250, m_qa_250, G_250⟩ := u_250
          rw [ht_250] at hb_250
          simp only at hb_250
          obtain ⟨⟨hb_2501, hb_2502, hb_2503, hb_2504, hb_2505, hb_2506⟩, hgq_250_0, hN_250, hbO_250, hbE_250⟩ := hb_250
          have hW_250 := hN_250
          have hh_250 : jSt (dC, dI) B base G0 G_250 EX11_requestT s.heap (0 + ((m_qa_250 - n_pa) / 16)) (0 + (2 * (m_qa_250 - n_pa))) [(bo, 2, 1, .int qc_250), (bo, 2, 0, .ref qa_250), (r0, 13, 4, .ref bo), (r0, 13, 3, .ref ou), (r0, 13, 2, .ref js), (js, 6, 7, .int pv), (js, 6, 8, .int pu), (js, 6, 0, .ref wk), (js, 6, 1, .ref wi), (js, 6, 2, .ref wz), (js, 6, 3, .ref jnx), (js, 6, 4, .ref jkf), (js, 6, 5, .ref jks), (js, 6, 6, .ref jun), (r0, 13, 11, .int pz), (r0, 13, 7, .ref op), (op, 1, 2, .int sz), (r0, 13, 8, .ref wt_), (wt_, 1, 2, .int wn)] [(wk, 140, 1502, ca 1, fk), (wi, 141, 1502, ca 1, fi), (wz, 142, 1502, ca 1, fz), (jnx, 143, 1502, ca 1, fn), (jkf, 144, 1502, ca 1, fa), (jks, 145, 1502, ca 1, fs), (jun, 146, 3000, ca 1, fu)] [(jFs11, jSef dC dI G0), (jFl, jLs dC dI ca G0 3 none wl), (jFcd, jCD dC dI ca G0 none tq), (jFkd, jKD dC dI ca G0 none kq), (jFqd, jQD dC dI ca G0 none qq)] H_250 locs_250 := (hh_4.callG hb_2501 hb_2502 hb_2503 hb_2504 hb_2505 hS_250 rfl (L1 := [(r0, 13, 4, .ref bo), (r0, 13, 3, .ref ou), (r0, 13, 2, .ref js), (js, 6, 7, .int pv), (js, 6, 8, .int pu), (js, 6, 0, .ref wk), (js, 6, 1, .ref wi), (js, 6, 2, .ref wz), (js, 6, 3, .ref jnx), (js, 6, 4, .ref jkf), (js, 6, 5, .ref jks), (js, 6, 6, .ref jun), (r0, 13, 11, .int pz), (r0, 13, 7, .ref op), (op, 1, 2, .int sz), (r0, 13, 8, .ref wt_), (wt_, 1, 2, .int wn)]) [0, 3, 4, 5, 6, 7, 8, 9, 10, 11, 12, 13, 14, 15, 16, 17, 18] rfl rfl (M1 := [(wk, 140, 1502, ca 1, fk), (wi, 141, 1502, ca 1, fi), (wz, 142, 1502, ca 1, fz), (jnx, 143, 1502, ca 1, fn), (jkf, 144, 1502, ca 1, fa), (jks, 145, 1502, ca 1, fs), (jun, 146, 3000, ca 1, fu)]) [0, 1, 2, 3, 4, 5, 6] rfl rfl (I1 := [(jFs11, jSef dC dI G0), (jFl, jLs dC dI ca G0 3 none wl), (jFcd, jCD dC dI ca G0 none tq), (jFkd, jKD dC dI ca G0 none kq), (jFqd, jQD dC dI ca G0 none qq)]) [2, 3, 4, 5, 6] rfl rfl).more hb_2506
          have hNn_250 : (jNk [0, 1, 2, 3, 4, 5, 6, 7, 8, 9, 10, 11, 12, 13, 14, 15, 16, 17, 175]) G0 G_250 := (jNk.rf).tr hN_250
          have hg_252 := hb_2502 _ _ hg_r0
          have hg_253 := hb_2502 _ _ hg_r1
          have hg_254 := hb_2502 _ _ hg_bo
          have hg_255 := hb_2502 _ _ hg_ou
          have hg_256 := hb_2502 _ _ hg_js
          have hg_257 := hb_2502 _ _ hg_wk
          have hg_258 := hb_2502 _ _ hg_wi
          have hg_259 := hb_2502 _ _ hg_wz
          have hg_260 := hb_2502 _ _ hg_jnx
          have hg_261 := hb_2502 _ _ hg_jkf
          have hg_262 := hb_2502 _ _ hg_jks
          have hg_263 := hb_2502 _ _ hg_jun
          have hg_264 := hb_2502 _ _ hg_op
          have hg_265 := hb_2502 _ _ hg_wt_
          have hd_266 := jSef.grow (hh_250.iv 0 rfl) hb_2502 hN_250 (by decide)
          have hh_267 := hh_250.sub (L1 := [(bo, 2, 1, .int qc_250), (bo, 2, 0, .ref qa_250), (r0, 13, 4, .ref bo), (r0, 13, 3, .ref ou), (r0, 13, 2, .ref js), (js, 6, 7, .int pv), (js, 6, 8, .int pu), (js, 6, 0, .ref wk), (js, 6, 1, .ref wi), (js, 6, 2, .ref wz), (js, 6, 3, .ref jnx), (js, 6, 4, .ref jkf), (js, 6, 5, .ref jks), (js, 6, 6, .ref jun), (r0, 13, 11, .int pz), (r0, 13, 7, .ref op), (op, 1, 2, .int sz), (r0, 13, 8, .ref wt_), (wt_, 1, 2, .int wn)]) [0, 1, 2, 3, 4, 5, 6, 7, 8, 9, 10, 11, 12, 13, 14, 15, 16, 17, 18] rfl (M1 := [(wk, 140, 1502, ca 1, fk), (wi, 141, 1502, ca 1, fi), (wz, 142, 1502, ca 1, fz), (jnx, 143, 1502, ca 1, fn), (jkf, 144, 1502, ca 1, fa), (jks, 145, 1502, ca 1, fs), (jun, 146, 3000, ca 1, fu)]) [0, 1, 2, 3, 4, 5, 6] rfl (I1 := [(jFl, jLs dC dI ca G0 3 none wl), (jFcd, jCD dC dI ca G0 none tq), (jFkd, jKD dC dI ca G0 none kq), (jFqd, jQD dC dI ca G0 none qq)]) [1, 2, 3, 4] rfl
          clear hh_250
          have hh_268 := hh_267.addI (jSef.ie hd_266)
          clear hh_267
          have hd_269 := jLs.grow (hh_268.iv 1 rfl) hb_2502 hN_250 (by decide)
          have hh_270 := hh_268.sub (L1 := [(bo, 2, 1, .int qc_250), (bo, 2, 0, .ref qa_250), (r0, 13, 4, .ref bo), (r0, 13, 3, .ref ou), (r0, 13, 2, .ref js), (js, 6, 7, .int pv), (js, 6, 8, .int pu), (js, 6, 0, .ref wk), (js, 6, 1, .ref wi), (js, 6, 2, .ref wz), (js, 6, 3, .ref jnx), (js, 6, 4, .ref jkf), (js, 6, 5, .ref jks), (js, 6, 6, .ref jun), (r0, 13, 11, .int pz), (r0, 13, 7, .ref op), (op, 1, 2, .int sz), (r0, 13, 8, .ref wt_), (wt_, 1, 2, .int wn)]) [0, 1, 2, 3, 4, 5, 6, 7, 8, 9, 10, 11, 12, 13, 14, 15, 16, 17, 18] rfl (M1 := [(wk, 140, 1502, ca 1, fk), (wi, 141, 1502, ca 1, fi), (wz, 142, 1502, ca 1, fz), (jnx, 143, 1502, ca 1, fn), (jkf, 144, 1502, ca 1, fa), (jks, 145, 1502, ca 1, fs), (jun, 146, 3000, ca 1, fu)]) [0, 1, 2, 3, 4, 5, 6] rfl (I1 := [(jFs11, jSef dC dI G_250), (jFcd, jCD dC dI ca G0 none tq), (jFkd, jKD dC dI ca G0 none kq), (jFqd, jQD dC dI ca G0 none qq)]) [0, 2, 3, 4] rfl
          clear hh_268
          have hh_271 := hh_270.addI (jLs.ie hd_269)
          clear hh_270
          have hd_272 := jCD.grow (hh_271.iv 2 rfl) hb_2502 hN_250 (by decide)
          have hh_273 := hh_271.sub (L1 := [(bo, 2, 1, .int qc_250), (bo, 2, 0, .ref qa_250), (r0, 13, 4, .ref bo), (r0, 13, 3, .ref ou), (r0, 13, 2, .ref js), (js, 6, 7, .int pv), (js, 6, 8, .int pu), (js, 6, 0, .ref wk), (js, 6, 1, .ref wi), (js, 6, 2, .ref wz), (js, 6, 3, .ref jnx), (js, 6, 4, .ref jkf), (js, 6, 5, .ref jks), (js, 6, 6, .ref jun), (r0, 13, 11, .int pz), (r0, 13, 7, .ref op), (op, 1, 2, .int sz), (r0, 13, 8, .ref wt_), (wt_, 1, 2, .int wn)]) [0, 1, 2, 3, 4, 5, 6, 7, 8, 9, 10, 11, 12, 13, 14, 15, 16, 17, 18] rfl (M1 := [(wk, 140, 1502, ca 1, fk), (wi, 141, 1502, ca 1, fi), (wz, 142, 1502, ca 1, fz), (jnx, 143, 1502, ca 1, fn), (jkf, 144, 1502, ca 1, fa), (jks, 145, 1502, ca 1, fs), (jun, 146, 3000, ca 1, fu)]) [0, 1, 2, 3, 4, 5, 6] rfl (I1 := [(jFl, jLs dC dI ca G_250 3 none wl), (jFs11, jSef dC dI G_250), (jFkd, jKD dC dI ca G0 none kq), (jFqd, jQD dC dI ca G0 none qq)]) [0, 1, 3, 4] rfl
          clear hh_271
          have hh_274 := hh_273.addI (jCD.ie hd_272)
          clear hh_273
          have hd_275 := jKD.grow (ca := ca) (hh_274.iv 3 rfl) hb_2502 hW_250 (by decide)
          have hh_276 := hh_274.sub (L1 := [(bo, 2, 1, .int qc_250), (bo, 2, 0, .ref qa_250), (r0, 13, 4, .ref bo), (r0, 13, 3, .ref ou), (r0, 13, 2, .ref js), (js, 6, 7, .int pv), (js, 6, 8, .int pu), (js, 6, 0, .ref wk), (js, 6, 1, .ref wi), (js, 6, 2, .ref wz), (js, 6, 3, .ref jnx), (js, 6, 4, .ref jkf), (js, 6, 5, .ref jks), (js, 6, 6, .ref jun), (r0, 13, 11, .int pz), (r0, 13, 7, .ref op), (op, 1, 2, .int sz), (r0, 13, 8, .ref wt_), (wt_, 1, 2, .int wn)]) [0, 1, 2, 3, 4, 5, 6, 7, 8, 9, 10, 11, 12, 13, 14, 15, 16, 17, 18] rfl (M1 := [(wk, 140, 1502, ca 1, fk), (wi, 141, 1502, ca 1, fi), (wz, 142, 1502, ca 1, fz), (jnx, 143, 1502, ca 1, fn), (jkf, 144, 1502, ca 1, fa), (jks, 145, 1502, ca 1, fs), (jun, 146, 3000, ca 1, fu)]) [0, 1, 2, 3, 4, 5, 6] rfl (I1 := [(jFcd, jCD dC dI ca G_250 none tq), (jFl, jLs dC dI ca G_250 3 none wl), (jFs11, jSef dC dI G_250), (jFqd, jQD dC dI ca G0 none qq)]) [0, 1, 2, 4] rfl
          clear hh_274
          have hh_277 := hh_276.addI (jKD.ie hd_275)
          clear hh_276
          have hd_278 := jQD.grow (ca := ca) (hh_277.iv 4 rfl) hb_2502 hW_250 (by decide)
          have hh_279 := hh_277.sub (L1 := [(bo, 2, 1, .int qc_250), (bo, 2, 0, .ref qa_250), (r0, 13, 4, .ref bo), (r0, 13, 3, .ref ou), (r0, 13, 2, .ref js), (js, 6, 7, .int pv), (js, 6, 8, .int pu), (js, 6, 0, .ref wk), (js, 6, 1, .ref wi), (js, 6, 2, .ref wz), (js, 6, 3, .ref jnx), (js, 6, 4, .ref jkf), (js, 6, 5, .ref jks), (js, 6, 6, .ref jun), (r0, 13, 11, .int pz), (r0, 13, 7, .ref op), (op, 1, 2, .int sz), (r0, 13, 8, .ref wt_), (wt_, 1, 2, .int wn)]) [0, 1, 2, 3, 4, 5, 6, 7, 8, 9, 10, 11, 12, 13, 14, 15, 16, 17, 18] rfl (M1 := [(wk, 140, 1502, ca 1, fk), (wi, 141, 1502, ca 1, fi), (wz, 142, 1502, ca 1, fz), (jnx, 143, 1502, ca 1, fn), (jkf, 144, 1502, ca 1, fa), (jks, 145, 1502, ca 1, fs), (jun, 146, 3000, ca 1, fu)]) [0, 1, 2, 3, 4, 5, 6] rfl (I1 := [(jFkd, jKD dC dI ca G_250 none kq), (jFcd, jCD dC dI ca G_250 none tq), (jFl, jLs dC dI ca G_250 3 none wl), (jFs11, jSef dC dI G_250)]) [0, 1, 2, 3] rfl
          clear hh_277
          have hh_280 := hh_279.addI (jQD.ie hd_278)
          clear hh_279
          have hh_281 := hh_280.addIs hbE_250
          have hd_282 := jOl.trL (hh_4.iv 0 rfl) hh_4.2.2.2.2.1 hbO_250 (by simp)
          have hh_283 := hh_281.addI (jOl.ie (dC := dC) (dI := dI) (G0 := G0) (k := 2) (rs := [bo, ou]) (H0 := s.heap) (F := [(2, 0), (2, 1)]) (C := RX0) (T := TX0) (N := 2) rfl (by decide) hh_281.2.2.2.2.1 (hd_282))
          clear hh_281
          try simp only at hr_251
          obtain ⟨hr_251_0, hr_251_1, hr_251_2, hr_251_3, hr_251_4⟩ := hr_251
          have hh_284 := hh_283.wk (zc1 := (m_qa_250 - n_pa) / 16 + 2) (zs1 := 2 * (m_qa_250 - n_pa) + 40 + pu.toInt.toNat) (by omega) (by omega)
          clear hh_283
          try clear hsz_250 htt_250 hrc_250 hrs_250
          try clear hb_2504 hb_2505
          refine lv_goto (tgt := 212) hx hb dX11_request_103 (by decide) ?_
          have hqz9 : (pz.toInt : Int) = jdRq T9 pv.toInt pz.toInt := by have h9 : jdRq T9 pv.toInt pz.toInt = _ := jdRq.c hm9 (by omega) (Or.inr (by rw [← hin9]; omega)); omega
          try clear hsz_250 htt_250 hrc_250 hrs_250
          have hsz_285 := hh_284.2.2.2.2.2.1
          have htt_285 := hh_284.2.2.2.2.2.2.1
          refine W.room (fun hrc_285 hrs_285 => ?_)
          refine W.widen (k := LC - s.heap.size) (n := LS - jTot s.heap) (by omega) (by omega) ?_
          rw [hQ]
          exact W.vret hx hb hr (fun t ht hW => ⟨⟨(qc_250, pz, qa_250, m_qa_250, wl, qq, G_250), rfl, by skip; (try dsimp only); refine ⟨(by first | (with_reducible assumption) | omega | exact hqz9), (by first | (with_reducible assumption) | omega | exact hqz9), (by first | (with_reducible assumption) | omega | exact hqz9), (by first | (with_reducible assumption) | omega | exact hqz9), (by first | (with_reducible assumption) | omega | exact hqz9), (by first | (with_reducible assumption) | omega | exact hqz9), ?_⟩; rw [jwRq.z2 hm9 (by rw [← hin9]; omega)]; exact hCz9, ⟨hh_284.ra (by first | (simp only; omega) | omega) (by first | (simp only; omega) | omega) (M1 := [(bo, 2, 1, .int qc_250), (r0, 13, 11, .int pz), (bo, 2, 0, .ref qa_250)]) [0, 14, 1] rfl ht, hgq_250_0, hNn_250, by rw [ht]; exact hh_284.iv 0 rfl, by rw [ht]; exact hh_284.2.2.2.2.2.2.2.2.sub (L1 := [(jFy, jYb dC dI G_250), (jFs11, jSef dC dI G_250), (jFl, jLs dC dI ca G_250 3 none wl), (jFcd, jCD dC dI ca G_250 none tq), (jFkd, jKD dC dI ca G_250 none kq), (jFqd, jQD dC dI ca G_250 none qq)]) [1, 6, 5, 4, 3, 2] rfl⟩⟩, by rw [ht]; try exact hh_284.1.1, fun q h9 hq => by rw [ht]; try exact hh_284.1.2.1 q h9 hq⟩) hh_284.1.2.2 dX11_request_212
    · skip
      have c_7' : pz.toInt = 0 := jb_ne_n (rfl) ((by decide)) c_7
      exact (by omega : False).elim
  · skip
    have c_6' : pz.toInt = 0 := jb_ne_n (rfl) ((by decide)) c_6
    first | (have hr_3_2q := hr_3_2.resolve_left (by omega); clear hr_3_2) | (have hr_3_2q := hr_3_2.resolve_right (by omega); clear hr_3_2) | skip
    refine lv_iload_n hx hb dX11_request_31 rfl (lv_at hl 0 rfl) ?_
    refine lv_if_eq (tgt := 65) hx hb dX11_request_32 (by decide) (fun c_286 => ?_) (fun c_286 => ?_)
    · skip
      have c_286' : r_5.toInt = 0 := jb_eq (rfl) ((by decide)) c_286
      first | (have hr_3_2q := hr_3_2.resolve_left (by omega); clear hr_3_2) | (have hr_3_2q := hr_3_2.resolve_right (by omega); clear hr_3_2) | skip
      first | (have hr_5p_0q := hr_5p_0.resolve_left (by omega); clear hr_5p_0) | (have hr_5p_0q := hr_5p_0.resolve_right (by omega); clear hr_5p_0) | skip
      refine lv_aload_n hx hb dX11_request_65 rfl (lv_at hl 2 rfl) ?_
      refine j7_read hx hb hown hK (C := RX11) (T := TX11) (N := 19) rfl hly_13_11 hlk_77 (hh_4.at 14 rfl) dX11_request_66 ?_
      refine lv_if_ne (tgt := 83) hx hb dX11_request_69 (by decide) (fun c_287 => ?_) (fun c_287 => ?_)
      · skip
        have c_287' : pz.toInt ≠ 0 := jb_ne (rfl) ((by decide)) c_287
        exact (by omega : False).elim
      · skip
        have c_287' : pz.toInt = 0 := jb_ne_n (rfl) ((by decide)) c_287
        first | (have hr_3_2q := hr_3_2.resolve_left (by omega); clear hr_3_2) | (have hr_3_2q := hr_3_2.resolve_right (by omega); clear hr_3_2) | skip
        refine lv_aload_n hx hb dX11_request_72 rfl (lv_at hl 2 rfl) ?_
        refine lv_aload_n hx hb dX11_request_73 rfl (lv_at hl 3 rfl) ?_
        refine lv_sipush (v := (-32002)) hx hb dX11_request_74 (by decide) ?_
        try clear hsz_4 htt_4 hrc_4 hrs_4
        have hsz_288 := hh_4.2.2.2.2.2.1
        have htt_288 := hh_4.2.2.2.2.2.2.1
        refine W.room (fun hrc_288 hrs_288 => ?_)
        refine va_callv (A0 := jA base) (H0 := s.heap) (va_runV (As := [.ref r1, .int (-32002)]) (rest := []) ⟨hx, hb, hml, hown, hts⟩ (uX11_refuse l dC dI ca base B hB hAp hB2 hB4 hB10 hB13 hB17 hB196 hB199 G0 H_4 r0 r1 (-32002) bo pc pa n_pa ou LC LS) (cwV 2 hts (jgV (jWr_26 _ (List.mem_of_getElem? (i := 3) rfl)) (jWr_26 _ (List.mem_of_getElem? (i := 4) rfl)) (jWr_26 _ (List.mem_of_getElem? (i := 5) rfl)) (jWr_1 _ (List.mem_of_getElem? (i := 2) rfl)) (jWr_26 _ (List.mem_of_getElem? (i := 6) rfl))) rfl rfl rfl (by decide +kernel) ⟨by rw [← hR]; exact Nat.le_of_ble_eq_true rfl, by rw [← hR]; exact Nat.le_of_ble_eq_true rfl⟩) ⟨fun a U g mk q => by obtain ⟨q0, q1, q2, qK, q10, q11, q12, q13, q14, q15, q16, q17⟩ := q; exact ⟨q0, q1, q2, jG.calling g mk a qK, q10, q11, q12, q13, q14, q15, q16, q17⟩, hh_4.recv (C := RX11) (T := TX11) (N := 19) hB13 rfl (by decide) hg_r0 hK, fun U hU hW => ⟨rfl, hU, hh_4.2.1, hG.step hW hU hh_4.1, hg_r1, hg_r0, hg_bo, hg_pa, hg_ou, (hh_4.2.2.1.sub (L1 := [(r0, 13, 4, .ref bo), (bo, 2, 1, .int pc), (bo, 2, 0, .ref pa), (r0, 13, 3, .ref ou)]) [0, 1, 2, 3] rfl), (hh_4.2.2.2.2.2.2.2.2.sub (L1 := [(jFy, jYb dC dI G0)]) [1] rfl), (by omega), (by omega), ⟨(by first | omega | rfl | assumption | fail), (by first | omega | rfl | assumption | fail), (by first | omega | rfl | assumption | fail), (by first | omega | rfl | assumption | fail), (by first | assumption | fail | omega)⟩⟩⟩ rfl rfl hl.1 rfl (lv_room (Nat.le_of_ble_eq_true rfl)) dX11_request_77 ⟨by rw [hRc]; omega, by rw [hRs]; omega⟩) hh_4.1 (fun q _ h => h) (fun q h => h) (fun u_288 t_288 H_288 locs_288 ht_288 hvm_288 hr_289 hb_288 hz_288 hk_288 hS_288 => ?_)
        obtain ⟨qc_288, qa_288, m_qa_288, G_288⟩ := u_288
        rw [ht_288] at hb_288
        simp only at hb_288
        obtain ⟨⟨hb_2881, hb_2882, hb_2883, hb_2884, hb_2885, hb_2886⟩, hgq_288_0, hN_288, hbO_288, hbE_288⟩ := hb_288
        have hW_288 := hN_288
        have hh_288 : jSt (dC, dI) B base G0 G_288 EX11_requestT s.heap (0 + ((m_qa_288 - n_pa) / 16)) (0 + (2 * (m_qa_288 - n_pa))) [(bo, 2, 1, .int qc_288), (bo, 2, 0, .ref qa_288), (r0, 13, 4, .ref bo), (r0, 13, 3, .ref ou), (r0, 13, 2, .ref js), (js, 6, 7, .int pv), (js, 6, 8, .int pu), (js, 6, 0, .ref wk), (js, 6, 1, .ref wi), (js, 6, 2, .ref wz), (js, 6, 3, .ref jnx), (js, 6, 4, .ref jkf), (js, 6, 5, .ref jks), (js, 6, 6, .ref jun), (r0, 13, 11, .int pz), (r0, 13, 7, .ref op), (op, 1, 2, .int sz), (r0, 13, 8, .ref wt_), (wt_, 1, 2, .int wn)] [(wk, 140, 1502, ca 1, fk), (wi, 141, 1502, ca 1, fi), (wz, 142, 1502, ca 1, fz), (jnx, 143, 1502, ca 1, fn), (jkf, 144, 1502, ca 1, fa), (jks, 145, 1502, ca 1, fs), (jun, 146, 3000, ca 1, fu)] [(jFs11, jSef dC dI G0), (jFl, jLs dC dI ca G0 3 none wl), (jFcd, jCD dC dI ca G0 none tq), (jFkd, jKD dC dI ca G0 none kq), (jFqd, jQD dC dI ca G0 none qq)] H_288 locs_288 := (hh_4.callG hb_2881 hb_2882 hb_2883 hb_2884 hb_2885 hS_288 rfl (L1 := [(r0, 13, 4, .ref bo), (r0, 13, 3, .ref ou), (r0, 13, 2, .ref js), (js, 6, 7, .int pv), (js, 6, 8, .int pu), (js, 6, 0, .ref wk), (js, 6, 1, .ref wi), (js, 6, 2, .ref wz), (js, 6, 3, .ref jnx), (js, 6, 4, .ref jkf), (js, 6, 5, .ref jks), (js, 6, 6, .ref jun), (r0, 13, 11, .int pz), (r0, 13, 7, .ref op), (op, 1, 2, .int sz), (r0, 13, 8, .ref wt_), (wt_, 1, 2, .int wn)]) [0, 3, 4, 5, 6, 7, 8, 9, 10, 11, 12, 13, 14, 15, 16, 17, 18] rfl rfl (M1 := [(wk, 140, 1502, ca 1, fk), (wi, 141, 1502, ca 1, fi), (wz, 142, 1502, ca 1, fz), (jnx, 143, 1502, ca 1, fn), (jkf, 144, 1502, ca 1, fa), (jks, 145, 1502, ca 1, fs), (jun, 146, 3000, ca 1, fu)]) [0, 1, 2, 3, 4, 5, 6] rfl rfl (I1 := [(jFs11, jSef dC dI G0), (jFl, jLs dC dI ca G0 3 none wl), (jFcd, jCD dC dI ca G0 none tq), (jFkd, jKD dC dI ca G0 none kq), (jFqd, jQD dC dI ca G0 none qq)]) [2, 3, 4, 5, 6] rfl rfl).more hb_2886
        have hNn_288 : (jNk [0, 1, 2, 3, 4, 5, 6, 7, 8, 9, 10, 11, 12, 13, 14, 15, 16, 17, 175]) G0 G_288 := (jNk.rf).tr hN_288
        have hg_290 := hb_2882 _ _ hg_r0
        have hg_291 := hb_2882 _ _ hg_r1
        have hg_292 := hb_2882 _ _ hg_bo
        have hg_293 := hb_2882 _ _ hg_ou
        have hg_294 := hb_2882 _ _ hg_js
        have hg_295 := hb_2882 _ _ hg_wk
        have hg_296 := hb_2882 _ _ hg_wi
        have hg_297 := hb_2882 _ _ hg_wz
        have hg_298 := hb_2882 _ _ hg_jnx
        have hg_299 := hb_2882 _ _ hg_jkf
        have hg_300 := hb_2882 _ _ hg_jks
        have hg_301 := hb_2882 _ _ hg_jun
        have hg_302 := hb_2882 _ _ hg_op
        have hg_303 := hb_2882 _ _ hg_wt_
        have hd_304 := jSef.grow (hh_288.iv 0 rfl) hb_2882 hN_288 (by decide)
        have hh_305 := hh_288.sub (L1 := [(bo, 2, 1, .int qc_288), (bo, 2, 0, .ref qa_288), (r0, 13, 4, .ref bo), (r0, 13, 3, .ref ou), (r0, 13, 2, .ref js), (js, 6, 7, .int pv), (js, 6, 8, .int pu), (js, 6, 0, .ref wk), (js, 6, 1, .ref wi), (js, 6, 2, .ref wz), (js, 6, 3, .ref jnx), (js, 6, 4, .ref jkf), (js, 6, 5, .ref jks), (js, 6, 6, .ref jun), (r0, 13, 11, .int pz), (r0, 13, 7, .ref op), (op, 1, 2, .int sz), (r0, 13, 8, .ref wt_), (wt_, 1, 2, .int wn)]) [0, 1, 2, 3, 4, 5, 6, 7, 8, 9, 10, 11, 12, 13, 14, 15, 16, 17, 18] rfl (M1 := [(wk, 140, 1502, ca 1, fk), (wi, 141, 1502, ca 1, fi), (wz, 142, 1502, ca 1, fz), (jnx, 143, 1502, ca 1, fn), (jkf, 144, 1502, ca 1, fa), (jks, 145, 1502, ca 1, fs), (jun, 146, 3000, ca 1, fu)]) [0, 1, 2, 3, 4, 5, 6] rfl (I1 := [(jFl, jLs dC dI ca G0 3 none wl), (jFcd, jCD dC dI ca G0 none tq), (jFkd, jKD dC dI ca G0 none kq), (jFqd, jQD dC dI ca G0 none qq)]) [1, 2, 3, 4] rfl
        clear hh_288
        have hh_306 := hh_305.addI (jSef.ie hd_304)
        clear hh_305
        have hd_307 := jLs.grow (hh_306.iv 1 rfl) hb_2882 hN_288 (by decide)
        have hh_308 := hh_306.sub (L1 := [(bo, 2, 1, .int qc_288), (bo, 2, 0, .ref qa_288), (r0, 13, 4, .ref bo), (r0, 13, 3, .ref ou), (r0, 13, 2, .ref js), (js, 6, 7, .int pv), (js, 6, 8, .int pu), (js, 6, 0, .ref wk), (js, 6, 1, .ref wi), (js, 6, 2, .ref wz), (js, 6, 3, .ref jnx), (js, 6, 4, .ref jkf), (js, 6, 5, .ref jks), (js, 6, 6, .ref jun), (r0, 13, 11, .int pz), (r0, 13, 7, .ref op), (op, 1, 2, .int sz), (r0, 13, 8, .ref wt_), (wt_, 1, 2, .int wn)]) [0, 1, 2, 3, 4, 5, 6, 7, 8, 9, 10, 11, 12, 13, 14, 15, 16, 17, 18] rfl (M1 := [(wk, 140, 1502, ca 1, fk), (wi, 141, 1502, ca 1, fi), (wz, 142, 1502, ca 1, fz), (jnx, 143, 1502, ca 1, fn), (jkf, 144, 1502, ca 1, fa), (jks, 145, 1502, ca 1, fs), (jun, 146, 3000, ca 1, fu)]) [0, 1, 2, 3, 4, 5, 6] rfl (I1 := [(jFs11, jSef dC dI G_288), (jFcd, jCD dC dI ca G0 none tq), (jFkd, jKD dC dI ca G0 none kq), (jFqd, jQD dC dI ca G0 none qq)]) [0, 2, 3, 4] rfl
        clear hh_306
        have hh_309 := hh_308.addI (jLs.ie hd_307)
        clear hh_308
        have hd_310 := jCD.grow (hh_309.iv 2 rfl) hb_2882 hN_288 (by decide)
        have hh_311 := hh_309.sub (L1 := [(bo, 2, 1, .int qc_288), (bo, 2, 0, .ref qa_288), (r0, 13, 4, .ref bo), (r0, 13, 3, .ref ou), (r0, 13, 2, .ref js), (js, 6, 7, .int pv), (js, 6, 8, .int pu), (js, 6, 0, .ref wk), (js, 6, 1, .ref wi), (js, 6, 2, .ref wz), (js, 6, 3, .ref jnx), (js, 6, 4, .ref jkf), (js, 6, 5, .ref jks), (js, 6, 6, .ref jun), (r0, 13, 11, .int pz), (r0, 13, 7, .ref op), (op, 1, 2, .int sz), (r0, 13, 8, .ref wt_), (wt_, 1, 2, .int wn)]) [0, 1, 2, 3, 4, 5, 6, 7, 8, 9, 10, 11, 12, 13, 14, 15, 16, 17, 18] rfl (M1 := [(wk, 140, 1502, ca 1, fk), (wi, 141, 1502, ca 1, fi), (wz, 142, 1502, ca 1, fz), (jnx, 143, 1502, ca 1, fn), (jkf, 144, 1502, ca 1, fa), (jks, 145, 1502, ca 1, fs), (jun, 146, 3000, ca 1, fu)]) [0, 1, 2, 3, 4, 5, 6] rfl (I1 := [(jFl, jLs dC dI ca G_288 3 none wl), (jFs11, jSef dC dI G_288), (jFkd, jKD dC dI ca G0 none kq), (jFqd, jQD dC dI ca G0 none qq)]) [0, 1, 3, 4] rfl
        clear hh_309
        have hh_312 := hh_311.addI (jCD.ie hd_310)
        clear hh_311
        have hd_313 := jKD.grow (ca := ca) (hh_312.iv 3 rfl) hb_2882 hW_288 (by decide)
        have hh_314 := hh_312.sub (L1 := [(bo, 2, 1, .int qc_288), (bo, 2, 0, .ref qa_288), (r0, 13, 4, .ref bo), (r0, 13, 3, .ref ou), (r0, 13, 2, .ref js), (js, 6, 7, .int pv), (js, 6, 8, .int pu), (js, 6, 0, .ref wk), (js, 6, 1, .ref wi), (js, 6, 2, .ref wz), (js, 6, 3, .ref jnx), (js, 6, 4, .ref jkf), (js, 6, 5, .ref jks), (js, 6, 6, .ref jun), (r0, 13, 11, .int pz), (r0, 13, 7, .ref op), (op, 1, 2, .int sz), (r0, 13, 8, .ref wt_), (wt_, 1, 2, .int wn)]) [0, 1, 2, 3, 4, 5, 6, 7, 8, 9, 10, 11, 12, 13, 14, 15, 16, 17, 18] rfl (M1 := [(wk, 140, 1502, ca 1, fk), (wi, 141, 1502, ca 1, fi), (wz, 142, 1502, ca 1, fz), (jnx, 143, 1502, ca 1, fn), (jkf, 144, 1502, ca 1, fa), (jks, 145, 1502, ca 1, fs), (jun, 146, 3000, ca 1, fu)]) [0, 1, 2, 3, 4, 5, 6] rfl (I1 := [(jFcd, jCD dC dI ca G_288 none tq), (jFl, jLs dC dI ca G_288 3 none wl), (jFs11, jSef dC dI G_288), (jFqd, jQD dC dI ca G0 none qq)]) [0, 1, 2, 4] rfl
        clear hh_312
        have hh_315 := hh_314.addI (jKD.ie hd_313)
        clear hh_314
        have hd_316 := jQD.grow (ca := ca) (hh_315.iv 4 rfl) hb_2882 hW_288 (by decide)
        have hh_317 := hh_315.sub (L1 := [(bo, 2, 1, .int qc_288), (bo, 2, 0, .ref qa_288), (r0, 13, 4, .ref bo), (r0, 13, 3, .ref ou), (r0, 13, 2, .ref js), (js, 6, 7, .int pv), (js, 6, 8, .int pu), (js, 6, 0, .ref wk), (js, 6, 1, .ref wi), (js, 6, 2, .ref wz), (js, 6, 3, .ref jnx), (js, 6, 4, .ref jkf), (js, 6, 5, .ref jks), (js, 6, 6, .ref jun), (r0, 13, 11, .int pz), (r0, 13, 7, .ref op), (op, 1, 2, .int sz), (r0, 13, 8, .ref wt_), (wt_, 1, 2, .int wn)]) [0, 1, 2, 3, 4, 5, 6, 7, 8, 9, 10, 11, 12, 13, 14, 15, 16, 17, 18] rfl (M1 := [(wk, 140, 1502, ca 1, fk), (wi, 141, 1502, ca 1, fi), (wz, 142, 1502, ca 1, fz), (jnx, 143, 1502, ca 1, fn), (jkf, 144, 1502, ca 1, fa), (jks, 145, 1502, ca 1, fs), (jun, 146, 3000, ca 1, fu)]) [0, 1, 2, 3, 4, 5, 6] rfl (I1 := [(jFkd, jKD dC dI ca G_288 none kq), (jFcd, jCD dC dI ca G_288 none tq), (jFl, jLs dC dI ca G_288 3 none wl), (jFs11, jSef dC dI G_288)]) [0, 1, 2, 3] rfl
        clear hh_315
        have hh_318 := hh_317.addI (jQD.ie hd_316)
        clear hh_317
        have hh_319 := hh_318.addIs hbE_288
        have hd_320 := jOl.trL (hh_4.iv 0 rfl) hh_4.2.2.2.2.1 hbO_288 (by simp)
        have hh_321 := hh_319.addI (jOl.ie (dC := dC) (dI := dI) (G0 := G0) (k := 2) (rs := [bo, ou]) (H0 := s.heap) (F := [(2, 0), (2, 1)]) (C := RX0) (T := TX0) (N := 2) rfl (by decide) hh_319.2.2.2.2.1 (hd_320))
        clear hh_319
        try simp only at hr_289
        obtain ⟨hr_289_0, hr_289_1, hr_289_2, hr_289_3, hr_289_4⟩ := hr_289
        have hh_322 := hh_321.wk (zc1 := (m_qa_288 - n_pa) / 16 + 2) (zs1 := 2 * (m_qa_288 - n_pa) + 40 + pu.toInt.toNat) (by omega) (by omega)
        clear hh_321
        try clear hsz_288 htt_288 hrc_288 hrs_288
        try clear hb_2884 hb_2885
        refine lv_goto (tgt := 212) hx hb dX11_request_80 (by decide) ?_
        have hqz9 : (pz.toInt : Int) = jdRq T9 pv.toInt pz.toInt := by have h9 : jdRq T9 pv.toInt pz.toInt = _ := jdRq.b hm9 (by omega) (by rw [← hin9]; omega); omega
        try clear hsz_288 htt_288 hrc_288 hrs_288
        have hsz_323 := hh_322.2.2.2.2.2.1
        have htt_323 := hh_322.2.2.2.2.2.2.1
        refine W.room (fun hrc_323 hrs_323 => ?_)
        refine W.widen (k := LC - s.heap.size) (n := LS - jTot s.heap) (by omega) (by omega) ?_
        rw [hQ]
        exact W.vret hx hb hr (fun t ht hW => ⟨⟨(qc_288, pz, qa_288, m_qa_288, wl, qq, G_288), rfl, by skip; (try dsimp only); refine ⟨(by first | (with_reducible assumption) | omega | exact hqz9), (by first | (with_reducible assumption) | omega | exact hqz9), (by first | (with_reducible assumption) | omega | exact hqz9), (by first | (with_reducible assumption) | omega | exact hqz9), (by first | (with_reducible assumption) | omega | exact hqz9), (by first | (with_reducible assumption) | omega | exact hqz9), ?_⟩; rw [jwRq.z1 hm9 (by omega)]; exact hCz9, ⟨hh_322.ra (by first | (simp only; omega) | omega) (by first | (simp only; omega) | omega) (M1 := [(bo, 2, 1, .int qc_288), (r0, 13, 11, .int pz), (bo, 2, 0, .ref qa_288)]) [0, 14, 1] rfl ht, hgq_288_0, hNn_288, by rw [ht]; exact hh_322.iv 0 rfl, by rw [ht]; exact hh_322.2.2.2.2.2.2.2.2.sub (L1 := [(jFy, jYb dC dI G_288), (jFs11, jSef dC dI G_288), (jFl, jLs dC dI ca G_288 3 none wl), (jFcd, jCD dC dI ca G_288 none tq), (jFkd, jKD dC dI ca G_288 none kq), (jFqd, jQD dC dI ca G_288 none qq)]) [1, 6, 5, 4, 3, 2] rfl⟩⟩, by rw [ht]; try exact hh_322.1.1, fun q h9 hq => by rw [ht]; try exact hh_322.1.2.1 q h9 hq⟩) hh_322.1.2.2 dX11_request_212
    · skip
      have c_286' : r_5.toInt ≠ 0 := jb_eq_n (rfl) ((by decide)) c_286
      first | (have hr_3_2q := hr_3_2.resolve_left (by omega); clear hr_3_2) | (have hr_3_2q := hr_3_2.resolve_right (by omega); clear hr_3_2) | skip
      first | (have hr_5p_0q := hr_5p_0.resolve_left (by omega); clear hr_5p_0) | (have hr_5p_0q := hr_5p_0.resolve_right (by omega); clear hr_5p_0) | skip
      refine lv_aload_n hx hb dX11_request_35 rfl (lv_at hl 2 rfl) ?_
      refine lv_iconst (v := 1) hx hb dX11_request_36 (by decide) ?_
      refine j7_put hx hb hown hK hh_4 hB hAp hB13 (C := RX11) (T := TX11) (N := 19) rfl (by decide) hg_r0 (i := 11) (by decide) hly_13_11 rfl hlk_77 rfl (ty := .int) (v := .int 1) (by decide +kernel) rfl rfl (⟨_, rfl, by omega, by omega⟩) rfl (L1 := [(r0, 13, 4, .ref bo), (bo, 2, 1, .int pc), (bo, 2, 0, .ref pa), (r0, 13, 3, .ref ou), (r0, 13, 2, .ref js), (js, 6, 7, .int pv), (js, 6, 8, .int pu), (js, 6, 0, .ref wk), (js, 6, 1, .ref wi), (js, 6, 2, .ref wz), (js, 6, 3, .ref jnx), (js, 6, 4, .ref jkf), (js, 6, 5, .ref jks), (js, 6, 6, .ref jun), (r0, 13, 7, .ref op), (op, 1, 2, .int sz), (r0, 13, 8, .ref wt_), (wt_, 1, 2, .int wn)]) [0, 1, 2, 3, 4, 5, 6, 7, 8, 9, 10, 11, 12, 13, 15, 16, 17, 18] rfl rfl rfl dX11_request_37 (fun H_324 locs_324 hh_324 => ?_)
      clear hh_4
      refine lv_aload_n hx hb dX11_request_40 rfl (lv_at hl 2 rfl) ?_
      refine lv_aload_n hx hb dX11_request_41 rfl (lv_at hl 3 rfl) ?_
      refine j_ldcSw hx hb hown rstr289 dX11_request_42 ?_
      try clear hsz_4 htt_4 hrc_4 hrs_4
      have hsz_325 := hh_324.2.2.2.2.2.1
      have htt_325 := hh_324.2.2.2.2.2.2.1
      refine W.room (fun hrc_325 hrs_325 => ?_)
      refine va_callv (A0 := jA base) (H0 := s.heap) (va_runV (As := [.ref r1, .ref str289]) (rest := []) ⟨hx, hb, hml, hown, hts⟩ (uX11_beginAnswer l dC dI ca base B hB hAp hB2 hB10 hB13 hB17 hB196 hB199 G0 H_324 r0 r1 str289 10 bo pc pa n_pa LC LS) (cwV 2 hts (jgV (jWr_26 _ (List.mem_of_getElem? (i := 7) rfl)) (jWr_26 _ (List.mem_of_getElem? (i := 8) rfl)) (jWr_26 _ (List.mem_of_getElem? (i := 9) rfl)) (jWr_1 _ (List.mem_of_getElem? (i := 2) rfl)) (jWr_26 _ (List.mem_of_getElem? (i := 10) rfl))) rfl rfl rfl (by decide +kernel) ⟨by rw [← hR]; exact Nat.le_of_ble_eq_true rfl, by rw [← hR]; exact Nat.le_of_ble_eq_true rfl⟩) ⟨fun a U g mk q => by obtain ⟨q0, q1, q2, qK, q10, q11, q12, q13, q14, q15, q16, q17⟩ := q; exact ⟨q0, q1, q2, jG.calling g mk a qK, (q10.moved (Vm.Alike.refl U.vm)), q11, q12, q13, q14, q15, q16, q17⟩, hh_324.recv (C := RX11) (T := TX11) (N := 19) hB13 rfl (by decide) hg_r0 hK, fun U hU hW => ⟨rfl, hU, hh_324.2.1, hG.step hW hU hh_324.1, (hstr289.moved hW.alike).kept hh_324.1.2.1, hg_r1, hg_r0, hg_bo, hg_pa, (hh_324.2.2.1.sub (L1 := [(r0, 13, 4, .ref bo), (bo, 2, 1, .int pc), (bo, 2, 0, .ref pa)]) [1, 2, 3] rfl), (hh_324.2.2.2.2.2.2.2.2.sub (L1 := [(jFy, jYb dC dI G0)]) [1] rfl), (by omega), (by omega), ⟨(by first | omega | rfl | assumption | fail), (by first | omega | rfl | assumption | fail), (by first | omega | rfl | assumption | fail), (by first | omega | rfl | assumption | fail), (by first | assumption | fail | omega), (by first | omega | rfl | assumption | fail)⟩⟩⟩ rfl rfl hl.1 rfl (lv_room (Nat.le_of_ble_eq_true rfl)) dX11_request_45 ⟨by rw [hRc]; omega, by rw [hRs]; omega⟩) hh_324.1 (fun q _ h => h) (fun q h => h) (fun u_325 t_325 H_325 locs_325 ht_325 hvm_325 hr_326 hb_325 hz_325 hk_325 hS_325 => ?_)
      obtain ⟨qc_325, qa_325, m_qa_325, G_325⟩ := u_325
      rw [ht_325] at hb_325
      simp only at hb_325
      obtain ⟨⟨hb_3251, hb_3252, hb_3253, hb_3254, hb_3255, hb_3256⟩, hgq_325_0, hN_325, hbO_325, hbE_325⟩ := hb_325
      have hW_325 := hN_325
      have hh_325 : jSt (dC, dI) B base G0 G_325 EX11_requestT s.heap (0 + ((m_qa_325 - n_pa) / 16)) (0 + (2 * (m_qa_325 - n_pa))) [(bo, 2, 1, .int qc_325), (bo, 2, 0, .ref qa_325), (r0, 13, 11, .int 1), (r0, 13, 4, .ref bo), (r0, 13, 3, .ref ou), (r0, 13, 2, .ref js), (js, 6, 7, .int pv), (js, 6, 8, .int pu), (js, 6, 0, .ref wk), (js, 6, 1, .ref wi), (js, 6, 2, .ref wz), (js, 6, 3, .ref jnx), (js, 6, 4, .ref jkf), (js, 6, 5, .ref jks), (js, 6, 6, .ref jun), (r0, 13, 7, .ref op), (op, 1, 2, .int sz), (r0, 13, 8, .ref wt_), (wt_, 1, 2, .int wn)] [(wk, 140, 1502, ca 1, fk), (wi, 141, 1502, ca 1, fi), (wz, 142, 1502, ca 1, fz), (jnx, 143, 1502, ca 1, fn), (jkf, 144, 1502, ca 1, fa), (jks, 145, 1502, ca 1, fs), (jun, 146, 3000, ca 1, fu)] [(jFs11, jSef dC dI G0), (jFl, jLs dC dI ca G0 3 none wl), (jFcd, jCD dC dI ca G0 none tq), (jFkd, jKD dC dI ca G0 none kq), (jFqd, jQD dC dI ca G0 none qq)] H_325 locs_325 := (hh_324.callG hb_3251 hb_3252 hb_3253 hb_3254 hb_3255 hS_325 rfl (L1 := [(r0, 13, 11, .int 1), (r0, 13, 4, .ref bo), (r0, 13, 3, .ref ou), (r0, 13, 2, .ref js), (js, 6, 7, .int pv), (js, 6, 8, .int pu), (js, 6, 0, .ref wk), (js, 6, 1, .ref wi), (js, 6, 2, .ref wz), (js, 6, 3, .ref jnx), (js, 6, 4, .ref jkf), (js, 6, 5, .ref jks), (js, 6, 6, .ref jun), (r0, 13, 7, .ref op), (op, 1, 2, .int sz), (r0, 13, 8, .ref wt_), (wt_, 1, 2, .int wn)]) [0, 1, 4, 5, 6, 7, 8, 9, 10, 11, 12, 13, 14, 15, 16, 17, 18] rfl rfl (M1 := [(wk, 140, 1502, ca 1, fk), (wi, 141, 1502, ca 1, fi), (wz, 142, 1502, ca 1, fz), (jnx, 143, 1502, ca 1, fn), (jkf, 144, 1502, ca 1, fa), (jks, 145, 1502, ca 1, fs), (jun, 146, 3000, ca 1, fu)]) [0, 1, 2, 3, 4, 5, 6] rfl rfl (I1 := [(jFs11, jSef dC dI G0), (jFl, jLs dC dI ca G0 3 none wl), (jFcd, jCD dC dI ca G0 none tq), (jFkd, jKD dC dI ca G0 none kq), (jFqd, jQD dC dI ca G0 none qq)]) [2, 3, 4, 5, 6] rfl rfl).more hb_3256
      have hNn_325 : (jNk [0, 1, 2, 3, 4, 5, 6, 7, 8, 9, 10, 11, 12, 13, 14, 15, 16, 17, 175]) G0 G_325 := (jNk.rf).tr hN_325
      have hg_327 := hb_3252 _ _ hg_r0
      have hg_328 := hb_3252 _ _ hg_r1
      have hg_329 := hb_3252 _ _ hg_bo
      have hg_330 := hb_3252 _ _ hg_ou
      have hg_331 := hb_3252 _ _ hg_js
      have hg_332 := hb_3252 _ _ hg_wk
      have hg_333 := hb_3252 _ _ hg_wi
      have hg_334 := hb_3252 _ _ hg_wz
      have hg_335 := hb_3252 _ _ hg_jnx
      have hg_336 := hb_3252 _ _ hg_jkf
      have hg_337 := hb_3252 _ _ hg_jks
      have hg_338 := hb_3252 _ _ hg_jun
      have hg_339 := hb_3252 _ _ hg_op
      have hg_340 := hb_3252 _ _ hg_wt_
      have hd_341 := jSef.grow (hh_325.iv 0 rfl) hb_3252 hN_325 (by decide)
      have hh_342 := hh_325.sub (L1 := [(bo, 2, 1, .int qc_325), (bo, 2, 0, .ref qa_325), (r0, 13, 11, .int 1), (r0, 13, 4, .ref bo), (r0, 13, 3, .ref ou), (r0, 13, 2, .ref js), (js, 6, 7, .int pv), (js, 6, 8, .int pu), (js, 6, 0, .ref wk), (js, 6, 1, .ref wi), (js, 6, 2, .ref wz), (js, 6, 3, .ref jnx), (js, 6, 4, .ref jkf), (js, 6, 5, .ref jks), (js, 6, 6, .ref jun), (r0, 13, 7, .ref op), (op, 1, 2, .int sz), (r0, 13, 8, .ref wt_), (wt_, 1, 2, .int wn)]) [0, 1, 2, 3, 4, 5, 6, 7, 8, 9, 10, 11, 12, 13, 14, 15, 16, 17, 18] rfl (M1 := [(wk, 140, 1502, ca 1, fk), (wi, 141, 1502, ca 1, fi), (wz, 142, 1502, ca 1, fz), (jnx, 143, 1502, ca 1, fn), (jkf, 144, 1502, ca 1, fa), (jks, 145, 1502, ca 1, fs), (jun, 146, 3000, ca 1, fu)]) [0, 1, 2, 3, 4, 5, 6] rfl (I1 := [(jFl, jLs dC dI ca G0 3 none wl), (jFcd, jCD dC dI ca G0 none tq), (jFkd, jKD dC dI ca G0 none kq), (jFqd, jQD dC dI ca G0 none qq)]) [1, 2, 3, 4] rfl
      clear hh_325
      have hh_343 := hh_342.addI (jSef.ie hd_341)
      clear hh_342
      have hd_344 := jLs.grow (hh_343.iv 1 rfl) hb_3252 hN_325 (by decide)
      have hh_345 := hh_343.sub (L1 := [(bo, 2, 1, .int qc_325), (bo, 2, 0, .ref qa_325), (r0, 13, 11, .int 1), (r0, 13, 4, .ref bo), (r0, 13, 3, .ref ou), (r0, 13, 2, .ref js), (js, 6, 7, .int pv), (js, 6, 8, .int pu), (js, 6, 0, .ref wk), (js, 6, 1, .ref wi), (js, 6, 2, .ref wz), (js, 6, 3, .ref jnx), (js, 6, 4, .ref jkf), (js, 6, 5, .ref jks), (js, 6, 6, .ref jun), (r0, 13, 7, .ref op), (op, 1, 2, .int sz), (r0, 13, 8, .ref wt_), (wt_, 1, 2, .int wn)]) [0, 1, 2, 3, 4, 5, 6, 7, 8, 9, 10, 11, 12, 13, 14, 15, 16, 17, 18] rfl (M1 := [(wk, 140, 1502, ca 1, fk), (wi, 141, 1502, ca 1, fi), (wz, 142, 1502, ca 1, fz), (jnx, 143, 1502, ca 1, fn), (jkf, 144, 1502, ca 1, fa), (jks, 145, 1502, ca 1, fs), (jun, 146, 3000, ca 1, fu)]) [0, 1, 2, 3, 4, 5, 6] rfl (I1 := [(jFs11, jSef dC dI G_325), (jFcd, jCD dC dI ca G0 none tq), (jFkd, jKD dC dI ca G0 none kq), (jFqd, jQD dC dI ca G0 none qq)]) [0, 2, 3, 4] rfl
      clear hh_343
      have hh_346 := hh_345.addI (jLs.ie hd_344)
      clear hh_345
      have hd_347 := jCD.grow (hh_346.iv 2 rfl) hb_3252 hN_325 (by decide)
      have hh_348 := hh_346.sub (L1 := [(bo, 2, 1, .int qc_325), (bo, 2, 0, .ref qa_325), (r0, 13, 11, .int 1), (r0, 13, 4, .ref bo), (r0, 13, 3, .ref ou), (r0, 13, 2, .ref js), (js, 6, 7, .int pv), (js, 6, 8, .int pu), (js, 6, 0, .ref wk), (js, 6, 1, .ref wi), (js, 6, 2, .ref wz), (js, 6, 3, .ref jnx), (js, 6, 4, .ref jkf), (js, 6, 5, .ref jks), (js, 6, 6, .ref jun), (r0, 13, 7, .ref op), (op, 1, 2, .int sz), (r0, 13, 8, .ref wt_), (wt_, 1, 2, .int wn)]) [0, 1, 2, 3, 4, 5, 6, 7, 8, 9, 10, 11, 12, 13, 14, 15, 16, 17, 18] rfl (M1 := [(wk, 140, 1502, ca 1, fk), (wi, 141, 1502, ca 1, fi), (wz, 142, 1502, ca 1, fz), (jnx, 143, 1502, ca 1, fn), (jkf, 144, 1502, ca 1, fa), (jks, 145, 1502, ca 1, fs), (jun, 146, 3000, ca 1, fu)]) [0, 1, 2, 3, 4, 5, 6] rfl (I1 := [(jFl, jLs dC dI ca G_325 3 none wl), (jFs11, jSef dC dI G_325), (jFkd, jKD dC dI ca G0 none kq), (jFqd, jQD dC dI ca G0 none qq)]) [0, 1, 3, 4] rfl
      clear hh_346
      have hh_349 := hh_348.addI (jCD.ie hd_347)
      clear hh_348
      have hd_350 := jKD.grow (ca := ca) (hh_349.iv 3 rfl) hb_3252 hW_325 (by decide)
      have hh_351 := hh_349.sub (L1 := [(bo, 2, 1, .int qc_325), (bo, 2, 0, .ref qa_325), (r0, 13, 11, .int 1), (r0, 13, 4, .ref bo), (r0, 13, 3, .ref ou), (r0, 13, 2, .ref js), (js, 6, 7, .int pv), (js, 6, 8, .int pu), (js, 6, 0, .ref wk), (js, 6, 1, .ref wi), (js, 6, 2, .ref wz), (js, 6, 3, .ref jnx), (js, 6, 4, .ref jkf), (js, 6, 5, .ref jks), (js, 6, 6, .ref jun), (r0, 13, 7, .ref op), (op, 1, 2, .int sz), (r0, 13, 8, .ref wt_), (wt_, 1, 2, .int wn)]) [0, 1, 2, 3, 4, 5, 6, 7, 8, 9, 10, 11, 12, 13, 14, 15, 16, 17, 18] rfl (M1 := [(wk, 140, 1502, ca 1, fk), (wi, 141, 1502, ca 1, fi), (wz, 142, 1502, ca 1, fz), (jnx, 143, 1502, ca 1, fn), (jkf, 144, 1502, ca 1, fa), (jks, 145, 1502, ca 1, fs), (jun, 146, 3000, ca 1, fu)]) [0, 1, 2, 3, 4, 5, 6] rfl (I1 := [(jFcd, jCD dC dI ca G_325 none tq), (jFl, jLs dC dI ca G_325 3 none wl), (jFs11, jSef dC dI G_325), (jFqd, jQD dC dI ca G0 none qq)]) [0, 1, 2, 4] rfl
      clear hh_349
      have hh_352 := hh_351.addI (jKD.ie hd_350)
      clear hh_351
      have hd_353 := jQD.grow (ca := ca) (hh_352.iv 4 rfl) hb_3252 hW_325 (by decide)
      have hh_354 := hh_352.sub (L1 := [(bo, 2, 1, .int qc_325), (bo, 2, 0, .ref qa_325), (r0, 13, 11, .int 1), (r0, 13, 4, .ref bo), (r0, 13, 3, .ref ou), (r0, 13, 2, .ref js), (js, 6, 7, .int pv), (js, 6, 8, .int pu), (js, 6, 0, .ref wk), (js, 6, 1, .ref wi), (js, 6, 2, .ref wz), (js, 6, 3, .ref jnx), (js, 6, 4, .ref jkf), (js, 6, 5, .ref jks), (js, 6, 6, .ref jun), (r0, 13, 7, .ref op), (op, 1, 2, .int sz), (r0, 13, 8, .ref wt_), (wt_, 1, 2, .int wn)]) [0, 1, 2, 3, 4, 5, 6, 7, 8, 9, 10, 11, 12, 13, 14, 15, 16, 17, 18] rfl (M1 := [(wk, 140, 1502, ca 1, fk), (wi, 141, 1502, ca 1, fi), (wz, 142, 1502, ca 1, fz), (jnx, 143, 1502, ca 1, fn), (jkf, 144, 1502, ca 1, fa), (jks, 145, 1502, ca 1, fs), (jun, 146, 3000, ca 1, fu)]) [0, 1, 2, 3, 4, 5, 6] rfl (I1 := [(jFkd, jKD dC dI ca G_325 none kq), (jFcd, jCD dC dI ca G_325 none tq), (jFl, jLs dC dI ca G_325 3 none wl), (jFs11, jSef dC dI G_325)]) [0, 1, 2, 3] rfl
      clear hh_352
      have hh_355 := hh_354.addI (jQD.ie hd_353)
      clear hh_354
      have hh_356 := hh_355.addIs hbE_325
      have hd_357 := jOl.trL (hh_324.iv 0 rfl) hh_324.2.2.2.2.1 hbO_325 (by simp)
      have hh_358 := hh_356.addI (jOl.ie (dC := dC) (dI := dI) (G0 := G0) (k := 2) (rs := [bo, ou]) (H0 := s.heap) (F := [(2, 0), (2, 1)]) (C := RX0) (T := TX0) (N := 2) rfl (by decide) hh_356.2.2.2.2.1 (hd_357))
      clear hh_356
      try simp only at hr_326
      obtain ⟨hr_326_0, hr_326_1, hr_326_2, hr_326_3, hr_326_4⟩ := hr_326
      have hh_359 := hh_358.wk (zc1 := (m_qa_325 - n_pa) / 16 + 2) (zs1 := 2 * (m_qa_325 - n_pa) + 40 + pu.toInt.toNat) (by omega) (by omega)
      clear hh_358
      try clear hsz_325 htt_325 hrc_325 hrs_325
      try clear hb_3254 hb_3255
      refine lv_aload_n hx hb dX11_request_48 rfl (lv_at hl 2 rfl) ?_
      refine j7_read hx hb hown hK (C := RX11) (T := TX11) (N := 19) rfl hly_13_4 hlk_35 (hh_359.at 3 rfl) dX11_request_49 ?_
      refine j_ldcSw hx hb hown rstr295 dX11_request_52 ?_
      try clear hsz_325 htt_325 hrc_325 hrs_325
      have hsz_360 := hh_359.2.2.2.2.2.1
      have htt_360 := hh_359.2.2.2.2.2.2.1
      refine W.room (fun hrc_360 hrs_360 => ?_)
      refine va_callv (A0 := jA base) (H0 := s.heap) (va_runV (As := [.ref str295]) (rest := []) ⟨hx, hb, hml, hown, hts⟩ (uX0_text l dC dI ca base B hB hAp hB2 hB196 G_325 H_325 bo str295 40 qc_325 qa_325 m_qa_325 LC LS) (cwV 1 hts (jgV (jWr_26 _ (List.mem_of_getElem? (i := 11) rfl)) (jWr_25 _ (List.mem_of_getElem? (i := 22) rfl)) (jWr_25 _ (List.mem_of_getElem? (i := 23) rfl)) (jWr_1 _ (List.mem_of_getElem? (i := 14) rfl)) (jWr_26 _ (List.mem_of_getElem? (i := 0) rfl))) rfl rfl rfl (by decide +kernel) ⟨by rw [← hR]; exact Nat.le_of_ble_eq_true rfl, by rw [← hR]; exact Nat.le_of_ble_eq_true rfl⟩) ⟨fun a U g mk q => by obtain ⟨q0, q1, q2, qK, q10, q11, q12, q13, q14⟩ := q; exact ⟨q0, q1, q2, jG.calling g mk a qK, (q10.moved (Vm.Alike.refl U.vm)), q11, q12, q13, q14⟩, hh_359.recv (C := RX0) (T := TX0) (N := 2) hB2 rfl (by decide) hg_329 hK, fun U hU hW => ⟨rfl, hU, hh_359.2.1, hG.step hW hU hh_359.1, (hstr295.moved hW.alike).kept hh_359.1.2.1, hg_329, hgq_325_0, (hh_359.2.2.1.sub (L1 := [(bo, 2, 1, .int qc_325), (bo, 2, 0, .ref qa_325)]) [0, 1] rfl), (by omega), (by omega), ⟨(by first | omega | rfl | assumption | fail), (by first | omega | rfl | assumption | fail), (by first | omega | rfl | assumption | fail), (by first | omega | rfl | assumption | fail), (by first | assumption | fail | omega), (by first | omega | rfl | assumption | fail)⟩⟩⟩ rfl rfl hl.1 rfl (lv_room (Nat.le_of_ble_eq_true rfl)) dX11_request_55 ⟨by rw [hRc]; omega, by rw [hRs]; omega⟩) hh_359.1 (fun q _ h => h) (fun q h => h) (fun u_360 t_360 H_360 locs_360 ht_360 hvm_360 hr_361 hb_360 hz_360 hk_360 hS_360 => ?_)
      obtain ⟨qc_360, qa_360, m_qa_360, G_360⟩ := u_360
      rw [ht_360] at hb_360
      simp only at hb_360
      obtain ⟨⟨hb_3601, hb_3602, hb_3603, hb_3604, hb_3605, hb_3606⟩, hgq_360_0, hN_360, hbO_360⟩ := hb_360
      have hW_360 := hN_360
      have hy_362 := hh_359.iv 1 rfl
      have hh_360 : jSt (dC, dI) B base G0 G_360 EX11_requestT s.heap (((m_qa_325 - n_pa) / 16 + 2) + ((m_qa_360 - m_qa_325) / 16)) ((2 * (m_qa_325 - n_pa) + 40 + pu.toInt.toNat) + (2 * (m_qa_360 - m_qa_325))) [(bo, 2, 1, .int qc_360), (bo, 2, 0, .ref qa_360), (r0, 13, 11, .int 1), (r0, 13, 4, .ref bo), (r0, 13, 3, .ref ou), (r0, 13, 2, .ref js), (js, 6, 7, .int pv), (js, 6, 8, .int pu), (js, 6, 0, .ref wk), (js, 6, 1, .ref wi), (js, 6, 2, .ref wz), (js, 6, 3, .ref jnx), (js, 6, 4, .ref jkf), (js, 6, 5, .ref jks), (js, 6, 6, .ref jun), (r0, 13, 7, .ref op), (op, 1, 2, .int sz), (r0, 13, 8, .ref wt_), (wt_, 1, 2, .int wn)] [(wk, 140, 1502, ca 1, fk), (wi, 141, 1502, ca 1, fi), (wz, 142, 1502, ca 1, fz), (jnx, 143, 1502, ca 1, fn), (jkf, 144, 1502, ca 1, fa), (jks, 145, 1502, ca 1, fs), (jun, 146, 3000, ca 1, fu)] [(jFqd, jQD dC dI ca G_325 none qq), (jFkd, jKD dC dI ca G_325 none kq), (jFcd, jCD dC dI ca G_325 none tq), (jFl, jLs dC dI ca G_325 3 none wl), (jFs11, jSef dC dI G_325)] H_360 locs_360 := (hh_359.callG hb_3601 hb_3602 hb_3603 hb_3604 hb_3605 hS_360 rfl (L1 := [(r0, 13, 11, .int 1), (r0, 13, 4, .ref bo), (r0, 13, 3, .ref ou), (r0, 13, 2, .ref js), (js, 6, 7, .int pv), (js, 6, 8, .int pu), (js, 6, 0, .ref wk), (js, 6, 1, .ref wi), (js, 6, 2, .ref wz), (js, 6, 3, .ref jnx), (js, 6, 4, .ref jkf), (js, 6, 5, .ref jks), (js, 6, 6, .ref jun), (r0, 13, 7, .ref op), (op, 1, 2, .int sz), (r0, 13, 8, .ref wt_), (wt_, 1, 2, .int wn)]) [2, 3, 4, 5, 6, 7, 8, 9, 10, 11, 12, 13, 14, 15, 16, 17, 18] rfl rfl (M1 := [(wk, 140, 1502, ca 1, fk), (wi, 141, 1502, ca 1, fi), (wz, 142, 1502, ca 1, fz), (jnx, 143, 1502, ca 1, fn), (jkf, 144, 1502, ca 1, fa), (jks, 145, 1502, ca 1, fs), (jun, 146, 3000, ca 1, fu)]) [0, 1, 2, 3, 4, 5, 6] rfl rfl (I1 := [(jFqd, jQD dC dI ca G_325 none qq), (jFkd, jKD dC dI ca G_325 none kq), (jFcd, jCD dC dI ca G_325 none tq), (jFl, jLs dC dI ca G_325 3 none wl), (jFs11, jSef dC dI G_325)]) [2, 3, 4, 5, 6] rfl rfl).more hb_3606
      have hNn_360 : (jNk [0, 1, 2, 3, 4, 5, 6, 7, 8, 9, 10, 11, 12, 13, 14, 15, 16, 17, 175]) G0 G_360 := (hNn_325).tr hN_360
      have hg_363 := hb_3602 _ _ hg_327
      have hg_364 := hb_3602 _ _ hg_328
      have hg_365 := hb_3602 _ _ hg_329
      have hg_366 := hb_3602 _ _ hg_330
      have hg_367 := hb_3602 _ _ hg_331
      have hg_368 := hb_3602 _ _ hg_332
      have hg_369 := hb_3602 _ _ hg_333
      have hg_370 := hb_3602 _ _ hg_334
      have hg_371 := hb_3602 _ _ hg_335
      have hg_372 := hb_3602 _ _ hg_336
      have hg_373 := hb_3602 _ _ hg_337
      have hg_374 := hb_3602 _ _ hg_338
      have hg_375 := hb_3602 _ _ hg_339
      have hg_376 := hb_3602 _ _ hg_340
      have hd_377 := jQD.grow (ca := ca) (hh_360.iv 0 rfl) hb_3602 hW_360 (by decide)
      have hh_378 := hh_360.sub (L1 := [(bo, 2, 1, .int qc_360), (bo, 2, 0, .ref qa_360), (r0, 13, 11, .int 1), (r0, 13, 4, .ref bo), (r0, 13, 3, .ref ou), (r0, 13, 2, .ref js), (js, 6, 7, .int pv), (js, 6, 8, .int pu), (js, 6, 0, .ref wk), (js, 6, 1, .ref wi), (js, 6, 2, .ref wz), (js, 6, 3, .ref jnx), (js, 6, 4, .ref jkf), (js, 6, 5, .ref jks), (js, 6, 6, .ref jun), (r0, 13, 7, .ref op), (op, 1, 2, .int sz), (r0, 13, 8, .ref wt_), (wt_, 1, 2, .int wn)]) [0, 1, 2, 3, 4, 5, 6, 7, 8, 9, 10, 11, 12, 13, 14, 15, 16, 17, 18] rfl (M1 := [(wk, 140, 1502, ca 1, fk), (wi, 141, 1502, ca 1, fi), (wz, 142, 1502, ca 1, fz), (jnx, 143, 1502, ca 1, fn), (jkf, 144, 1502, ca 1, fa), (jks, 145, 1502, ca 1, fs), (jun, 146, 3000, ca 1, fu)]) [0, 1, 2, 3, 4, 5, 6] rfl (I1 := [(jFkd, jKD dC dI ca G_325 none kq), (jFcd, jCD dC dI ca G_325 none tq), (jFl, jLs dC dI ca G_325 3 none wl), (jFs11, jSef dC dI G_325)]) [1, 2, 3, 4] rfl
      clear hh_360
      have hh_379 := hh_378.addI (jQD.ie hd_377)
      clear hh_378
      have hd_380 := jKD.grow (ca := ca) (hh_379.iv 1 rfl) hb_3602 hW_360 (by decide)
      have hh_381 := hh_379.sub (L1 := [(bo, 2, 1, .int qc_360), (bo, 2, 0, .ref qa_360), (r0, 13, 11, .int 1), (r0, 13, 4, .ref bo), (r0, 13, 3, .ref ou), (r0, 13, 2, .ref js), (js, 6, 7, .int pv), (js, 6, 8, .int pu), (js, 6, 0, .ref wk), (js, 6, 1, .ref wi), (js, 6, 2, .ref wz), (js, 6, 3, .ref jnx), (js, 6, 4, .ref jkf), (js, 6, 5, .ref jks), (js, 6, 6, .ref jun), (r0, 13, 7, .ref op), (op, 1, 2, .int sz), (r0, 13, 8, .ref wt_), (wt_, 1, 2, .int wn)]) [0, 1, 2, 3, 4, 5, 6, 7, 8, 9, 10, 11, 12, 13, 14, 15, 16, 17, 18] rfl (M1 := [(wk, 140, 1502, ca 1, fk), (wi, 141, 1502, ca 1, fi), (wz, 142, 1502, ca 1, fz), (jnx, 143, 1502, ca 1, fn), (jkf, 144, 1502, ca 1, fa), (jks, 145, 1502, ca 1, fs), (jun, 146, 3000, ca 1, fu)]) [0, 1, 2, 3, 4, 5, 6] rfl (I1 := [(jFqd, jQD dC dI ca G_360 none qq), (jFcd, jCD dC dI ca G_325 none tq), (jFl, jLs dC dI ca G_325 3 none wl), (jFs11, jSef dC dI G_325)]) [0, 2, 3, 4] rfl
      clear hh_379
      have hh_382 := hh_381.addI (jKD.ie hd_380)
      clear hh_381
      have hd_383 := jCD.grow (hh_382.iv 2 rfl) hb_3602 hN_360 (by decide)
      have hh_384 := hh_382.sub (L1 := [(bo, 2, 1, .int qc_360), (bo, 2, 0, .ref qa_360), (r0, 13, 11, .int 1), (r0, 13, 4, .ref bo), (r0, 13, 3, .ref ou), (r0, 13, 2, .ref js), (js, 6, 7, .int pv), (js, 6, 8, .int pu), (js, 6, 0, .ref wk), (js, 6, 1, .ref wi), (js, 6, 2, .ref wz), (js, 6, 3, .ref jnx), (js, 6, 4, .ref jkf), (js, 6, 5, .ref jks), (js, 6, 6, .ref jun), (r0, 13, 7, .ref op), (op, 1, 2, .int sz), (r0, 13, 8, .ref wt_), (wt_, 1, 2, .int wn)]) [0, 1, 2, 3, 4, 5, 6, 7, 8, 9, 10, 11, 12, 13, 14, 15, 16, 17, 18] rfl (M1 := [(wk, 140, 1502, ca 1, fk), (wi, 141, 1502, ca 1, fi), (wz, 142, 1502, ca 1, fz), (jnx, 143, 1502, ca 1, fn), (jkf, 144, 1502, ca 1, fa), (jks, 145, 1502, ca 1, fs), (jun, 146, 3000, ca 1, fu)]) [0, 1, 2, 3, 4, 5, 6] rfl (I1 := [(jFkd, jKD dC dI ca G_360 none kq), (jFqd, jQD dC dI ca G_360 none qq), (jFl, jLs dC dI ca G_325 3 none wl), (jFs11, jSef dC dI G_325)]) [0, 1, 3, 4] rfl
      clear hh_382
      have hh_385 := hh_384.addI (jCD.ie hd_383)
      clear hh_384
      have hd_386 := jLs.grow (hh_385.iv 3 rfl) hb_3602 hN_360 (by decide)
      have hh_387 := hh_385.sub (L1 := [(bo, 2, 1, .int qc_360), (bo, 2, 0, .ref qa_360), (r0, 13, 11, .int 1), (r0, 13, 4, .ref bo), (r0, 13, 3, .ref ou), (r0, 13, 2, .ref js), (js, 6, 7, .int pv), (js, 6, 8, .int pu), (js, 6, 0, .ref wk), (js, 6, 1, .ref wi), (js, 6, 2, .ref wz), (js, 6, 3, .ref jnx), (js, 6, 4, .ref jkf), (js, 6, 5, .ref jks), (js, 6, 6, .ref jun), (r0, 13, 7, .ref op), (op, 1, 2, .int sz), (r0, 13, 8, .ref wt_), (wt_, 1, 2, .int wn)]) [0, 1, 2, 3, 4, 5, 6, 7, 8, 9, 10, 11, 12, 13, 14, 15, 16, 17, 18] rfl (M1 := [(wk, 140, 1502, ca 1, fk), (wi, 141, 1502, ca 1, fi), (wz, 142, 1502, ca 1, fz), (jnx, 143, 1502, ca 1, fn), (jkf, 144, 1502, ca 1, fa), (jks, 145, 1502, ca 1, fs), (jun, 146, 3000, ca 1, fu)]) [0, 1, 2, 3, 4, 5, 6] rfl (I1 := [(jFcd, jCD dC dI ca G_360 none tq), (jFkd, jKD dC dI ca G_360 none kq), (jFqd, jQD dC dI ca G_360 none qq), (jFs11, jSef dC dI G_325)]) [0, 1, 2, 4] rfl
      clear hh_385
      have hh_388 := hh_387.addI (jLs.ie hd_386)
      clear hh_387
      have hd_389 := jSef.grow (hh_388.iv 4 rfl) hb_3602 hN_360 (by decide)
      have hh_390 := hh_388.sub (L1 := [(bo, 2, 1, .int qc_360), (bo, 2, 0, .ref qa_360), (r0, 13, 11, .int 1), (r0, 13, 4, .ref bo), (r0, 13, 3, .ref ou), (r0, 13, 2, .ref js), (js, 6, 7, .int pv), (js, 6, 8, .int pu), (js, 6, 0, .ref wk), (js, 6, 1, .ref wi), (js, 6, 2, .ref wz), (js, 6, 3, .ref jnx), (js, 6, 4, .ref jkf), (js, 6, 5, .ref jks), (js, 6, 6, .ref jun), (r0, 13, 7, .ref op), (op, 1, 2, .int sz), (r0, 13, 8, .ref wt_), (wt_, 1, 2, .int wn)]) [0, 1, 2, 3, 4, 5, 6, 7, 8, 9, 10, 11, 12, 13, 14, 15, 16, 17, 18] rfl (M1 := [(wk, 140, 1502, ca 1, fk), (wi, 141, 1502, ca 1, fi), (wz, 142, 1502, ca 1, fz), (jnx, 143, 1502, ca 1, fn), (jkf, 144, 1502, ca 1, fa), (jks, 145, 1502, ca 1, fs), (jun, 146, 3000, ca 1, fu)]) [0, 1, 2, 3, 4, 5, 6] rfl (I1 := [(jFl, jLs dC dI ca G_360 3 none wl), (jFcd, jCD dC dI ca G_360 none tq), (jFkd, jKD dC dI ca G_360 none kq), (jFqd, jQD dC dI ca G_360 none qq)]) [0, 1, 2, 3] rfl
      clear hh_388
      have hh_391 := hh_390.addI (jSef.ie hd_389)
      clear hh_390
      have hd_392 := jOl.trO (hh_359.iv 0 rfl) hh_359.2.2.2.2.1 hbO_360 (by simp)
      have hh_393 := hh_391.addI (jOl.ie (dC := dC) (dI := dI) (G0 := G0) (k := 2) (rs := [bo, ou]) (H0 := s.heap) (F := [(2, 0), (2, 1)]) (C := RX0) (T := TX0) (N := 2) rfl (by decide) hh_391.2.2.2.2.1 (hd_392))
      clear hh_391
      have hyp_360 : qc_360.toInt ≤ (m_qa_360 : Nat) ∧ m_qa_360 ≤ 1048576 := by (try simp only at hr_361); omega
      have hy_394 := jYb.own hy_362 hbO_360 hb_3602 hN_360 (by decide) (fun _ => ⟨_, _, _, hh_393.at 0 rfl, hh_393.at 1 rfl, hgq_360_0, hyp_360⟩)
      have hh_395 := hh_393.addI (jYb.ie hy_394)
      clear hh_393
      try simp only at hr_361
      obtain ⟨hr_361_0, hr_361_1, hr_361_2, hr_361_3, hr_361_4⟩ := hr_361
      have hh_396 := hh_395.wk (zc1 := (m_qa_360 - n_pa) / 16 + 2) (zs1 := 2 * (m_qa_360 - n_pa) + 40 + pu.toInt.toNat) (by omega) (by omega)
      clear hh_395
      try clear hsz_360 htt_360 hrc_360 hrs_360
      try clear hb_3604 hb_3605
      refine lv_aload_n hx hb dX11_request_58 rfl (lv_at hl 2 rfl) ?_
      obtain ⟨v_399, hv_399, hh_400⟩ := hh_396.pin (C := RX0) (T := TX0) (N := 2) hB2 rfl (by decide) hg_366 (i := 1) (by decide) rfl
      obtain ⟨count_401, rfl, hlocount_401, hhicount_401, hfxcount_401⟩ := hv_399
      obtain ⟨v_402, hv_402, hh_403⟩ := hh_400.pin (C := RX0) (T := TX0) (N := 2) hB2 rfl (by decide) hg_366 (i := 0) (by decide) rfl
      obtain ⟨row_404, nrow_404, rfl, hg_row_404, hlorow_404, hhirow_404, hpwrow_404, hfxrow_404⟩ := jBr.k6 (by decide) hv_402
      try clear hsz_360 htt_360 hrc_360 hrs_360
      have hsz_397 := hh_403.2.2.2.2.2.1
      have htt_397 := hh_403.2.2.2.2.2.2.1
      refine W.room (fun hrc_397 hrs_397 => ?_)
      refine va_callv (A0 := jA base) (H0 := s.heap) (va_runV (As := []) (rest := []) ⟨hx, hb, hml, hown, hts⟩ (uX11_send l dC dI ca base B hB hAp hB2 hB4 hB13 hB17 hB196 hB199 G_360 H_360 r0 bo qc_360 qa_360 m_qa_360 ou count_401 row_404 nrow_404) (cwV 0 hts (jgV (jWr_26 _ (List.mem_of_getElem? (i := 20) rfl)) (jWr_26 _ (List.mem_of_getElem? (i := 21) rfl)) (jWr_26 _ (List.mem_of_getElem? (i := 22) rfl)) (jWr_1 _ (List.mem_of_getElem? (i := 2) rfl)) (jWr_26 _ (List.mem_of_getElem? (i := 23) rfl))) rfl rfl rfl (by decide +kernel) ⟨by rw [← hR]; exact Nat.le_of_ble_eq_true rfl, by rw [← hR]; exact Nat.le_of_ble_eq_true rfl⟩) ⟨fun a U g mk q => by obtain ⟨q0, q1, q2, qK, q10, q11, q12, q13, q14, q15, q16, q17⟩ := q; exact ⟨q0, q1, q2, jG.calling g mk a qK, q10, q11, q12, q13, q14, q15, q16, q17⟩, hh_403.recv (C := RX11) (T := TX11) (N := 19) hB13 rfl (by decide) hg_363 hK, fun U hU hW => ⟨rfl, hU, hh_403.2.1, hG.step hW hU hh_403.1, hg_363, hg_365, hgq_360_0, hg_366, hg_row_404, (hh_403.2.2.1.sub (L1 := [(r0, 13, 4, .ref bo), (bo, 2, 1, .int qc_360), (bo, 2, 0, .ref qa_360), (r0, 13, 3, .ref ou), (ou, 2, 1, .int count_401), (ou, 2, 0, .ref row_404)]) [5, 2, 3, 6, 1, 0] rfl), (hh_403.2.2.2.2.2.2.2.2.sub (L1 := [(jFy, jYb dC dI G_360)]) [0] rfl), ⟨(by first | omega | rfl | assumption | fail), (by first | omega | rfl | assumption | fail), (by first | omega | rfl | assumption | fail), (by first | omega | rfl | assumption | fail), (by first | omega | rfl | assumption | fail), (by first | omega | rfl | assumption | fail)⟩⟩⟩ rfl rfl hl.1 rfl (lv_room (Nat.le_of_ble_eq_true rfl)) dX11_request_59 ⟨by rw [hRc]; show _ + 0 ≤ _; omega, by rw [hRs]; show _ + 0 ≤ _; omega⟩) hh_403.1 (fun q _ h => h) (fun q h => h) (fun u_397 t_397 H_397 locs_397 ht_397 hvm_397 hr_398 hb_397 hz_397 hk_397 hS_397 => ?_)
      rw [ht_397] at hb_397
      obtain ⟨hb_397, hbE_397⟩ := hb_397
      obtain ⟨hb_397, hbO_397⟩ := hb_397
      obtain ⟨hb_3971, hb_3972, hb_3973, hb_3974, hb_3975⟩ := hb_397
      have hh_397 : jSt (dC, dI) B base G0 G_360 EX11_requestT s.heap ((m_qa_360 - n_pa) / 16 + 2) (2 * (m_qa_360 - n_pa) + 40 + pu.toInt.toNat) [(r0, 13, 11, .int 1), (r0, 13, 4, .ref bo), (r0, 13, 3, .ref ou), (r0, 13, 2, .ref js), (js, 6, 7, .int pv), (js, 6, 8, .int pu), (js, 6, 0, .ref wk), (js, 6, 1, .ref wi), (js, 6, 2, .ref wz), (js, 6, 3, .ref jnx), (js, 6, 4, .ref jkf), (js, 6, 5, .ref jks), (js, 6, 6, .ref jun), (r0, 13, 7, .ref op), (op, 1, 2, .int sz), (r0, 13, 8, .ref wt_), (wt_, 1, 2, .int wn)] [(wk, 140, 1502, ca 1, fk), (wi, 141, 1502, ca 1, fi), (wz, 142, 1502, ca 1, fz), (jnx, 143, 1502, ca 1, fn), (jkf, 144, 1502, ca 1, fa), (jks, 145, 1502, ca 1, fs), (jun, 146, 3000, ca 1, fu)] [(jFy, jYb dC dI G_360), (jFs11, jSef dC dI G_360), (jFl, jLs dC dI ca G_360 3 none wl), (jFcd, jCD dC dI ca G_360 none tq), (jFkd, jKD dC dI ca G_360 none kq), (jFqd, jQD dC dI ca G_360 none qq)] H_397 locs_397 := (((hh_403.call hb_3971 hb_3972 hb_3973 hb_3974 hS_397 rfl (L1 := [(r0, 13, 11, .int 1), (r0, 13, 4, .ref bo), (r0, 13, 3, .ref ou), (r0, 13, 2, .ref js), (js, 6, 7, .int pv), (js, 6, 8, .int pu), (js, 6, 0, .ref wk), (js, 6, 1, .ref wi), (js, 6, 2, .ref wz), (js, 6, 3, .ref jnx), (js, 6, 4, .ref jkf), (js, 6, 5, .ref jks), (js, 6, 6, .ref jun), (r0, 13, 7, .ref op), (op, 1, 2, .int sz), (r0, 13, 8, .ref wt_), (wt_, 1, 2, .int wn)]) [4, 5, 6, 7, 8, 9, 10, 11, 12, 13, 14, 15, 16, 17, 18, 19, 20] rfl rfl (M1 := [(wk, 140, 1502, ca 1, fk), (wi, 141, 1502, ca 1, fi), (wz, 142, 1502, ca 1, fz), (jnx, 143, 1502, ca 1, fn), (jkf, 144, 1502, ca 1, fa), (jks, 145, 1502, ca 1, fs), (jun, 146, 3000, ca 1, fu)]) [0, 1, 2, 3, 4, 5, 6] rfl rfl (I1 := [(jFs11, jSef dC dI G_360), (jFl, jLs dC dI ca G_360 3 none wl), (jFcd, jCD dC dI ca G_360 none tq), (jFkd, jKD dC dI ca G_360 none kq), (jFqd, jQD dC dI ca G_360 none qq)]) [2, 3, 4, 5, 6] rfl rfl).more hb_3975)).addIs hbE_397
      have hh_405 := hh_397.more (P1 := [(bo, 2, 1, .int qc_360), (bo, 2, 0, .ref qa_360)]) (jP.cons hg_365 (hbO_397 _ _ _ _ (jn1 (by first | assumption | exact Ne.symm (by assumption) | exact jnek hg_365 hg_366 (by decide))) hg_365 (hh_403.at 2 rfl)) (jP.cons hg_365 (hbO_397 _ _ _ _ (jn1 (by first | assumption | exact Ne.symm (by assumption) | exact jnek hg_365 hg_366 (by decide))) hg_365 (hh_403.at 3 rfl)) jP.nil))
      have hd_406 := jOl.trL (hh_403.iv 1 rfl) hh_403.2.2.2.2.1 hbO_397 (by simp)
      have hh_407 := hh_405.addI (jOl.ie (dC := dC) (dI := dI) (G0 := G0) (k := 2) (rs := [bo, ou]) (H0 := s.heap) (F := [(2, 0), (2, 1)]) (C := RX0) (T := TX0) (N := 2) rfl (by decide) hh_405.2.2.2.2.1 (hd_406))
      clear hh_405
      clear hh_403 ht_397 hvm_397 hz_397 hk_397 hS_397 hb_3971 hb_3972 hb_3973 hb_3974 hb_3975
      clear  hbE_397
      refine lv_goto (tgt := 212) hx hb dX11_request_62 (by decide) ?_
      have hqz9 : (1 : Int) = jdRq T9 pv.toInt pz.toInt := by have h9 : jdRq T9 pv.toInt pz.toInt = _ := jdRq.a hm9 (by omega) (by rw [← hin9]; omega); omega
      try clear hsz_397 htt_397 hrc_397 hrs_397
      have hsz_408 := hh_407.2.2.2.2.2.1
      have htt_408 := hh_407.2.2.2.2.2.2.1
      refine W.room (fun hrc_408 hrs_408 => ?_)
      refine W.widen (k := LC - s.heap.size) (n := LS - jTot s.heap) (by omega) (by omega) ?_
      rw [hQ]
      exact W.vret hx hb hr (fun t ht hW => ⟨⟨(qc_360, 1, qa_360, m_qa_360, wl, qq, G_360), rfl, by skip; (try dsimp only); refine ⟨(by first | (with_reducible assumption) | omega | exact hqz9), (by first | (with_reducible assumption) | omega | exact hqz9), (by first | (with_reducible assumption) | omega | exact hqz9), (by first | (with_reducible assumption) | omega | exact hqz9), (by first | (with_reducible assumption) | omega | exact hqz9), (by first | (with_reducible assumption) | omega | exact hqz9), ?_⟩; rw [jwRq.z1 hm9 (by omega)]; exact hCz9, ⟨hh_407.ra (by first | (simp only; omega) | omega) (by first | (simp only; omega) | omega) (M1 := [(bo, 2, 1, .int qc_360), (r0, 13, 11, .int 1), (bo, 2, 0, .ref qa_360)]) [0, 2, 1] rfl ht, hgq_360_0, hNn_360, by rw [ht]; exact hh_407.iv 0 rfl, by rw [ht]; exact hh_407.2.2.2.2.2.2.2.2.sub (L1 := [(jFy, jYb dC dI G_360), (jFs11, jSef dC dI G_360), (jFl, jLs dC dI ca G_360 3 none wl), (jFcd, jCD dC dI ca G_360 none tq), (jFkd, jKD dC dI ca G_360 none kq), (jFqd, jQD dC dI ca G_360 none qq)]) [1, 2, 3, 4, 5, 6] rfl⟩⟩, by rw [ht]; try exact hh_407.1.1, fun q h9 hq => by rw [ht]; try exact hh_407.1.2.1 q h9 hq⟩) hh_407.1.2.2 dX11_request_212
end
