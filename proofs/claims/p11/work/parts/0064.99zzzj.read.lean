section
def EX14_readValueKN : List (Nat × Nat) := [(16, 26), (16, 28), (16, 29), (16, 31), (16, 32), (16, 33), (117, 0), (118, 0), (119, 0), (120, 0), (121, 0), (122, 0), (123, 0), (124, 0), (125, 0), (127, 0)]
def EX14_readManyKN : List (Nat × Nat) := [(16, 26), (16, 28), (16, 29), (16, 31), (16, 32), (16, 33), (117, 0), (118, 0), (119, 0), (120, 0), (121, 0), (122, 0), (123, 0), (124, 0), (125, 0), (127, 0)]
def qX14_readValueKN (l : Launch) (dC : Nat → ClassId) (dI : Nat → Nat → Nat) (ca : Nat → ClassId) (base : Nat) (B : jF) (ef : Nat) : Prop := ∀ (G0 : jT) (H0 : Heap) (r0 : Nat) (a1 : Int32) (pt : Int32) (pe : Int32) (pn : Int32) (pp : Int32) (pb : Int32) (xb : Nat) (xe : Nat) (xn : Nat) (mx : Nat → Int32), Met l yX14_readValue (jw yX14_readValue cX14_readValue 4 (some .int)) ({ frames := 2 * ef + 8, cells := 0, slots := 0, locals := 130 * ef + 500 }) (va_Pc [.ref r0, .int a1] (fun U => U.heap = H0 ∧ jX B base G0 [] H0 ∧ jG dC dI ca base U ∧ G0 r0 = some (16, 0) ∧ G0 xb = some (122, 3100) ∧ G0 xe = some (123, 3100) ∧ G0 xn = some (119, 3100) ∧ jP (dC, dI) G0 H0 [(r0, 16, 29, .int pt), (r0, 16, 30, .int pe), (r0, 16, 26, .int pn), (r0, 16, 28, .int pp), (r0, 16, 31, .int pb), (r0, 16, 22, .ref xb), (r0, 16, 23, .ref xe), (r0, 16, 19, .ref xn)] ∧ jMc (dC, dI) G0 H0 [(xn, 119, 3100, ca 1, mx)] ∧ jIs (dC, dI) G0 H0 [(jFt, jFT dC dI ca G0 xb xe)] ∧ 0 ≤ pt.toInt ∧ pt.toInt ≤ 90000 ∧ 0 ≤ pe.toInt ∧ pe.toInt ≤ 3000 ∧ pt.toInt ≤ pe.toInt ∧ 0 ≤ pn.toInt ∧ pn.toInt ≤ pt.toInt ∧ 0 ≤ pp.toInt ∧ pp.toInt ≤ pt.toInt ∧ pb.toInt = 0 ∧ a1.toInt = 10 - ef ∧ ef ≤ 10 ∧ (pn.toInt = 0 ∨ jSo mx 0 = -1))) (va_Qi (S := Int32 × Int32 × Int32 × Int32 × (Nat → Int32)) (fun r u => (0 ≤ u.2.2.2.1.toInt ∧ u.2.2.2.1.toInt ≤ 1 ∧ pt.toInt ≤ u.1.toInt ∧ pp.toInt ≤ u.2.2.1.toInt ∧ pn.toInt ≤ u.2.1.toInt ∧ u.1.toInt ≤ pe.toInt + 4 * u.2.2.2.1.toInt ∧ u.2.1.toInt ≤ u.1.toInt + u.2.2.2.1.toInt ∧ u.2.2.1.toInt ≤ u.1.toInt ∧ pn.toInt ≤ r.toInt + 4000 * u.2.2.2.1.toInt ∧ r.toInt + 1 ≤ u.2.1.toInt + 4000 * u.2.2.2.1.toInt ∧ (u.2.1.toInt = 0 ∨ jSo u.2.2.2.2 0 = -1))) (fun u t => (jRt (dC, dI) B base G0 EX14_readValueKN H0 [(r0, 16, 29, .int u.1), (r0, 16, 26, .int u.2.1), (r0, 16, 28, .int u.2.2.1), (r0, 16, 31, .int u.2.2.2.1)] t.heap ∧ jMc (dC, dI) G0 t.heap [(xn, 119, 3100, ca 1, u.2.2.2.2)]) ∧ jIs (dC, dI) G0 t.heap [(jFt, jFT dC dI ca G0 xb xe)]) (jA base)) 0 0 (jA base)
def qX14_readManyKN (l : Launch) (dC : Nat → ClassId) (dI : Nat → Nat → Nat) (ca : Nat → ClassId) (base : Nat) (B : jF) (ef : Nat) : Prop := ∀ (G0 : jT) (H0 : Heap) (r0 : Nat) (a1 : Int32) (a2 : Int32) (pt : Int32) (pe : Int32) (pn : Int32) (pp : Int32) (pb : Int32) (xb : Nat) (xe : Nat) (xn : Nat) (mx : Nat → Int32), Met l yX14_readMany (jw yX14_readMany cX14_readMany 10 (some .int)) ({ frames := 2 * ef + 9, cells := 0, slots := 0, locals := 130 * ef + 560 }) (va_Pc [.ref r0, .int a1, .int a2] (fun U => U.heap = H0 ∧ jX B base G0 [] H0 ∧ jG dC dI ca base U ∧ G0 r0 = some (16, 0) ∧ G0 xb = some (122, 3100) ∧ G0 xe = some (123, 3100) ∧ G0 xn = some (119, 3100) ∧ jP (dC, dI) G0 H0 [(r0, 16, 29, .int pt), (r0, 16, 30, .int pe), (r0, 16, 26, .int pn), (r0, 16, 28, .int pp), (r0, 16, 31, .int pb), (r0, 16, 22, .ref xb), (r0, 16, 23, .ref xe), (r0, 16, 19, .ref xn)] ∧ jMc (dC, dI) G0 H0 [(xn, 119, 3100, ca 1, mx)] ∧ jIs (dC, dI) G0 H0 [(jFt, jFT dC dI ca G0 xb xe)] ∧ 0 ≤ pt.toInt ∧ pt.toInt ≤ 90000 ∧ 0 ≤ pe.toInt ∧ pe.toInt ≤ 3000 ∧ pt.toInt < pe.toInt ∧ 0 ≤ pn.toInt ∧ pn.toInt ≤ pt.toInt ∧ 0 ≤ pp.toInt ∧ pp.toInt ≤ pt.toInt ∧ pb.toInt = 0 ∧ a2.toInt = 10 - ef ∧ ef ≤ 10 ∧ (pn.toInt = 0 ∨ jSo mx 0 = -1))) (va_Qi (S := Int32 × Int32 × Int32 × Int32 × (Nat → Int32)) (fun r u => (0 ≤ u.2.2.2.1.toInt ∧ u.2.2.2.1.toInt ≤ 1 ∧ pt.toInt ≤ u.1.toInt ∧ pp.toInt ≤ u.2.2.1.toInt ∧ pn.toInt ≤ u.2.1.toInt ∧ u.1.toInt ≤ pe.toInt + 4 * u.2.2.2.1.toInt ∧ u.2.1.toInt ≤ u.1.toInt + u.2.2.2.1.toInt ∧ u.2.2.1.toInt ≤ u.1.toInt ∧ pn.toInt ≤ r.toInt + 4000 * u.2.2.2.1.toInt ∧ r.toInt + 1 ≤ u.2.1.toInt + 4000 * u.2.2.2.1.toInt ∧ (u.2.1.toInt = 0 ∨ jSo u.2.2.2.2 0 = -1))) (fun u t => (jRt (dC, dI) B base G0 EX14_readManyKN H0 [(r0, 16, 29, .int u.1), (r0, 16, 26, .int u.2.1), (r0, 16, 28, .int u.2.2.1), (r0, 16, 31, .int u.2.2.2.1)] t.heap ∧ jMc (dC, dI) G0 t.heap [(xn, 119, 3100, ca 1, u.2.2.2.2)]) ∧ jIs (dC, dI) G0 t.heap [(jFt, jFT dC dI ca G0 xb xe)]) (jA base)) 0 0 (jA base)
set_option maxHeartbeats 4000000 in
set_option maxRecDepth 20000 in
theorem uX14_readValueKN (l : Launch) (dC : Nat → ClassId) (dI : Nat → Nat → Nat) (ca : Nat → ClassId) (base : Nat) (B : jF) (hB : jBok B) (hAp : jAp (dC, dI)) (hB16 : ∀ n G a H, B 16 n G a H ↔ jOb (dC, dI) 16 74 (F16 n G) a H) (hB110 : ∀ n G a H, B 110 n G a H ↔ jAr (dC, dI) (ca 1) (fun j z => 0 ≤ z.toInt ∧ z.toInt ≤ 255) n a H) (hB117 : ∀ n G a H, B 117 n G a H ↔ jAr (dC, dI) (ca 1) (fun j z => True) n a H) (hB118 : ∀ n G a H, B 118 n G a H ↔ jAr (dC, dI) (ca 1) (fun j z => -1 ≤ z.toInt ∧ z.toInt ≤ 3099) n a H) (hB119 : ∀ n G a H, B 119 n G a H ↔ jAr (dC, dI) (ca 1) (fun j z => z.toInt = -1 ∨ z.toInt = 0 ∨ ((j : Nat) < z.toInt ∧ z.toInt ≤ 3099)) n a H) (hB120 : ∀ n G a H, B 120 n G a H ↔ jAr (dC, dI) (ca 1) (fun j z => 0 ≤ z.toInt ∧ z.toInt ≤ 3300) n a H) (hB121 : ∀ n G a H, B 121 n G a H ↔ jAr (dC, dI) (ca 1) (fun j z => 0 ≤ z.toInt ∧ z.toInt ≤ 3300) n a H) (hB122 : ∀ n G a H, B 122 n G a H ↔ jAr (dC, dI) (ca 1) (fun j z => 0 ≤ z.toInt ∧ z.toInt ≤ 3100) n a H) (hB123 : ∀ n G a H, B 123 n G a H ↔ jAr (dC, dI) (ca 1) (fun j z => 0 ≤ z.toInt ∧ z.toInt ≤ 3100) n a H) (hB124 : ∀ n G a H, B 124 n G a H ↔ jAr (dC, dI) (ca 3) (fun j z => (z = 0 ∨ z = 1)) n a H) (hB125 : ∀ n G a H, B 125 n G a H ↔ jAr (dC, dI) (ca 1) (fun j z => True) n a H) (hB127 : ∀ n G a H, B 127 n G a H ↔ jAr (dC, dI) (ca 1) (fun j z => True) n a H) (ef : Nat) (ihM : ∀ e1, e1 < ef → qX14_readManyKN l dC dI ca base B e1) (G0 : jT) (H0 : Heap) (r0 : Nat) (a1 : Int32) (pt : Int32) (pe : Int32) (pn : Int32) (pp : Int32) (pb : Int32) (xb : Nat) (xe : Nat) (xn : Nat) (mx : Nat → Int32) : Met l yX14_readValue (jw yX14_readValue cX14_readValue 4 (some .int)) ({ frames := 2 * ef + 8, cells := 0, slots := 0, locals := 130 * ef + 500 }) (va_Pc [.ref r0, .int a1] (fun U => U.heap = H0 ∧ jX B base G0 [] H0 ∧ jG dC dI ca base U ∧ G0 r0 = some (16, 0) ∧ G0 xb = some (122, 3100) ∧ G0 xe = some (123, 3100) ∧ G0 xn = some (119, 3100) ∧ jP (dC, dI) G0 H0 [(r0, 16, 29, .int pt), (r0, 16, 30, .int pe), (r0, 16, 26, .int pn), (r0, 16, 28, .int pp), (r0, 16, 31, .int pb), (r0, 16, 22, .ref xb), (r0, 16, 23, .ref xe), (r0, 16, 19, .ref xn)] ∧ jMc (dC, dI) G0 H0 [(xn, 119, 3100, ca 1, mx)] ∧ jIs (dC, dI) G0 H0 [(jFt, jFT dC dI ca G0 xb xe)] ∧ 0 ≤ pt.toInt ∧ pt.toInt ≤ 90000 ∧ 0 ≤ pe.toInt ∧ pe.toInt ≤ 3000 ∧ pt.toInt ≤ pe.toInt ∧ 0 ≤ pn.toInt ∧ pn.toInt ≤ pt.toInt ∧ 0 ≤ pp.toInt ∧ pp.toInt ≤ pt.toInt ∧ pb.toInt = 0 ∧ a1.toInt = 10 - ef ∧ ef ≤ 10 ∧ (pn.toInt = 0 ∨ jSo mx 0 = -1))) (va_Qi (S := Int32 × Int32 × Int32 × Int32 × (Nat → Int32)) (fun r u => (0 ≤ u.2.2.2.1.toInt ∧ u.2.2.2.1.toInt ≤ 1 ∧ pt.toInt ≤ u.1.toInt ∧ pp.toInt ≤ u.2.2.1.toInt ∧ pn.toInt ≤ u.2.1.toInt ∧ u.1.toInt ≤ pe.toInt + 4 * u.2.2.2.1.toInt ∧ u.2.1.toInt ≤ u.1.toInt + u.2.2.2.1.toInt ∧ u.2.2.1.toInt ≤ u.1.toInt ∧ pn.toInt ≤ r.toInt + 4000 * u.2.2.2.1.toInt ∧ r.toInt + 1 ≤ u.2.1.toInt + 4000 * u.2.2.2.1.toInt ∧ (u.2.1.toInt = 0 ∨ jSo u.2.2.2.2 0 = -1))) (fun u t => (jRt (dC, dI) B base G0 EX14_readValueKN H0 [(r0, 16, 29, .int u.1), (r0, 16, 26, .int u.2.1), (r0, 16, 28, .int u.2.2.1), (r0, 16, 31, .int u.2.2.2.1)] t.heap ∧ jMc (dC, dI) G0 t.heap [(xn, 119, 3100, ca 1, u.2.2.2.2)]) ∧ jIs (dC, dI) G0 t.heap [(jFt, jFT dC dI ca G0 xb xe)]) (jA base)) 0 0 (jA base) := by
  refine Met.ofW (cc := cX14_readValue) (maxL := 4) (ret := (some .int)) (by decide) rfl ?_
  intro p e s m args below meth c s₁ Bd hml hv
  obtain ⟨rfl, hH0, hX, hG, hg_r0, hg_xb, hg_xe, hg_xn, hP0, hM0, hI0, hp0, hp1, hp2, hp3, hp4, hp5, hp6, hp7, hp8, hp9, hp10, hp11, hp12⟩ := hv
  have hK := hG.1
  have hx := Bd.exec
  have hb := Bd.bytes
  have hr := Bd.returns
  have hts := atoms_spec (ws := (jw yX14_readValue cX14_readValue 4 (some .int))) Bd.pre
  have htw : ∀ w ∈ jWl, w.before _ s = true := fun w h => hts w (List.mem_cons_of_mem _ h)
  have hown : s.vm.findClass RX14 = some m.cls := findClass_of_methodNamed Bd.named
  have hlocks := Bd.notSynchronized
  obtain ⟨Q, hQ⟩ : ∃ Q, Q = MQ below (va_Qi (S := Int32 × Int32 × Int32 × Int32 × (Nat → Int32)) (fun r u => (0 ≤ u.2.2.2.1.toInt ∧ u.2.2.2.1.toInt ≤ 1 ∧ pt.toInt ≤ u.1.toInt ∧ pp.toInt ≤ u.2.2.1.toInt ∧ pn.toInt ≤ u.2.1.toInt ∧ u.1.toInt ≤ pe.toInt + 4 * u.2.2.2.1.toInt ∧ u.2.1.toInt ≤ u.1.toInt + u.2.2.2.1.toInt ∧ u.2.2.1.toInt ≤ u.1.toInt ∧ pn.toInt ≤ r.toInt + 4000 * u.2.2.2.1.toInt ∧ r.toInt + 1 ≤ u.2.1.toInt + 4000 * u.2.2.2.1.toInt ∧ (u.2.1.toInt = 0 ∨ jSo u.2.2.2.2 0 = -1))) (fun u t => (jRt (dC, dI) B base G0 EX14_readValueKN H0 [(r0, 16, 29, .int u.1), (r0, 16, 26, .int u.2.1), (r0, 16, 28, .int u.2.2.1), (r0, 16, 31, .int u.2.2.2.1)] t.heap ∧ jMc (dC, dI) G0 t.heap [(xn, 119, 3100, ca 1, u.2.2.2.2)]) ∧ jIs (dC, dI) G0 t.heap [(jFt, jFT dC dI ca G0 xb xe)]) (jA base)) ([.ref r0, .int a1] : List Value).toArray s 0 0 (jA base) := ⟨_, rfl⟩
  rw [← hQ]
  have hl := lv_entry ([.ref r0, .int a1]) (n := 4) (Nat.le_of_ble_eq_true rfl)
  rw [lg_entry_eq]
  generalize (lg_sl ([.ref r0, .int a1]) ++ List.replicate (4 - (lg_sl ([.ref r0, .int a1])).length) Slot.unset).toArray = ls at hl ⊢
  have hl : lv_has ls 4 [(0, .ref r0), (1, .int a1)] := hl
  generalize hR : (headSpec (jw yX14_readValue cX14_readValue 4 (some .int)) ({ frames := 2 * ef + 8, cells := 0, slots := 0, locals := 130 * ef + 500 })).room = R
  subst hH0
  have hh : jSt (dC, dI) B base G0 G0 EX14_readValueKN s.heap 0 0 [(r0, 16, 29, .int pt), (r0, 16, 30, .int pe), (r0, 16, 26, .int pn), (r0, 16, 28, .int pp), (r0, 16, 31, .int pb), (r0, 16, 22, .ref xb), (r0, 16, 23, .ref xe), (r0, 16, 19, .ref xn)] [(xn, 119, 3100, ca 1, mx)] [(jFt, jFT dC dI ca G0 xb xe)] s.heap [] := jSt.start hX hP0 hM0 hI0
  clear hX hP0
  have hk0 : (0 : Int32).toInt = 0 := by decide
  have hk1 : (1 : Int32).toInt = 1 := by decide
  have hk2 : (2 : Int32).toInt = 2 := by decide
  have hk4 : (4 : Int32).toInt = 4 := by decide
  have hk10 : (10 : Int32).toInt = 10 := by decide
  have hk34 : (34 : Int32).toInt = 34 := by decide
  have hk91 : (91 : Int32).toInt = 91 := by decide
  have hk123 : (123 : Int32).toInt = 123 := by decide
  have hly_16_22 := htw (u_lay RX14 TX14 22) (jWc_wsX140 _ (u_in_lay (by decide)))
  have hly_16_23 := htw (u_lay RX14 TX14 23) (jWc_wsX140 _ (u_in_lay (by decide)))
  have hly_16_28 := htw (u_lay RX14 TX14 28) (jWc_wsX140 _ (u_in_lay (by decide)))
  have hly_16_31 := htw (u_lay RX14 TX14 31) (jWc_wsX140 _ (u_in_lay (by decide)))
  have hly_16_32 := htw (u_lay RX14 TX14 32) (jWc_wsX140 _ (u_in_lay (by decide)))
  have hlk_288 := (htw (.fieldLink RX14 288 "ProofServerModel" "bad" "Z") (jWr_50 _ (List.mem_of_getElem? (i := 9) rfl)))
  have hlk_52 := (htw (.fieldLink RX14 52 "ProofServerModel" "from" "[I") (jWr_11 _ (List.mem_of_getElem? (i := 9) rfl)))
  have hlk_301 := (htw (.fieldLink RX14 301 "ProofServerModel" "stringFrom" "I") (jWr_50 _ (List.mem_of_getElem? (i := 15) rfl)))
  have hlk_55 := (htw (.fieldLink RX14 55 "ProofServerModel" "to" "[I") (jWr_11 _ (List.mem_of_getElem? (i := 10) rfl)))
  have hlk_304 := (htw (.fieldLink RX14 304 "ProofServerModel" "pooled" "I") (jWr_50 _ (List.mem_of_getElem? (i := 8) rfl)))
  obtain ⟨str307, rstr307, hstr3070⟩ := hG.str (o := RX14) (k := 307) (tx := "null") (List.mem_of_getElem? (i := 2366) (by decide +kernel))
  have hstr307 : jStr base str307 4 s s.heap := hstr3070
  obtain ⟨str313, rstr313, hstr3130⟩ := hG.str (o := RX14) (k := 313) (tx := "true") (List.mem_of_getElem? (i := 2367) (by decide +kernel))
  have hstr313 : jStr base str313 4 s s.heap := hstr3130
  obtain ⟨str315, rstr315, hstr3150⟩ := hG.str (o := RX14) (k := 315) (tx := "false") (List.mem_of_getElem? (i := 2368) (by decide +kernel))
  have hstr315 : jStr base str315 5 s s.heap := hstr3150
  have hrg_a1 := jb_rng a1
  refine lv_aload_n hx hb dX14_readValue_0 rfl (lv_at hl 0 rfl) ?_
  refine va_callv (A0 := jA base) (H0 := s.heap) (va_runV (As := []) (rest := []) ⟨hx, hb, hml, hown, hts⟩ (uX14_blanks l dC dI ca base B hB hAp hB16 hB110 G0 s.heap r0 pt pe (pe.toInt + 8 * (pb.toInt))) (cwV 0 hts (jgV (jWr_50 _ (List.mem_of_getElem? (i := 16) rfl)) (jWr_50 _ (List.mem_of_getElem? (i := 17) rfl)) (jWr_50 _ (List.mem_of_getElem? (i := 18) rfl)) (jWr_1 _ (List.mem_of_getElem? (i := 5) rfl)) (jWr_50 _ (List.mem_of_getElem? (i := 19) rfl))) rfl rfl rfl (by decide +kernel) ⟨by rw [← hR]; show (1) + 1 ≤ 2 * ef + 8; omega, by rw [← hR]; show 8 + (1 + 11) + (20) ≤ 130 * ef + 500; omega⟩) ⟨fun a U g mk q => by obtain ⟨q0, q1, q2, qK, q10, q11, q12⟩ := q; exact ⟨q0, q1, q2, jG.calling g mk a qK, q10, q11, q12⟩, hh.recv (C := RX14) (T := TX14) (N := 74) hB16 rfl (by decide) hg_r0 hK, fun U hU hW => ⟨rfl, hU, hh.2.1, hG.step hW hU hh.1, hg_r0, (hh.2.2.1.sub (L1 := [(r0, 16, 29, .int pt), (r0, 16, 30, .int pe)]) [0, 1] rfl), by first | omega | (refine ⟨?_, ?_, ?_, ?_, ?_, ?_, ?_⟩ <;> (first | omega | rfl | assumption | decide | exact Or.inl rfl | exact Or.inr rfl | (simp only; omega)))⟩⟩ rfl rfl hl.1 rfl (lv_room (Nat.le_of_ble_eq_true rfl)) dX14_readValue_1 ⟨Nat.zero_le _, Nat.zero_le _⟩) hh.1 (fun q _ h => h) (fun q h => h) (fun u_1 t_1 H_1 locs_1 ht_1 hvm_1 hr_2 hb_1 hz_1 hk_1 hS_1 => ?_)
  obtain ⟨qt_1, rfl⟩ : ∃ z, z = u_1 := ⟨_, rfl⟩
  rw [ht_1] at hb_1
  obtain ⟨hb_11, hb_12, hb_13, hb_14, hb_15⟩ := hb_1
  have hh_1 : jSt (dC, dI) B base G0 G0 EX14_readValueKN s.heap 0 0 [(r0, 16, 29, .int qt_1), (r0, 16, 30, .int pe), (r0, 16, 26, .int pn), (r0, 16, 28, .int pp), (r0, 16, 31, .int pb), (r0, 16, 22, .ref xb), (r0, 16, 23, .ref xe), (r0, 16, 19, .ref xn)] [(xn, 119, 3100, ca 1, mx)] [(jFt, jFT dC dI ca G0 xb xe)] H_1 locs_1 := ((hh.call hb_11 hb_12 hb_13 hb_14 hS_1 rfl (L1 := [(r0, 16, 30, .int pe), (r0, 16, 26, .int pn), (r0, 16, 28, .int pp), (r0, 16, 31, .int pb), (r0, 16, 22, .ref xb), (r0, 16, 23, .ref xe), (r0, 16, 19, .ref xn)]) [1, 2, 3, 4, 5, 6, 7] rfl rfl (M1 := [(xn, 119, 3100, ca 1, mx)]) [0] rfl rfl (I1 := [(jFt, jFT dC dI ca G0 xb xe)]) [0] rfl rfl).more hb_15)
  clear hh ht_1 hvm_1 hz_1 hk_1 hS_1 hb_11 hb_12 hb_13 hb_14 hb_15
  obtain ⟨hr_2_0, hr_2_1⟩ := hr_2
  refine lv_aload_n hx hb dX14_readValue_4 rfl (lv_at hl 0 rfl) ?_
  refine va_calli (A0 := jA base) (H0 := s.heap) (va_runV (As := []) (rest := []) ⟨hx, hb, hml, hown, hts⟩ (uX14_here l dC dI ca base B hB hAp hB16 hB110 G0 H_1 r0 qt_1 pe) (cwV 0 hts (jgV (jWr_50 _ (List.mem_of_getElem? (i := 20) rfl)) (jWr_50 _ (List.mem_of_getElem? (i := 21) rfl)) (jWr_50 _ (List.mem_of_getElem? (i := 22) rfl)) (jWr_1 _ (List.mem_of_getElem? (i := 5) rfl)) (jWr_50 _ (List.mem_of_getElem? (i := 23) rfl))) rfl rfl rfl (by decide +kernel) ⟨by rw [← hR]; show (0) + 1 ≤ 2 * ef + 8; omega, by rw [← hR]; show 8 + (1 + 11) + (0) ≤ 130 * ef + 500; omega⟩) ⟨fun a U g mk q => by obtain ⟨q0, q1, q2, qK, q10, q11, q12⟩ := q; exact ⟨q0, q1, q2, jG.calling g mk a qK, q10, q11, q12⟩, hh_1.recv (C := RX14) (T := TX14) (N := 74) hB16 rfl (by decide) hg_r0 hK, fun U hU hW => ⟨rfl, hU, hh_1.2.1, hG.step hW hU hh_1.1, hg_r0, (hh_1.2.2.1.sub (L1 := [(r0, 16, 29, .int qt_1), (r0, 16, 30, .int pe)]) [0, 1] rfl), by first | omega | (refine ⟨?_, ?_, ?_, ?_⟩ <;> (first | omega | rfl | assumption | decide | exact Or.inl rfl | exact Or.inr rfl | (simp only; omega)))⟩⟩ rfl rfl hl.1 rfl (lv_room (Nat.le_of_ble_eq_true rfl)) dX14_readValue_5 ⟨Nat.zero_le _, Nat.zero_le _⟩) hh_1.1 (fun q _ h => h) (fun q h => h) (fun r_4 u_3 t_3 H_3 locs_3 ht_3 hvm_3 hr_4 hb_3 hz_3 hk_3 hS_3 => ?_)
  rw [ht_3] at hb_3
  obtain ⟨hb_31, hb_32, hb_33, hb_34, hb_35⟩ := hb_3
  have hh_3 : jSt (dC, dI) B base G0 G0 EX14_readValueKN s.heap 0 0 [(r0, 16, 29, .int qt_1), (r0, 16, 30, .int pe), (r0, 16, 26, .int pn), (r0, 16, 28, .int pp), (r0, 16, 31, .int pb), (r0, 16, 22, .ref xb), (r0, 16, 23, .ref xe), (r0, 16, 19, .ref xn)] [(xn, 119, 3100, ca 1, mx)] [(jFt, jFT dC dI ca G0 xb xe)] H_3 locs_3 := ((hh_1.call hb_31 hb_32 hb_33 hb_34 hS_3 rfl (L1 := [(r0, 16, 29, .int qt_1), (r0, 16, 30, .int pe), (r0, 16, 26, .int pn), (r0, 16, 28, .int pp), (r0, 16, 31, .int pb), (r0, 16, 22, .ref xb), (r0, 16, 23, .ref xe), (r0, 16, 19, .ref xn)]) [0, 1, 2, 3, 4, 5, 6, 7] rfl rfl (M1 := [(xn, 119, 3100, ca 1, mx)]) [0] rfl rfl (I1 := [(jFt, jFT dC dI ca G0 xb xe)]) [0] rfl rfl).more hb_35)
  clear hh_1 ht_3 hvm_3 hz_3 hk_3 hS_3 hb_31 hb_32 hb_33 hb_34 hb_35
  obtain ⟨hr_4_0, hr_4_1, hr_4_2⟩ := hr_4
  refine lv_istore_n (lv' := [(2, .int r_4), (0, .ref r0), (1, .int a1)]) hx hb dX14_readValue_8 rfl hl (by decide) rfl (fun ls hl => ?_)
  refine lv_iload_n hx hb dX14_readValue_9 rfl (lv_at hl 0 rfl) ?_
  refine lv_bipush (v := 123) hx hb dX14_readValue_10 (by decide) ?_
  refine lv_icmp_eq (tgt := 21) hx hb dX14_readValue_12 (by decide) (fun c_5 => ?_) (fun c_5 => ?_)
  · skip
    have c_5' : r_4.toInt = 123 := jb_eq (rfl) ((by decide)) c_5
    first | (have hr_4_2q := hr_4_2.resolve_left (by omega); clear hr_4_2) | (have hr_4_2q := hr_4_2.resolve_right (by omega); clear hr_4_2) | skip
    refine lv_iload_n hx hb dX14_readValue_21 rfl (lv_at hl 2 rfl) ?_
    refine lv_bipush (v := 10) hx hb dX14_readValue_22 (by decide) ?_
    refine lv_icmp_ne (tgt := 32) hx hb dX14_readValue_24 (by decide) (fun c_6 => ?_) (fun c_6 => ?_)
    · skip
      have c_6' : a1.toInt ≠ 10 := jb_ne (rfl) ((by decide)) c_6
      refine lv_aload_n hx hb dX14_readValue_32 rfl (lv_at hl 1 rfl) ?_
      refine j7_read hx hb hown hK (C := RX14) (T := TX14) (N := 74) rfl hly_16_31 hlk_288 (hh_3.at 4 rfl) dX14_readValue_33 ?_
      refine lv_if_eq (tgt := 43) hx hb dX14_readValue_36 (by decide) (fun c_7 => ?_) (fun c_7 => ?_)
      · skip
        have c_7' : pb.toInt = 0 := jb_eq (rfl) ((by decide)) c_7
        refine lv_aload_n hx hb dX14_readValue_43 rfl (lv_at hl 1 rfl) ?_
        refine lv_iload_n hx hb dX14_readValue_44 rfl (lv_at hl 0 rfl) ?_
        refine lv_bipush (v := 123) hx hb dX14_readValue_45 (by decide) ?_
        refine lv_icmp_ne (tgt := 54) hx hb dX14_readValue_47 (by decide) (fun c_8 => ?_) (fun c_8 => ?_)
        · skip
          have c_8' : r_4.toInt ≠ 123 := jb_ne (rfl) ((by decide)) c_8
          refine lv_iconst (v := 0) hx hb dX14_readValue_54 (by decide) ?_
          refine lv_iload_n hx hb dX14_readValue_55 rfl (lv_at hl 2 rfl) ?_
          refine lv_iconst (v := 1) hx hb dX14_readValue_56 (by decide) ?_
          refine lv_iadd hx hb dX14_readValue_57 ?_
          refine lv_topi (fun z_9 ez_9 => ?_)
          have hz_9 : z_9.toInt = a1.toInt + 1 := by rw [ez_9]; exact jb_iadd2 (rfl) ((by decide)) (by omega)
          refine va_calli (A0 := jA base) (H0 := s.heap) (va_runV (As := [.int 0, .int z_9]) (rest := []) ⟨hx, hb, hml, hown, hts⟩ (ihM (ef - 1) (by omega) G0 H_3 r0 0 z_9 qt_1 pe pn pp pb xb xe xn mx) (cwV 2 hts (jgV (jWr_51 _ (List.mem_of_getElem? (i := 0) rfl)) (jWr_51 _ (List.mem_of_getElem? (i := 1) rfl)) (jWr_51 _ (List.mem_of_getElem? (i := 2) rfl)) (jWr_1 _ (List.mem_of_getElem? (i := 5) rfl)) (jWr_53 _ (List.mem_of_getElem? (i := 8) rfl))) rfl rfl rfl (by decide +kernel) ⟨by rw [← hR]; show (2 * (ef - 1) + 9) + 1 ≤ 2 * ef + 8; omega, by rw [← hR]; show 8 + (10 + 11) + (130 * (ef - 1) + 560) ≤ 130 * ef + 500; omega⟩) ⟨fun a U g mk q => by obtain ⟨q0, q1, q2, qK, q10, q11, q12, q13, q14, q15, q16, q17⟩ := q; exact ⟨q0, q1, q2, jG.calling g mk a qK, q10, q11, q12, q13, q14, q15, q16, q17⟩, hh_3.recv (C := RX14) (T := TX14) (N := 74) hB16 rfl (by decide) hg_r0 hK, fun U hU hW => ⟨rfl, hU, hh_3.2.1, hG.step hW hU hh_3.1, hg_r0, hg_xb, hg_xe, hg_xn, (hh_3.2.2.1.sub (L1 := [(r0, 16, 29, .int qt_1), (r0, 16, 30, .int pe), (r0, 16, 26, .int pn), (r0, 16, 28, .int pp), (r0, 16, 31, .int pb), (r0, 16, 22, .ref xb), (r0, 16, 23, .ref xe), (r0, 16, 19, .ref xn)]) [0, 1, 2, 3, 4, 5, 6, 7] rfl), (hh_3.2.2.2.2.2.2.2.1.sub (L1 := [(xn, 119, 3100, ca 1, mx)]) [0] rfl), (hh_3.2.2.2.2.2.2.2.2.sub (L1 := [(jFt, jFT dC dI ca G0 xb xe)]) [0] rfl), by first | omega | (refine ⟨?_, ?_, ?_, ?_, ?_, ?_, ?_, ?_, ?_, ?_, ?_, ?_, ?_⟩ <;> (first | omega | rfl | assumption | decide | exact Or.inl rfl | exact Or.inr rfl | (simp only; omega)))⟩⟩ rfl rfl hl.1 rfl (lv_room (Nat.le_of_ble_eq_true rfl)) dX14_readValue_58 ⟨Nat.zero_le _, Nat.zero_le _⟩) hh_3.1 (fun q _ h => h) (fun q h => h) (fun r_11 u_10 t_10 H_10 locs_10 ht_10 hvm_10 hr_11 hb_10 hz_10 hk_10 hS_10 => ?_)
          obtain ⟨qt_10, qn_10, qp_10, qb_10, nx_10⟩ := u_10
          rw [ht_10] at hb_10
          obtain ⟨hb_10, hbT_10⟩ := hb_10
          obtain ⟨⟨hb_101, hb_102, hb_103, hb_104, hb_105⟩, hb_106⟩ := hb_10
          have hh_10 : jSt (dC, dI) B base G0 G0 EX14_readValueKN s.heap 0 0 [(r0, 16, 29, .int qt_10), (r0, 16, 26, .int qn_10), (r0, 16, 28, .int qp_10), (r0, 16, 31, .int qb_10), (r0, 16, 30, .int pe), (r0, 16, 22, .ref xb), (r0, 16, 23, .ref xe), (r0, 16, 19, .ref xn)] [(xn, 119, 3100, ca 1, nx_10)] [(jFt, jFT dC dI ca G0 xb xe)] H_10 locs_10 := (((hh_3.call hb_101 hb_102 hb_103 hb_104 hS_10 rfl (L1 := [(r0, 16, 30, .int pe), (r0, 16, 22, .ref xb), (r0, 16, 23, .ref xe), (r0, 16, 19, .ref xn)]) [1, 5, 6, 7] rfl rfl (M1 := []) [] rfl rfl (I1 := []) [] rfl rfl).more hb_105).moreM hb_106).addIs hbT_10
          clear hh_3 ht_10 hvm_10 hz_10 hk_10 hS_10 hb_101 hb_102 hb_103 hb_104 hb_105
          clear hb_106
          clear  hbT_10
          try simp only at hr_11
          obtain ⟨hr_11_0, hr_11_1, hr_11_2, hr_11_3, hr_11_4, hr_11_5, hr_11_6, hr_11_7, hr_11_8, hr_11_9, hr_11_10⟩ := hr_11
          rw [hQ]
          exact W.iret (v := r_11) hx hb hr (fun t ht hW => ⟨⟨r_11, (qt_10, qn_10, qp_10, qb_10, nx_10), rfl, by (try dsimp only); first | omega | (refine ⟨?_, ?_, ?_, ?_, ?_, ?_, ?_, ?_, ?_, ?_, ?_⟩ <;> (first | omega | rfl | assumption | decide | exact Or.inl rfl | exact Or.inr rfl | (simp only; omega))), ⟨⟨hh_10.rt (M1 := [(r0, 16, 29, .int qt_10), (r0, 16, 26, .int qn_10), (r0, 16, 28, .int qp_10), (r0, 16, 31, .int qb_10)]) [0, 1, 2, 3] rfl ht, by rw [ht]; exact hh_10.2.2.2.2.2.2.2.1.sub [0] rfl⟩, by rw [ht]; exact hh_10.2.2.2.2.2.2.2.2.sub (L1 := [(jFt, jFT dC dI ca G0 xb xe)]) [0] rfl⟩⟩, by rw [ht]; try exact hh_10.1.1, fun q h9 hq => by rw [ht]; try exact hh_10.1.2.1 q h9 hq⟩) hh_10.1.2.2 dX14_readValue_61
        · skip
          have c_8' : r_4.toInt = 123 := jb_ne_n (rfl) ((by decide)) c_8
          first | (have hr_4_2q := hr_4_2.resolve_left (by omega); clear hr_4_2) | (have hr_4_2q := hr_4_2.resolve_right (by omega); clear hr_4_2) | skip
          refine lv_iconst (v := 1) hx hb dX14_readValue_50 (by decide) ?_
          refine lv_goto (tgt := 55) hx hb dX14_readValue_51 (by decide) ?_
          refine lv_iload_n hx hb dX14_readValue_55 rfl (lv_at hl 2 rfl) ?_
          refine lv_iconst (v := 1) hx hb dX14_readValue_56 (by decide) ?_
          refine lv_iadd hx hb dX14_readValue_57 ?_
          refine lv_topi (fun z_12 ez_12 => ?_)
          have hz_12 : z_12.toInt = a1.toInt + 1 := by rw [ez_12]; exact jb_iadd2 (rfl) ((by decide)) (by omega)
          refine va_calli (A0 := jA base) (H0 := s.heap) (va_runV (As := [.int 1, .int z_12]) (rest := []) ⟨hx, hb, hml, hown, hts⟩ (ihM (ef - 1) (by omega) G0 H_3 r0 1 z_12 qt_1 pe pn pp pb xb xe xn mx) (cwV 2 hts (jgV (jWr_51 _ (List.mem_of_getElem? (i := 0) rfl)) (jWr_51 _ (List.mem_of_getElem? (i := 1) rfl)) (jWr_51 _ (List.mem_of_getElem? (i := 2) rfl)) (jWr_1 _ (List.mem_of_getElem? (i := 5) rfl)) (jWr_53 _ (List.mem_of_getElem? (i := 8) rfl))) rfl rfl rfl (by decide +kernel) ⟨by rw [← hR]; show (2 * (ef - 1) + 9) + 1 ≤ 2 * ef + 8; omega, by rw [← hR]; show 8 + (10 + 11) + (130 * (ef - 1) + 560) ≤ 130 * ef + 500; omega⟩) ⟨fun a U g mk q => by obtain ⟨q0, q1, q2, qK, q10, q11, q12, q13, q14, q15, q16, q17⟩ := q; exact ⟨q0, q1, q2, jG.calling g mk a qK, q10, q11, q12, q13, q14, q15, q16, q17⟩, hh_3.recv (C := RX14) (T := TX14) (N := 74) hB16 rfl (by decide) hg_r0 hK, fun U hU hW => ⟨rfl, hU, hh_3.2.1, hG.step hW hU hh_3.1, hg_r0, hg_xb, hg_xe, hg_xn, (hh_3.2.2.1.sub (L1 := [(r0, 16, 29, .int qt_1), (r0, 16, 30, .int pe), (r0, 16, 26, .int pn), (r0, 16, 28, .int pp), (r0, 16, 31, .int pb), (r0, 16, 22, .ref xb), (r0, 16, 23, .ref xe), (r0, 16, 19, .ref xn)]) [0, 1, 2, 3, 4, 5, 6, 7] rfl), (hh_3.2.2.2.2.2.2.2.1.sub (L1 := [(xn, 119, 3100, ca 1, mx)]) [0] rfl), (hh_3.2.2.2.2.2.2.2.2.sub (L1 := [(jFt, jFT dC dI ca G0 xb xe)]) [0] rfl), by first | omega | (refine ⟨?_, ?_, ?_, ?_, ?_, ?_, ?_, ?_, ?_, ?_, ?_, ?_, ?_⟩ <;> (first | omega | rfl | assumption | decide | exact Or.inl rfl | exact Or.inr rfl | (simp only; omega)))⟩⟩ rfl rfl hl.1 rfl (lv_room (Nat.le_of_ble_eq_true rfl)) dX14_readValue_58 ⟨Nat.zero_le _, Nat.zero_le _⟩) hh_3.1 (fun q _ h => h) (fun q h => h) (fun r_14 u_13 t_13 H_13 locs_13 ht_13 hvm_13 hr_14 hb_13 hz_13 hk_13 hS_13 => ?_)
          obtain ⟨qt_13, qn_13, qp_13, qb_13, nx_13⟩ := u_13
          rw [ht_13] at hb_13
          obtain ⟨hb_13, hbT_13⟩ := hb_13
          obtain ⟨⟨hb_131, hb_132, hb_133, hb_134, hb_135⟩, hb_136⟩ := hb_13
          have hh_13 : jSt (dC, dI) B base G0 G0 EX14_readValueKN s.heap 0 0 [(r0, 16, 29, .int qt_13), (r0, 16, 26, .int qn_13), (r0, 16, 28, .int qp_13), (r0, 16, 31, .int qb_13), (r0, 16, 30, .int pe), (r0, 16, 22, .ref xb), (r0, 16, 23, .ref xe), (r0, 16, 19, .ref xn)] [(xn, 119, 3100, ca 1, nx_13)] [(jFt, jFT dC dI ca G0 xb xe)] H_13 locs_13 := (((hh_3.call hb_131 hb_132 hb_133 hb_134 hS_13 rfl (L1 := [(r0, 16, 30, .int pe), (r0, 16, 22, .ref xb), (r0, 16, 23, .ref xe), (r0, 16, 19, .ref xn)]) [1, 5, 6, 7] rfl rfl (M1 := []) [] rfl rfl (I1 := []) [] rfl rfl).more hb_135).moreM hb_136).addIs hbT_13
          clear hh_3 ht_13 hvm_13 hz_13 hk_13 hS_13 hb_131 hb_132 hb_133 hb_134 hb_135
          clear hb_136
          clear  hbT_13
          try simp only at hr_14
          obtain ⟨hr_14_0, hr_14_1, hr_14_2, hr_14_3, hr_14_4, hr_14_5, hr_14_6, hr_14_7, hr_14_8, hr_14_9, hr_14_10⟩ := hr_14
          rw [hQ]
          exact W.iret (v := r_14) hx hb hr (fun t ht hW => ⟨⟨r_14, (qt_13, qn_13, qp_13, qb_13, nx_13), rfl, by (try dsimp only); first | omega | (refine ⟨?_, ?_, ?_, ?_, ?_, ?_, ?_, ?_, ?_, ?_, ?_⟩ <;> (first | omega | rfl | assumption | decide | exact Or.inl rfl | exact Or.inr rfl | (simp only; omega))), ⟨⟨hh_13.rt (M1 := [(r0, 16, 29, .int qt_13), (r0, 16, 26, .int qn_13), (r0, 16, 28, .int qp_13), (r0, 16, 31, .int qb_13)]) [0, 1, 2, 3] rfl ht, by rw [ht]; exact hh_13.2.2.2.2.2.2.2.1.sub [0] rfl⟩, by rw [ht]; exact hh_13.2.2.2.2.2.2.2.2.sub (L1 := [(jFt, jFT dC dI ca G0 xb xe)]) [0] rfl⟩⟩, by rw [ht]; try exact hh_13.1.1, fun q h9 hq => by rw [ht]; try exact hh_13.1.2.1 q h9 hq⟩) hh_13.1.2.2 dX14_readValue_61
      · skip
        have c_7' : pb.toInt ≠ 0 := jb_eq_n (rfl) ((by decide)) c_7
        refine lv_iconst (v := 0) hx hb dX14_readValue_39 (by decide) ?_
        refine lv_goto (tgt := 61) hx hb dX14_readValue_40 (by decide) ?_
        rw [hQ]
        exact W.iret (v := 0) hx hb hr (fun t ht hW => ⟨⟨0, (qt_1, pn, pp, pb, mx), rfl, by (try dsimp only); first | omega | (refine ⟨?_, ?_, ?_, ?_, ?_, ?_, ?_, ?_, ?_, ?_, ?_⟩ <;> (first | omega | rfl | assumption | decide | exact Or.inl rfl | exact Or.inr rfl | (simp only; omega))), ⟨⟨hh_3.rt (M1 := [(r0, 16, 29, .int qt_1), (r0, 16, 26, .int pn), (r0, 16, 28, .int pp), (r0, 16, 31, .int pb)]) [0, 2, 3, 4] rfl ht, by rw [ht]; exact hh_3.2.2.2.2.2.2.2.1.sub [0] rfl⟩, by rw [ht]; exact hh_3.2.2.2.2.2.2.2.2.sub (L1 := [(jFt, jFT dC dI ca G0 xb xe)]) [0] rfl⟩⟩, by rw [ht]; try exact hh_3.1.1, fun q h9 hq => by rw [ht]; try exact hh_3.1.2.1 q h9 hq⟩) hh_3.1.2.2 dX14_readValue_61
    · skip
      have c_6' : a1.toInt = 10 := jb_ne_n (rfl) ((by decide)) c_6
      refine lv_aload_n hx hb dX14_readValue_27 rfl (lv_at hl 1 rfl) ?_
      refine lv_iconst (v := 1) hx hb dX14_readValue_28 (by decide) ?_
      refine j7_put hx hb hown hK hh_3 hB hAp hB16 (C := RX14) (T := TX14) (N := 74) rfl (by decide) hg_r0 (i := 31) (by decide) hly_16_31 rfl hlk_288 rfl (ty := .boolean) (v := .int 1) (by decide +kernel) (jb_nz (Or.inr rfl)) (jb_fz (Or.inr rfl)) (⟨_, rfl, (Or.inr rfl)⟩) rfl (L1 := [(r0, 16, 29, .int qt_1), (r0, 16, 30, .int pe), (r0, 16, 26, .int pn), (r0, 16, 28, .int pp), (r0, 16, 22, .ref xb), (r0, 16, 23, .ref xe), (r0, 16, 19, .ref xn)]) [0, 1, 2, 3, 5, 6, 7] rfl rfl rfl dX14_readValue_29 (fun H_15 locs_15 hh_15 => ?_)
      clear hh_3
      refine lv_aload_n hx hb dX14_readValue_32 rfl (lv_at hl 1 rfl) ?_
      refine j7_read hx hb hown hK (C := RX14) (T := TX14) (N := 74) rfl hly_16_31 hlk_288 (hh_15.at 0 rfl) dX14_readValue_33 ?_
      refine lv_if_eq (tgt := 43) hx hb dX14_readValue_36 (by decide) (fun c_16 => ?_) (fun c_16 => ?_)
      · skip
        exact absurd c_16 (by decide)
      · skip
        refine lv_iconst (v := 0) hx hb dX14_readValue_39 (by decide) ?_
        refine lv_goto (tgt := 61) hx hb dX14_readValue_40 (by decide) ?_
        rw [hQ]
        exact W.iret (v := 0) hx hb hr (fun t ht hW => ⟨⟨0, (qt_1, pn, pp, 1, mx), rfl, by (try dsimp only); first | omega | (refine ⟨?_, ?_, ?_, ?_, ?_, ?_, ?_, ?_, ?_, ?_, ?_⟩ <;> (first | omega | rfl | assumption | decide | exact Or.inl rfl | exact Or.inr rfl | (simp only; omega))), ⟨⟨hh_15.rt (M1 := [(r0, 16, 29, .int qt_1), (r0, 16, 26, .int pn), (r0, 16, 28, .int pp), (r0, 16, 31, .int 1)]) [1, 3, 4, 0] rfl ht, by rw [ht]; exact hh_15.2.2.2.2.2.2.2.1.sub [0] rfl⟩, by rw [ht]; exact hh_15.2.2.2.2.2.2.2.2.sub (L1 := [(jFt, jFT dC dI ca G0 xb xe)]) [0] rfl⟩⟩, by rw [ht]; try exact hh_15.1.1, fun q h9 hq => by rw [ht]; try exact hh_15.1.2.1 q h9 hq⟩) hh_15.1.2.2 dX14_readValue_61
  · skip
    have c_5' : r_4.toInt ≠ 123 := jb_eq_n (rfl) ((by decide)) c_5
    refine lv_iload_n hx hb dX14_readValue_15 rfl (lv_at hl 0 rfl) ?_
    refine lv_bipush (v := 91) hx hb dX14_readValue_16 (by decide) ?_
    refine lv_icmp_ne (tgt := 62) hx hb dX14_readValue_18 (by decide) (fun c_17 => ?_) (fun c_17 => ?_)
    · skip
      have c_17' : r_4.toInt ≠ 91 := jb_ne (rfl) ((by decide)) c_17
      refine lv_iload_n hx hb dX14_readValue_62 rfl (lv_at hl 0 rfl) ?_
      refine lv_bipush (v := 34) hx hb dX14_readValue_63 (by decide) ?_
      refine lv_icmp_ne (tgt := 100) hx hb dX14_readValue_65 (by decide) (fun c_18 => ?_) (fun c_18 => ?_)
      · skip
        have c_18' : r_4.toInt ≠ 34 := jb_ne (rfl) ((by decide)) c_18
        refine lv_aload_n hx hb dX14_readValue_100 rfl (lv_at hl 1 rfl) ?_
        refine j_ldcSw hx hb hown rstr307 dX14_readValue_101 ?_
        refine va_calli (A0 := jA base) (H0 := s.heap) (va_runV (As := [.ref str307]) (rest := []) ⟨hx, hb, hml, hown, hts⟩ (uX14_takes l dC dI ca base B hB hAp hB16 hB110 G0 H_3 r0 str307 4 qt_1 pe) (cwV 1 hts (jgV (jWr_52 _ (List.mem_of_getElem? (i := 10) rfl)) (jWr_52 _ (List.mem_of_getElem? (i := 11) rfl)) (jWr_52 _ (List.mem_of_getElem? (i := 12) rfl)) (jWr_1 _ (List.mem_of_getElem? (i := 5) rfl)) (jWr_52 _ (List.mem_of_getElem? (i := 13) rfl))) rfl rfl rfl (by decide +kernel) ⟨by rw [← hR]; show (4) + 1 ≤ 2 * ef + 8; omega, by rw [← hR]; show 8 + (3 + 11) + (141) ≤ 130 * ef + 500; omega⟩) ⟨fun a U g mk q => by obtain ⟨q0, q1, q2, qK, q10, q11, q12, q13⟩ := q; exact ⟨q0, q1, q2, jG.calling g mk a qK, (q10.moved (Vm.Alike.refl U.vm)), q11, q12, q13⟩, hh_3.recv (C := RX14) (T := TX14) (N := 74) hB16 rfl (by decide) hg_r0 hK, fun U hU hW => ⟨rfl, hU, hh_3.2.1, hG.step hW hU hh_3.1, (hstr307.moved hW.alike).kept hh_3.1.2.1, hg_r0, (hh_3.2.2.1.sub (L1 := [(r0, 16, 29, .int qt_1), (r0, 16, 30, .int pe)]) [0, 1] rfl), by first | omega | (refine ⟨?_, ?_, ?_, ?_, ?_, ?_, ?_⟩ <;> (first | omega | rfl | assumption | decide | exact Or.inl rfl | exact Or.inr rfl | (simp only; omega)))⟩⟩ rfl rfl hl.1 rfl (lv_room (Nat.le_of_ble_eq_true rfl)) dX14_readValue_104 ⟨Nat.zero_le _, Nat.zero_le _⟩) hh_3.1 (fun q _ h => h) (fun q h => h) (fun r_20 u_19 t_19 H_19 locs_19 ht_19 hvm_19 hr_20 hb_19 hz_19 hk_19 hS_19 => ?_)
        obtain ⟨qt_19, rfl⟩ : ∃ z, z = u_19 := ⟨_, rfl⟩
        rw [ht_19] at hb_19
        obtain ⟨hb_191, hb_192, hb_193, hb_194, hb_195⟩ := hb_19
        have hh_19 : jSt (dC, dI) B base G0 G0 EX14_readValueKN s.heap 0 0 [(r0, 16, 29, .int qt_19), (r0, 16, 30, .int pe), (r0, 16, 26, .int pn), (r0, 16, 28, .int pp), (r0, 16, 31, .int pb), (r0, 16, 22, .ref xb), (r0, 16, 23, .ref xe), (r0, 16, 19, .ref xn)] [(xn, 119, 3100, ca 1, mx)] [(jFt, jFT dC dI ca G0 xb xe)] H_19 locs_19 := ((hh_3.call hb_191 hb_192 hb_193 hb_194 hS_19 rfl (L1 := [(r0, 16, 30, .int pe), (r0, 16, 26, .int pn), (r0, 16, 28, .int pp), (r0, 16, 31, .int pb), (r0, 16, 22, .ref xb), (r0, 16, 23, .ref xe), (r0, 16, 19, .ref xn)]) [1, 2, 3, 4, 5, 6, 7] rfl rfl (M1 := [(xn, 119, 3100, ca 1, mx)]) [0] rfl rfl (I1 := [(jFt, jFT dC dI ca G0 xb xe)]) [0] rfl rfl).more hb_195)
        clear hh_3 ht_19 hvm_19 hz_19 hk_19 hS_19 hb_191 hb_192 hb_193 hb_194 hb_195
        obtain ⟨hr_20b, hr_20p⟩ := hr_20
        obtain ⟨hr_20p_0, hr_20p_1, hr_20p_2⟩ := hr_20p
        have hr_20' := jb_01 hr_20b
        refine lv_if_eq (tgt := 116) hx hb dX14_readValue_107 (by decide) (fun c_21 => ?_) (fun c_21 => ?_)
        · skip
          have c_21' : r_20.toInt = 0 := jb_eq (rfl) ((by decide)) c_21
          refine lv_aload_n hx hb dX14_readValue_116 rfl (lv_at hl 1 rfl) ?_
          refine j_ldcSw hx hb hown rstr313 dX14_readValue_117 ?_
          refine va_calli (A0 := jA base) (H0 := s.heap) (va_runV (As := [.ref str313]) (rest := []) ⟨hx, hb, hml, hown, hts⟩ (uX14_takes l dC dI ca base B hB hAp hB16 hB110 G0 H_19 r0 str313 4 qt_19 pe) (cwV 1 hts (jgV (jWr_52 _ (List.mem_of_getElem? (i := 10) rfl)) (jWr_52 _ (List.mem_of_getElem? (i := 11) rfl)) (jWr_52 _ (List.mem_of_getElem? (i := 12) rfl)) (jWr_1 _ (List.mem_of_getElem? (i := 5) rfl)) (jWr_52 _ (List.mem_of_getElem? (i := 13) rfl))) rfl rfl rfl (by decide +kernel) ⟨by rw [← hR]; show (4) + 1 ≤ 2 * ef + 8; omega, by rw [← hR]; show 8 + (3 + 11) + (141) ≤ 130 * ef + 500; omega⟩) ⟨fun a U g mk q => by obtain ⟨q0, q1, q2, qK, q10, q11, q12, q13⟩ := q; exact ⟨q0, q1, q2, jG.calling g mk a qK, (q10.moved (Vm.Alike.refl U.vm)), q11, q12, q13⟩, hh_19.recv (C := RX14) (T := TX14) (N := 74) hB16 rfl (by decide) hg_r0 hK, fun U hU hW => ⟨rfl, hU, hh_19.2.1, hG.step hW hU hh_19.1, (hstr313.moved hW.alike).kept hh_19.1.2.1, hg_r0, (hh_19.2.2.1.sub (L1 := [(r0, 16, 29, .int qt_19), (r0, 16, 30, .int pe)]) [0, 1] rfl), by first | omega | (refine ⟨?_, ?_, ?_, ?_, ?_, ?_, ?_⟩ <;> (first | omega | rfl | assumption | decide | exact Or.inl rfl | exact Or.inr rfl | (simp only; omega)))⟩⟩ rfl rfl hl.1 rfl (lv_room (Nat.le_of_ble_eq_true rfl)) dX14_readValue_120 ⟨Nat.zero_le _, Nat.zero_le _⟩) hh_19.1 (fun q _ h => h) (fun q h => h) (fun r_23 u_22 t_22 H_22 locs_22 ht_22 hvm_22 hr_23 hb_22 hz_22 hk_22 hS_22 => ?_)
          obtain ⟨qt_22, rfl⟩ : ∃ z, z = u_22 := ⟨_, rfl⟩
          rw [ht_22] at hb_22
          obtain ⟨hb_221, hb_222, hb_223, hb_224, hb_225⟩ := hb_22
          have hh_22 : jSt (dC, dI) B base G0 G0 EX14_readValueKN s.heap 0 0 [(r0, 16, 29, .int qt_22), (r0, 16, 30, .int pe), (r0, 16, 26, .int pn), (r0, 16, 28, .int pp), (r0, 16, 31, .int pb), (r0, 16, 22, .ref xb), (r0, 16, 23, .ref xe), (r0, 16, 19, .ref xn)] [(xn, 119, 3100, ca 1, mx)] [(jFt, jFT dC dI ca G0 xb xe)] H_22 locs_22 := ((hh_19.call hb_221 hb_222 hb_223 hb_224 hS_22 rfl (L1 := [(r0, 16, 30, .int pe), (r0, 16, 26, .int pn), (r0, 16, 28, .int pp), (r0, 16, 31, .int pb), (r0, 16, 22, .ref xb), (r0, 16, 23, .ref xe), (r0, 16, 19, .ref xn)]) [1, 2, 3, 4, 5, 6, 7] rfl rfl (M1 := [(xn, 119, 3100, ca 1, mx)]) [0] rfl rfl (I1 := [(jFt, jFT dC dI ca G0 xb xe)]) [0] rfl rfl).more hb_225)
          clear hh_19 ht_22 hvm_22 hz_22 hk_22 hS_22 hb_221 hb_222 hb_223 hb_224 hb_225
          obtain ⟨hr_23b, hr_23p⟩ := hr_23
          obtain ⟨hr_23p_0, hr_23p_1, hr_23p_2⟩ := hr_23p
          have hr_23' := jb_01 hr_23b
          refine lv_if_eq (tgt := 132) hx hb dX14_readValue_123 (by decide) (fun c_24 => ?_) (fun c_24 => ?_)
          · skip
            have c_24' : r_23.toInt = 0 := jb_eq (rfl) ((by decide)) c_24
            refine lv_aload_n hx hb dX14_readValue_132 rfl (lv_at hl 1 rfl) ?_
            refine j_ldcSw hx hb hown rstr315 dX14_readValue_133 ?_
            refine va_calli (A0 := jA base) (H0 := s.heap) (va_runV (As := [.ref str315]) (rest := []) ⟨hx, hb, hml, hown, hts⟩ (uX14_takes l dC dI ca base B hB hAp hB16 hB110 G0 H_22 r0 str315 5 qt_22 pe) (cwV 1 hts (jgV (jWr_52 _ (List.mem_of_getElem? (i := 10) rfl)) (jWr_52 _ (List.mem_of_getElem? (i := 11) rfl)) (jWr_52 _ (List.mem_of_getElem? (i := 12) rfl)) (jWr_1 _ (List.mem_of_getElem? (i := 5) rfl)) (jWr_52 _ (List.mem_of_getElem? (i := 13) rfl))) rfl rfl rfl (by decide +kernel) ⟨by rw [← hR]; show (4) + 1 ≤ 2 * ef + 8; omega, by rw [← hR]; show 8 + (3 + 11) + (141) ≤ 130 * ef + 500; omega⟩) ⟨fun a U g mk q => by obtain ⟨q0, q1, q2, qK, q10, q11, q12, q13⟩ := q; exact ⟨q0, q1, q2, jG.calling g mk a qK, (q10.moved (Vm.Alike.refl U.vm)), q11, q12, q13⟩, hh_22.recv (C := RX14) (T := TX14) (N := 74) hB16 rfl (by decide) hg_r0 hK, fun U hU hW => ⟨rfl, hU, hh_22.2.1, hG.step hW hU hh_22.1, (hstr315.moved hW.alike).kept hh_22.1.2.1, hg_r0, (hh_22.2.2.1.sub (L1 := [(r0, 16, 29, .int qt_22), (r0, 16, 30, .int pe)]) [0, 1] rfl), by first | omega | (refine ⟨?_, ?_, ?_, ?_, ?_, ?_, ?_⟩ <;> (first | omega | rfl | assumption | decide | exact Or.inl rfl | exact Or.inr rfl | (simp only; omega)))⟩⟩ rfl rfl hl.1 rfl (lv_room (Nat.le_of_ble_eq_true rfl)) dX14_readValue_136 ⟨Nat.zero_le _, Nat.zero_le _⟩) hh_22.1 (fun q _ h => h) (fun q h => h) (fun r_26 u_25 t_25 H_25 locs_25 ht_25 hvm_25 hr_26 hb_25 hz_25 hk_25 hS_25 => ?_)
            obtain ⟨qt_25, rfl⟩ : ∃ z, z = u_25 := ⟨_, rfl⟩
            rw [ht_25] at hb_25
            obtain ⟨hb_251, hb_252, hb_253, hb_254, hb_255⟩ := hb_25
            have hh_25 : jSt (dC, dI) B base G0 G0 EX14_readValueKN s.heap 0 0 [(r0, 16, 29, .int qt_25), (r0, 16, 30, .int pe), (r0, 16, 26, .int pn), (r0, 16, 28, .int pp), (r0, 16, 31, .int pb), (r0, 16, 22, .ref xb), (r0, 16, 23, .ref xe), (r0, 16, 19, .ref xn)] [(xn, 119, 3100, ca 1, mx)] [(jFt, jFT dC dI ca G0 xb xe)] H_25 locs_25 := ((hh_22.call hb_251 hb_252 hb_253 hb_254 hS_25 rfl (L1 := [(r0, 16, 30, .int pe), (r0, 16, 26, .int pn), (r0, 16, 28, .int pp), (r0, 16, 31, .int pb), (r0, 16, 22, .ref xb), (r0, 16, 23, .ref xe), (r0, 16, 19, .ref xn)]) [1, 2, 3, 4, 5, 6, 7] rfl rfl (M1 := [(xn, 119, 3100, ca 1, mx)]) [0] rfl rfl (I1 := [(jFt, jFT dC dI ca G0 xb xe)]) [0] rfl rfl).more hb_255)
            clear hh_22 ht_25 hvm_25 hz_25 hk_25 hS_25 hb_251 hb_252 hb_253 hb_254 hb_255
            obtain ⟨hr_26b, hr_26p⟩ := hr_26
            obtain ⟨hr_26p_0, hr_26p_1, hr_26p_2⟩ := hr_26p
            have hr_26' := jb_01 hr_26b
            refine lv_if_eq (tgt := 148) hx hb dX14_readValue_139 (by decide) (fun c_27 => ?_) (fun c_27 => ?_)
            · skip
              have c_27' : r_26.toInt = 0 := jb_eq (rfl) ((by decide)) c_27
              refine lv_aload_n hx hb dX14_readValue_148 rfl (lv_at hl 1 rfl) ?_
              refine va_calli (A0 := jA base) (H0 := s.heap) (va_runV (As := []) (rest := []) ⟨hx, hb, hml, hown, hts⟩ (uX14_readNumberN l dC dI ca base B hB hAp hB16 hB110 hB117 hB118 hB119 hB124 hB125 G0 H_25 r0 qt_25 pe pn xn mx) (cwV 0 hts (jgV (jWr_52 _ (List.mem_of_getElem? (i := 19) rfl)) (jWr_52 _ (List.mem_of_getElem? (i := 20) rfl)) (jWr_52 _ (List.mem_of_getElem? (i := 21) rfl)) (jWr_1 _ (List.mem_of_getElem? (i := 5) rfl)) (jWr_52 _ (List.mem_of_getElem? (i := 22) rfl))) rfl rfl rfl (by decide +kernel) ⟨by rw [← hR]; show (3) + 1 ≤ 2 * ef + 8; omega, by rw [← hR]; show 8 + (9 + 11) + (62) ≤ 130 * ef + 500; omega⟩) ⟨fun a U g mk q => by obtain ⟨q0, q1, q2, qK, q10, q11, q12, q13, q14⟩ := q; exact ⟨q0, q1, q2, jG.calling g mk a qK, q10, q11, q12, q13, q14⟩, hh_25.recv (C := RX14) (T := TX14) (N := 74) hB16 rfl (by decide) hg_r0 hK, fun U hU hW => ⟨rfl, hU, hh_25.2.1, hG.step hW hU hh_25.1, hg_r0, hg_xn, (hh_25.2.2.1.sub (L1 := [(r0, 16, 29, .int qt_25), (r0, 16, 30, .int pe), (r0, 16, 26, .int pn), (r0, 16, 19, .ref xn)]) [0, 1, 2, 7] rfl), (hh_25.2.2.2.2.2.2.2.1.sub (L1 := [(xn, 119, 3100, ca 1, mx)]) [0] rfl), by first | omega | (refine ⟨?_, ?_, ?_, ?_, ?_, ?_, ?_, ?_⟩ <;> (first | omega | rfl | assumption | decide | exact Or.inl rfl | exact Or.inr rfl | (simp only; omega)))⟩⟩ rfl rfl hl.1 rfl (lv_room (Nat.le_of_ble_eq_true rfl)) dX14_readValue_149 ⟨Nat.zero_le _, Nat.zero_le _⟩) hh_25.1 (fun q _ h => h) (fun q h => h) (fun r_29 u_28 t_28 H_28 locs_28 ht_28 hvm_28 hr_29 hb_28 hz_28 hk_28 hS_28 => ?_)
              obtain ⟨qt_28, qn_28, qb_28, nx_28⟩ := u_28
              rw [ht_28] at hb_28
              obtain ⟨⟨hb_281, hb_282, hb_283, hb_284, hb_285⟩, hb_286⟩ := hb_28
              have hh_28 : jSt (dC, dI) B base G0 G0 EX14_readValueKN s.heap 0 0 [(r0, 16, 29, .int qt_28), (r0, 16, 26, .int qn_28), (r0, 16, 31, .int qb_28), (r0, 16, 30, .int pe), (r0, 16, 28, .int pp), (r0, 16, 22, .ref xb), (r0, 16, 23, .ref xe), (r0, 16, 19, .ref xn)] [(xn, 119, 3100, ca 1, nx_28)] [(jFt, jFT dC dI ca G0 xb xe)] H_28 locs_28 := ((hh_25.call hb_281 hb_282 hb_283 hb_284 hS_28 rfl (L1 := [(r0, 16, 30, .int pe), (r0, 16, 28, .int pp), (r0, 16, 22, .ref xb), (r0, 16, 23, .ref xe), (r0, 16, 19, .ref xn)]) [1, 3, 5, 6, 7] rfl rfl (M1 := []) [] rfl rfl (I1 := [(jFt, jFT dC dI ca G0 xb xe)]) [0] rfl rfl).more hb_285).moreM hb_286
              clear hh_25 ht_28 hvm_28 hz_28 hk_28 hS_28 hb_281 hb_282 hb_283 hb_284 hb_285
              clear hb_286
              try simp only at hr_29
              obtain ⟨hr_29_0, hr_29_1, hr_29_2, hr_29_3, hr_29_4, hr_29_5, hr_29_6, hr_29_7⟩ := hr_29
              rw [hQ]
              exact W.iret (v := r_29) hx hb hr (fun t ht hW => ⟨⟨r_29, (qt_28, qn_28, pp, qb_28, nx_28), rfl, by (try dsimp only); first | omega | (refine ⟨?_, ?_, ?_, ?_, ?_, ?_, ?_, ?_, ?_, ?_, ?_⟩ <;> (first | omega | rfl | assumption | decide | exact Or.inl rfl | exact Or.inr rfl | (simp only; omega))), ⟨⟨hh_28.rt (M1 := [(r0, 16, 29, .int qt_28), (r0, 16, 26, .int qn_28), (r0, 16, 28, .int pp), (r0, 16, 31, .int qb_28)]) [0, 1, 4, 2] rfl ht, by rw [ht]; exact hh_28.2.2.2.2.2.2.2.1.sub [0] rfl⟩, by rw [ht]; exact hh_28.2.2.2.2.2.2.2.2.sub (L1 := [(jFt, jFT dC dI ca G0 xb xe)]) [0] rfl⟩⟩, by rw [ht]; try exact hh_28.1.1, fun q h9 hq => by rw [ht]; try exact hh_28.1.2.1 q h9 hq⟩) hh_28.1.2.2 dX14_readValue_152
            · skip
              have c_27' : r_26.toInt ≠ 0 := jb_eq_n (rfl) ((by decide)) c_27
              refine lv_aload_n hx hb dX14_readValue_142 rfl (lv_at hl 1 rfl) ?_
              refine lv_iconst (v := 2) hx hb dX14_readValue_143 (by decide) ?_
              refine va_calli (A0 := jA base) (H0 := s.heap) (va_runV (As := [.int 2]) (rest := []) ⟨hx, hb, hml, hown, hts⟩ (uX14_nodeN l dC dI ca base B hB hAp hB16 hB117 hB118 hB119 hB124 G0 H_25 r0 2 pn xn mx) (cwV 1 hts (jgV (jWr_51 _ (List.mem_of_getElem? (i := 3) rfl)) (jWr_51 _ (List.mem_of_getElem? (i := 4) rfl)) (jWr_51 _ (List.mem_of_getElem? (i := 5) rfl)) (jWr_1 _ (List.mem_of_getElem? (i := 5) rfl)) (jWr_51 _ (List.mem_of_getElem? (i := 6) rfl))) rfl rfl rfl (by decide +kernel) ⟨by rw [← hR]; show (0) + 1 ≤ 2 * ef + 8; omega, by rw [← hR]; show 8 + (2 + 11) + (0) ≤ 130 * ef + 500; omega⟩) ⟨fun a U g mk q => by obtain ⟨q0, q1, q2, qK, q10, q11, q12, q13, q14⟩ := q; exact ⟨q0, q1, q2, jG.calling g mk a qK, q10, q11, q12, q13, q14⟩, hh_25.recv (C := RX14) (T := TX14) (N := 74) hB16 rfl (by decide) hg_r0 hK, fun U hU hW => ⟨rfl, hU, hh_25.2.1, hG.step hW hU hh_25.1, hg_r0, hg_xn, (hh_25.2.2.1.sub (L1 := [(r0, 16, 26, .int pn), (r0, 16, 19, .ref xn)]) [2, 7] rfl), (hh_25.2.2.2.2.2.2.2.1.sub (L1 := [(xn, 119, 3100, ca 1, mx)]) [0] rfl), by first | omega | (refine ⟨?_, ?_, ?_⟩ <;> (first | omega | rfl | assumption | decide | exact Or.inl rfl | exact Or.inr rfl | (simp only; omega)))⟩⟩ rfl rfl hl.1 rfl (lv_room (Nat.le_of_ble_eq_true rfl)) dX14_readValue_144 ⟨Nat.zero_le _, Nat.zero_le _⟩) hh_25.1 (fun q _ h => h) (fun q h => h) (fun r_31 u_30 t_30 H_30 locs_30 ht_30 hvm_30 hr_31 hb_30 hz_30 hk_30 hS_30 => ?_)
              obtain ⟨qn_30, nx_30⟩ := u_30
              rw [ht_30] at hb_30
              obtain ⟨⟨hb_301, hb_302, hb_303, hb_304, hb_305⟩, hb_306⟩ := hb_30
              have hh_30 : jSt (dC, dI) B base G0 G0 EX14_readValueKN s.heap 0 0 [(r0, 16, 26, .int qn_30), (r0, 16, 29, .int qt_25), (r0, 16, 30, .int pe), (r0, 16, 28, .int pp), (r0, 16, 31, .int pb), (r0, 16, 22, .ref xb), (r0, 16, 23, .ref xe), (r0, 16, 19, .ref xn)] [(xn, 119, 3100, ca 1, nx_30)] [(jFt, jFT dC dI ca G0 xb xe)] H_30 locs_30 := ((hh_25.call hb_301 hb_302 hb_303 hb_304 hS_30 rfl (L1 := [(r0, 16, 29, .int qt_25), (r0, 16, 30, .int pe), (r0, 16, 28, .int pp), (r0, 16, 31, .int pb), (r0, 16, 22, .ref xb), (r0, 16, 23, .ref xe), (r0, 16, 19, .ref xn)]) [0, 1, 3, 4, 5, 6, 7] rfl rfl (M1 := []) [] rfl rfl (I1 := [(jFt, jFT dC dI ca G0 xb xe)]) [0] rfl rfl).more hb_305).moreM hb_306
              clear hh_25 ht_30 hvm_30 hz_30 hk_30 hS_30 hb_301 hb_302 hb_303 hb_304 hb_305
              clear hb_306
              try simp only at hr_31
              obtain ⟨hr_31_0, hr_31_1, hr_31_2⟩ := hr_31
              rw [hQ]
              exact W.iret (v := r_31) hx hb hr (fun t ht hW => ⟨⟨r_31, (qt_25, qn_30, pp, pb, nx_30), rfl, by (try dsimp only); first | omega | (refine ⟨?_, ?_, ?_, ?_, ?_, ?_, ?_, ?_, ?_, ?_, ?_⟩ <;> (first | omega | rfl | assumption | decide | exact Or.inl rfl | exact Or.inr rfl | (simp only; omega))), ⟨⟨hh_30.rt (M1 := [(r0, 16, 29, .int qt_25), (r0, 16, 26, .int qn_30), (r0, 16, 28, .int pp), (r0, 16, 31, .int pb)]) [1, 0, 3, 4] rfl ht, by rw [ht]; exact hh_30.2.2.2.2.2.2.2.1.sub [0] rfl⟩, by rw [ht]; exact hh_30.2.2.2.2.2.2.2.2.sub (L1 := [(jFt, jFT dC dI ca G0 xb xe)]) [0] rfl⟩⟩, by rw [ht]; try exact hh_30.1.1, fun q h9 hq => by rw [ht]; try exact hh_30.1.2.1 q h9 hq⟩) hh_30.1.2.2 dX14_readValue_147
          · skip
            have c_24' : r_23.toInt ≠ 0 := jb_eq_n (rfl) ((by decide)) c_24
            refine lv_aload_n hx hb dX14_readValue_126 rfl (lv_at hl 1 rfl) ?_
            refine lv_iconst (v := 1) hx hb dX14_readValue_127 (by decide) ?_
            refine va_calli (A0 := jA base) (H0 := s.heap) (va_runV (As := [.int 1]) (rest := []) ⟨hx, hb, hml, hown, hts⟩ (uX14_nodeN l dC dI ca base B hB hAp hB16 hB117 hB118 hB119 hB124 G0 H_22 r0 1 pn xn mx) (cwV 1 hts (jgV (jWr_51 _ (List.mem_of_getElem? (i := 3) rfl)) (jWr_51 _ (List.mem_of_getElem? (i := 4) rfl)) (jWr_51 _ (List.mem_of_getElem? (i := 5) rfl)) (jWr_1 _ (List.mem_of_getElem? (i := 5) rfl)) (jWr_51 _ (List.mem_of_getElem? (i := 6) rfl))) rfl rfl rfl (by decide +kernel) ⟨by rw [← hR]; show (0) + 1 ≤ 2 * ef + 8; omega, by rw [← hR]; show 8 + (2 + 11) + (0) ≤ 130 * ef + 500; omega⟩) ⟨fun a U g mk q => by obtain ⟨q0, q1, q2, qK, q10, q11, q12, q13, q14⟩ := q; exact ⟨q0, q1, q2, jG.calling g mk a qK, q10, q11, q12, q13, q14⟩, hh_22.recv (C := RX14) (T := TX14) (N := 74) hB16 rfl (by decide) hg_r0 hK, fun U hU hW => ⟨rfl, hU, hh_22.2.1, hG.step hW hU hh_22.1, hg_r0, hg_xn, (hh_22.2.2.1.sub (L1 := [(r0, 16, 26, .int pn), (r0, 16, 19, .ref xn)]) [2, 7] rfl), (hh_22.2.2.2.2.2.2.2.1.sub (L1 := [(xn, 119, 3100, ca 1, mx)]) [0] rfl), by first | omega | (refine ⟨?_, ?_, ?_⟩ <;> (first | omega | rfl | assumption | decide | exact Or.inl rfl | exact Or.inr rfl | (simp only; omega)))⟩⟩ rfl rfl hl.1 rfl (lv_room (Nat.le_of_ble_eq_true rfl)) dX14_readValue_128 ⟨Nat.zero_le _, Nat.zero_le _⟩) hh_22.1 (fun q _ h => h) (fun q h => h) (fun r_33 u_32 t_32 H_32 locs_32 ht_32 hvm_32 hr_33 hb_32 hz_32 hk_32 hS_32 => ?_)
            obtain ⟨qn_32, nx_32⟩ := u_32
            rw [ht_32] at hb_32
            obtain ⟨⟨hb_321, hb_322, hb_323, hb_324, hb_325⟩, hb_326⟩ := hb_32
            have hh_32 : jSt (dC, dI) B base G0 G0 EX14_readValueKN s.heap 0 0 [(r0, 16, 26, .int qn_32), (r0, 16, 29, .int qt_22), (r0, 16, 30, .int pe), (r0, 16, 28, .int pp), (r0, 16, 31, .int pb), (r0, 16, 22, .ref xb), (r0, 16, 23, .ref xe), (r0, 16, 19, .ref xn)] [(xn, 119, 3100, ca 1, nx_32)] [(jFt, jFT dC dI ca G0 xb xe)] H_32 locs_32 := ((hh_22.call hb_321 hb_322 hb_323 hb_324 hS_32 rfl (L1 := [(r0, 16, 29, .int qt_22), (r0, 16, 30, .int pe), (r0, 16, 28, .int pp), (r0, 16, 31, .int pb), (r0, 16, 22, .ref xb), (r0, 16, 23, .ref xe), (r0, 16, 19, .ref xn)]) [0, 1, 3, 4, 5, 6, 7] rfl rfl (M1 := []) [] rfl rfl (I1 := [(jFt, jFT dC dI ca G0 xb xe)]) [0] rfl rfl).more hb_325).moreM hb_326
            clear hh_22 ht_32 hvm_32 hz_32 hk_32 hS_32 hb_321 hb_322 hb_323 hb_324 hb_325
            clear hb_326
            try simp only at hr_33
            obtain ⟨hr_33_0, hr_33_1, hr_33_2⟩ := hr_33
            rw [hQ]
            exact W.iret (v := r_33) hx hb hr (fun t ht hW => ⟨⟨r_33, (qt_22, qn_32, pp, pb, nx_32), rfl, by (try dsimp only); first | omega | (refine ⟨?_, ?_, ?_, ?_, ?_, ?_, ?_, ?_, ?_, ?_, ?_⟩ <;> (first | omega | rfl | assumption | decide | exact Or.inl rfl | exact Or.inr rfl | (simp only; omega))), ⟨⟨hh_32.rt (M1 := [(r0, 16, 29, .int qt_22), (r0, 16, 26, .int qn_32), (r0, 16, 28, .int pp), (r0, 16, 31, .int pb)]) [1, 0, 3, 4] rfl ht, by rw [ht]; exact hh_32.2.2.2.2.2.2.2.1.sub [0] rfl⟩, by rw [ht]; exact hh_32.2.2.2.2.2.2.2.2.sub (L1 := [(jFt, jFT dC dI ca G0 xb xe)]) [0] rfl⟩⟩, by rw [ht]; try exact hh_32.1.1, fun q h9 hq => by rw [ht]; try exact hh_32.1.2.1 q h9 hq⟩) hh_32.1.2.2 dX14_readValue_131
        · skip
          have c_21' : r_20.toInt ≠ 0 := jb_eq_n (rfl) ((by decide)) c_21
          refine lv_aload_n hx hb dX14_readValue_110 rfl (lv_at hl 1 rfl) ?_
          refine lv_iconst (v := 0) hx hb dX14_readValue_111 (by decide) ?_
          refine va_calli (A0 := jA base) (H0 := s.heap) (va_runV (As := [.int 0]) (rest := []) ⟨hx, hb, hml, hown, hts⟩ (uX14_nodeN l dC dI ca base B hB hAp hB16 hB117 hB118 hB119 hB124 G0 H_19 r0 0 pn xn mx) (cwV 1 hts (jgV (jWr_51 _ (List.mem_of_getElem? (i := 3) rfl)) (jWr_51 _ (List.mem_of_getElem? (i := 4) rfl)) (jWr_51 _ (List.mem_of_getElem? (i := 5) rfl)) (jWr_1 _ (List.mem_of_getElem? (i := 5) rfl)) (jWr_51 _ (List.mem_of_getElem? (i := 6) rfl))) rfl rfl rfl (by decide +kernel) ⟨by rw [← hR]; show (0) + 1 ≤ 2 * ef + 8; omega, by rw [← hR]; show 8 + (2 + 11) + (0) ≤ 130 * ef + 500; omega⟩) ⟨fun a U g mk q => by obtain ⟨q0, q1, q2, qK, q10, q11, q12, q13, q14⟩ := q; exact ⟨q0, q1, q2, jG.calling g mk a qK, q10, q11, q12, q13, q14⟩, hh_19.recv (C := RX14) (T := TX14) (N := 74) hB16 rfl (by decide) hg_r0 hK, fun U hU hW => ⟨rfl, hU, hh_19.2.1, hG.step hW hU hh_19.1, hg_r0, hg_xn, (hh_19.2.2.1.sub (L1 := [(r0, 16, 26, .int pn), (r0, 16, 19, .ref xn)]) [2, 7] rfl), (hh_19.2.2.2.2.2.2.2.1.sub (L1 := [(xn, 119, 3100, ca 1, mx)]) [0] rfl), by first | omega | (refine ⟨?_, ?_, ?_⟩ <;> (first | omega | rfl | assumption | decide | exact Or.inl rfl | exact Or.inr rfl | (simp only; omega)))⟩⟩ rfl rfl hl.1 rfl (lv_room (Nat.le_of_ble_eq_true rfl)) dX14_readValue_112 ⟨Nat.zero_le _, Nat.zero_le _⟩) hh_19.1 (fun q _ h => h) (fun q h => h) (fun r_35 u_34 t_34 H_34 locs_34 ht_34 hvm_34 hr_35 hb_34 hz_34 hk_34 hS_34 => ?_)
          obtain ⟨qn_34, nx_34⟩ := u_34
          rw [ht_34] at hb_34
          obtain ⟨⟨hb_341, hb_342, hb_343, hb_344, hb_345⟩, hb_346⟩ := hb_34
          have hh_34 : jSt (dC, dI) B base G0 G0 EX14_readValueKN s.heap 0 0 [(r0, 16, 26, .int qn_34), (r0, 16, 29, .int qt_19), (r0, 16, 30, .int pe), (r0, 16, 28, .int pp), (r0, 16, 31, .int pb), (r0, 16, 22, .ref xb), (r0, 16, 23, .ref xe), (r0, 16, 19, .ref xn)] [(xn, 119, 3100, ca 1, nx_34)] [(jFt, jFT dC dI ca G0 xb xe)] H_34 locs_34 := ((hh_19.call hb_341 hb_342 hb_343 hb_344 hS_34 rfl (L1 := [(r0, 16, 29, .int qt_19), (r0, 16, 30, .int pe), (r0, 16, 28, .int pp), (r0, 16, 31, .int pb), (r0, 16, 22, .ref xb), (r0, 16, 23, .ref xe), (r0, 16, 19, .ref xn)]) [0, 1, 3, 4, 5, 6, 7] rfl rfl (M1 := []) [] rfl rfl (I1 := [(jFt, jFT dC dI ca G0 xb xe)]) [0] rfl rfl).more hb_345).moreM hb_346
          clear hh_19 ht_34 hvm_34 hz_34 hk_34 hS_34 hb_341 hb_342 hb_343 hb_344 hb_345
          clear hb_346
          try simp only at hr_35
          obtain ⟨hr_35_0, hr_35_1, hr_35_2⟩ := hr_35
          rw [hQ]
          exact W.iret (v := r_35) hx hb hr (fun t ht hW => ⟨⟨r_35, (qt_19, qn_34, pp, pb, nx_34), rfl, by (try dsimp only); first | omega | (refine ⟨?_, ?_, ?_, ?_, ?_, ?_, ?_, ?_, ?_, ?_, ?_⟩ <;> (first | omega | rfl | assumption | decide | exact Or.inl rfl | exact Or.inr rfl | (simp only; omega))), ⟨⟨hh_34.rt (M1 := [(r0, 16, 29, .int qt_19), (r0, 16, 26, .int qn_34), (r0, 16, 28, .int pp), (r0, 16, 31, .int pb)]) [1, 0, 3, 4] rfl ht, by rw [ht]; exact hh_34.2.2.2.2.2.2.2.1.sub [0] rfl⟩, by rw [ht]; exact hh_34.2.2.2.2.2.2.2.2.sub (L1 := [(jFt, jFT dC dI ca G0 xb xe)]) [0] rfl⟩⟩, by rw [ht]; try exact hh_34.1.1, fun q h9 hq => by rw [ht]; try exact hh_34.1.2.1 q h9 hq⟩) hh_34.1.2.2 dX14_readValue_115
      · skip
        have c_18' : r_4.toInt = 34 := jb_ne_n (rfl) ((by decide)) c_18
        first | (have hr_4_2q := hr_4_2.resolve_left (by omega); clear hr_4_2) | (have hr_4_2q := hr_4_2.resolve_right (by omega); clear hr_4_2) | skip
        refine lv_aload_n hx hb dX14_readValue_68 rfl (lv_at hl 1 rfl) ?_
        refine lv_iconst (v := 4) hx hb dX14_readValue_69 (by decide) ?_
        refine va_calli (A0 := jA base) (H0 := s.heap) (va_runV (As := [.int 4]) (rest := []) ⟨hx, hb, hml, hown, hts⟩ (uX14_nodeN l dC dI ca base B hB hAp hB16 hB117 hB118 hB119 hB124 G0 H_3 r0 4 pn xn mx) (cwV 1 hts (jgV (jWr_51 _ (List.mem_of_getElem? (i := 3) rfl)) (jWr_51 _ (List.mem_of_getElem? (i := 4) rfl)) (jWr_51 _ (List.mem_of_getElem? (i := 5) rfl)) (jWr_1 _ (List.mem_of_getElem? (i := 5) rfl)) (jWr_51 _ (List.mem_of_getElem? (i := 6) rfl))) rfl rfl rfl (by decide +kernel) ⟨by rw [← hR]; show (0) + 1 ≤ 2 * ef + 8; omega, by rw [← hR]; show 8 + (2 + 11) + (0) ≤ 130 * ef + 500; omega⟩) ⟨fun a U g mk q => by obtain ⟨q0, q1, q2, qK, q10, q11, q12, q13, q14⟩ := q; exact ⟨q0, q1, q2, jG.calling g mk a qK, q10, q11, q12, q13, q14⟩, hh_3.recv (C := RX14) (T := TX14) (N := 74) hB16 rfl (by decide) hg_r0 hK, fun U hU hW => ⟨rfl, hU, hh_3.2.1, hG.step hW hU hh_3.1, hg_r0, hg_xn, (hh_3.2.2.1.sub (L1 := [(r0, 16, 26, .int pn), (r0, 16, 19, .ref xn)]) [2, 7] rfl), (hh_3.2.2.2.2.2.2.2.1.sub (L1 := [(xn, 119, 3100, ca 1, mx)]) [0] rfl), by first | omega | (refine ⟨?_, ?_, ?_⟩ <;> (first | omega | rfl | assumption | decide | exact Or.inl rfl | exact Or.inr rfl | (simp only; omega)))⟩⟩ rfl rfl hl.1 rfl (lv_room (Nat.le_of_ble_eq_true rfl)) dX14_readValue_70 ⟨Nat.zero_le _, Nat.zero_le _⟩) hh_3.1 (fun q _ h => h) (fun q h => h) (fun r_37 u_36 t_36 H_36 locs_36 ht_36 hvm_36 hr_37 hb_36 hz_36 hk_36 hS_36 => ?_)
        obtain ⟨qn_36, nx_36⟩ := u_36
        rw [ht_36] at hb_36
        obtain ⟨⟨hb_361, hb_362, hb_363, hb_364, hb_365⟩, hb_366⟩ := hb_36
        have hh_36 : jSt (dC, dI) B base G0 G0 EX14_readValueKN s.heap 0 0 [(r0, 16, 26, .int qn_36), (r0, 16, 29, .int qt_1), (r0, 16, 30, .int pe), (r0, 16, 28, .int pp), (r0, 16, 31, .int pb), (r0, 16, 22, .ref xb), (r0, 16, 23, .ref xe), (r0, 16, 19, .ref xn)] [(xn, 119, 3100, ca 1, nx_36)] [(jFt, jFT dC dI ca G0 xb xe)] H_36 locs_36 := ((hh_3.call hb_361 hb_362 hb_363 hb_364 hS_36 rfl (L1 := [(r0, 16, 29, .int qt_1), (r0, 16, 30, .int pe), (r0, 16, 28, .int pp), (r0, 16, 31, .int pb), (r0, 16, 22, .ref xb), (r0, 16, 23, .ref xe), (r0, 16, 19, .ref xn)]) [0, 1, 3, 4, 5, 6, 7] rfl rfl (M1 := []) [] rfl rfl (I1 := [(jFt, jFT dC dI ca G0 xb xe)]) [0] rfl rfl).more hb_365).moreM hb_366
        clear hh_3 ht_36 hvm_36 hz_36 hk_36 hS_36 hb_361 hb_362 hb_363 hb_364 hb_365
        clear hb_366
        try simp only at hr_37
        obtain ⟨hr_37_0, hr_37_1, hr_37_2⟩ := hr_37
        refine lv_istore_n (lv' := [(3, .int r_37), (2, .int r_4), (0, .ref r0), (1, .int a1)]) hx hb dX14_readValue_73 rfl hl (by decide) rfl (fun ls hl => ?_)
        refine lv_aload_n hx hb dX14_readValue_74 rfl (lv_at hl 2 rfl) ?_
        refine va_callv (A0 := jA base) (H0 := s.heap) (va_runV (As := []) (rest := []) ⟨hx, hb, hml, hown, hts⟩ (uX14_readString l dC dI ca base B hB hAp hB16 hB110 hB127 G0 H_36 r0 qt_1 pe pp pb) (cwV 0 hts (jgV (jWr_51 _ (List.mem_of_getElem? (i := 7) rfl)) (jWr_51 _ (List.mem_of_getElem? (i := 8) rfl)) (jWr_51 _ (List.mem_of_getElem? (i := 9) rfl)) (jWr_1 _ (List.mem_of_getElem? (i := 5) rfl)) (jWr_51 _ (List.mem_of_getElem? (i := 10) rfl))) rfl rfl rfl (by decide +kernel) ⟨by rw [← hR]; show (6) + 1 ≤ 2 * ef + 8; omega, by rw [← hR]; show 8 + (4 + 11) + (206) ≤ 130 * ef + 500; omega⟩) ⟨fun a U g mk q => by obtain ⟨q0, q1, q2, qK, q10, q11, q12⟩ := q; exact ⟨q0, q1, q2, jG.calling g mk a qK, q10, q11, q12⟩, hh_36.recv (C := RX14) (T := TX14) (N := 74) hB16 rfl (by decide) hg_r0 hK, fun U hU hW => ⟨rfl, hU, hh_36.2.1, hG.step hW hU hh_36.1, hg_r0, (hh_36.2.2.1.sub (L1 := [(r0, 16, 29, .int qt_1), (r0, 16, 30, .int pe), (r0, 16, 28, .int pp), (r0, 16, 31, .int pb)]) [1, 2, 3, 4] rfl), by first | omega | (refine ⟨?_, ?_, ?_, ?_, ?_, ?_, ?_, ?_⟩ <;> (first | omega | rfl | assumption | decide | exact Or.inl rfl | exact Or.inr rfl | (simp only; omega)))⟩⟩ rfl rfl hl.1 rfl (lv_room (Nat.le_of_ble_eq_true rfl)) dX14_readValue_75 ⟨Nat.zero_le _, Nat.zero_le _⟩) hh_36.1 (fun q _ h => h) (fun q h => h) (fun u_38 t_38 H_38 locs_38 ht_38 hvm_38 hr_39 hb_38 hz_38 hk_38 hS_38 => ?_)
        obtain ⟨qt_38, qp_38, qb_38, qs_38⟩ := u_38
        rw [ht_38] at hb_38
        obtain ⟨hb_381, hb_382, hb_383, hb_384, hb_385⟩ := hb_38
        have hh_38 : jSt (dC, dI) B base G0 G0 EX14_readValueKN s.heap 0 0 [(r0, 16, 29, .int qt_38), (r0, 16, 28, .int qp_38), (r0, 16, 31, .int qb_38), (r0, 16, 32, .int qs_38), (r0, 16, 26, .int qn_36), (r0, 16, 30, .int pe), (r0, 16, 22, .ref xb), (r0, 16, 23, .ref xe), (r0, 16, 19, .ref xn)] [(xn, 119, 3100, ca 1, nx_36)] [(jFt, jFT dC dI ca G0 xb xe)] H_38 locs_38 := ((hh_36.call hb_381 hb_382 hb_383 hb_384 hS_38 rfl (L1 := [(r0, 16, 26, .int qn_36), (r0, 16, 30, .int pe), (r0, 16, 22, .ref xb), (r0, 16, 23, .ref xe), (r0, 16, 19, .ref xn)]) [0, 2, 5, 6, 7] rfl rfl (M1 := [(xn, 119, 3100, ca 1, nx_36)]) [0] rfl rfl (I1 := [(jFt, jFT dC dI ca G0 xb xe)]) [0] rfl rfl).more hb_385)
        clear hh_36 ht_38 hvm_38 hz_38 hk_38 hS_38 hb_381 hb_382 hb_383 hb_384 hb_385
        try simp only at hr_39
        obtain ⟨hr_39_0, hr_39_1, hr_39_2, hr_39_3, hr_39_4, hr_39_5, hr_39_6⟩ := hr_39
        obtain ⟨tb_40, te_40, hTM_40, hTl_40⟩ := hh_38.iv 0 rfl
        have hh_41 := hh_38.moreM hTM_40
        clear hh_38 hTM_40
        have hh_42 := hh_41.sub (L1 := [(r0, 16, 29, .int qt_38), (r0, 16, 28, .int qp_38), (r0, 16, 31, .int qb_38), (r0, 16, 32, .int qs_38), (r0, 16, 26, .int qn_36), (r0, 16, 30, .int pe), (r0, 16, 22, .ref xb), (r0, 16, 23, .ref xe), (r0, 16, 19, .ref xn)]) [0, 1, 2, 3, 4, 5, 6, 7, 8] rfl (M1 := [(xb, 122, 3100, ca 1, tb_40), (xe, 123, 3100, ca 1, te_40), (xn, 119, 3100, ca 1, nx_36)]) [0, 1, 2] rfl (I1 := []) [] rfl
        clear hh_41
        refine lv_aload_n hx hb dX14_readValue_78 rfl (lv_at hl 2 rfl) ?_
        refine j7_read hx hb hown hK (C := RX14) (T := TX14) (N := 74) rfl hly_16_22 hlk_52 (hh_42.at 6 rfl) dX14_readValue_79 ?_
        refine lv_iload_n hx hb dX14_readValue_82 rfl (lv_at hl 0 rfl) ?_
        refine lv_aload_n hx hb dX14_readValue_83 rfl (lv_at hl 2 rfl) ?_
        refine j7_read hx hb hown hK (C := RX14) (T := TX14) (N := 74) rfl hly_16_32 hlk_301 (hh_42.at 3 rfl) dX14_readValue_84 ?_
        refine j7_iastU hx hb hK hh_42 hB hB122 1 rfl (by decide) (by decide) rfl 0 rfl (M1 := [(xe, 123, 3100, ca 1, te_40), (xn, 119, 3100, ca 1, nx_36)]) [1, 2] rfl rfl rfl hg_xb (x := r_37.toInt) (rfl) (by omega) (by first | omega | (refine ⟨?_, ?_⟩ <;> (first | omega | rfl | assumption | decide | exact Or.inl rfl | exact Or.inr rfl | (simp only; omega)))) dX14_readValue_87 (fun H_43 locs_43 fs_44 hv_43 ho_43 hh_43 => ?_)
        have hv_43 : jSo fs_44 (r_37.toInt) = qs_38.toInt := by unfold jSo; rw [hv_43]; try exact rfl
        clear hh_42
        refine lv_aload_n hx hb dX14_readValue_88 rfl (lv_at hl 2 rfl) ?_
        refine j7_read hx hb hown hK (C := RX14) (T := TX14) (N := 74) rfl hly_16_23 hlk_55 (hh_43.at 7 rfl) dX14_readValue_89 ?_
        refine lv_iload_n hx hb dX14_readValue_92 rfl (lv_at hl 0 rfl) ?_
        refine lv_aload_n hx hb dX14_readValue_93 rfl (lv_at hl 2 rfl) ?_
        refine j7_read hx hb hown hK (C := RX14) (T := TX14) (N := 74) rfl hly_16_28 hlk_304 (hh_43.at 1 rfl) dX14_readValue_94 ?_
        refine j7_iastU hx hb hK hh_43 hB hB123 1 rfl (by decide) (by decide) rfl 1 rfl (M1 := [(xb, 122, 3100, ca 1, fs_44), (xn, 119, 3100, ca 1, nx_36)]) [0, 2] rfl rfl rfl hg_xe (x := r_37.toInt) (rfl) (by omega) (by first | omega | (refine ⟨?_, ?_⟩ <;> (first | omega | rfl | assumption | decide | exact Or.inl rfl | exact Or.inr rfl | (simp only; omega)))) dX14_readValue_97 (fun H_45 locs_45 fs_46 hv_45 ho_45 hh_45 => ?_)
        have hv_45 : jSo fs_46 (r_37.toInt) = qp_38.toInt := by unfold jSo; rw [hv_45]; try exact rfl
        clear hh_43
        have hd_47 : jFT dC dI ca G0 xb xe H_45 := ⟨_, _, hh_45.2.2.2.2.2.2.2.1.sub (L1 := [(xb, 122, 3100, ca 1, fs_44), (xe, 123, 3100, ca 1, fs_46)]) [1, 0] rfl, hTl_40.upd hv_43 ho_43 hv_45 ho_45 (by omega) (by omega)⟩
        have hh_48 := hh_45.addI (jFT.ie hd_47 hg_xb hg_xe)
        clear hh_45
        refine lv_iload_n hx hb dX14_readValue_98 rfl (lv_at hl 0 rfl) ?_
        rw [hQ]
        exact W.iret (v := r_37) hx hb hr (fun t ht hW => ⟨⟨r_37, (qt_38, qn_36, qp_38, qb_38, nx_36), rfl, by (try dsimp only); first | omega | (refine ⟨?_, ?_, ?_, ?_, ?_, ?_, ?_, ?_, ?_, ?_, ?_⟩ <;> (first | omega | rfl | assumption | decide | exact Or.inl rfl | exact Or.inr rfl | (simp only; omega))), ⟨⟨hh_48.rt (M1 := [(r0, 16, 29, .int qt_38), (r0, 16, 26, .int qn_36), (r0, 16, 28, .int qp_38), (r0, 16, 31, .int qb_38)]) [0, 4, 1, 2] rfl ht, by rw [ht]; exact hh_48.2.2.2.2.2.2.2.1.sub [2] rfl⟩, by rw [ht]; exact hh_48.2.2.2.2.2.2.2.2.sub (L1 := [(jFt, jFT dC dI ca G0 xb xe)]) [0] rfl⟩⟩, by rw [ht]; try exact hh_48.1.1, fun q h9 hq => by rw [ht]; try exact hh_48.1.2.1 q h9 hq⟩) hh_48.1.2.2 dX14_readValue_99
    · skip
      have c_17' : r_4.toInt = 91 := jb_ne_n (rfl) ((by decide)) c_17
      first | (have hr_4_2q := hr_4_2.resolve_left (by omega); clear hr_4_2) | (have hr_4_2q := hr_4_2.resolve_right (by omega); clear hr_4_2) | skip
      refine lv_iload_n hx hb dX14_readValue_21 rfl (lv_at hl 2 rfl) ?_
      refine lv_bipush (v := 10) hx hb dX14_readValue_22 (by decide) ?_
      refine lv_icmp_ne (tgt := 32) hx hb dX14_readValue_24 (by decide) (fun c_49 => ?_) (fun c_49 => ?_)
      · skip
        have c_49' : a1.toInt ≠ 10 := jb_ne (rfl) ((by decide)) c_49
        refine lv_aload_n hx hb dX14_readValue_32 rfl (lv_at hl 1 rfl) ?_
        refine j7_read hx hb hown hK (C := RX14) (T := TX14) (N := 74) rfl hly_16_31 hlk_288 (hh_3.at 4 rfl) dX14_readValue_33 ?_
        refine lv_if_eq (tgt := 43) hx hb dX14_readValue_36 (by decide) (fun c_50 => ?_) (fun c_50 => ?_)
        · skip
          have c_50' : pb.toInt = 0 := jb_eq (rfl) ((by decide)) c_50
          refine lv_aload_n hx hb dX14_readValue_43 rfl (lv_at hl 1 rfl) ?_
          refine lv_iload_n hx hb dX14_readValue_44 rfl (lv_at hl 0 rfl) ?_
          refine lv_bipush (v := 123) hx hb dX14_readValue_45 (by decide) ?_
          refine lv_icmp_ne (tgt := 54) hx hb dX14_readValue_47 (by decide) (fun c_51 => ?_) (fun c_51 => ?_)
          · skip
            have c_51' : r_4.toInt ≠ 123 := jb_ne (rfl) ((by decide)) c_51
            refine lv_iconst (v := 0) hx hb dX14_readValue_54 (by decide) ?_
            refine lv_iload_n hx hb dX14_readValue_55 rfl (lv_at hl 2 rfl) ?_
            refine lv_iconst (v := 1) hx hb dX14_readValue_56 (by decide) ?_
            refine lv_iadd hx hb dX14_readValue_57 ?_
            refine lv_topi (fun z_52 ez_52 => ?_)
            have hz_52 : z_52.toInt = a1.toInt + 1 := by rw [ez_52]; exact jb_iadd2 (rfl) ((by decide)) (by omega)
            refine va_calli (A0 := jA base) (H0 := s.heap) (va_runV (As := [.int 0, .int z_52]) (rest := []) ⟨hx, hb, hml, hown, hts⟩ (ihM (ef - 1) (by omega) G0 H_3 r0 0 z_52 qt_1 pe pn pp pb xb xe xn mx) (cwV 2 hts (jgV (jWr_51 _ (List.mem_of_getElem? (i := 0) rfl)) (jWr_51 _ (List.mem_of_getElem? (i := 1) rfl)) (jWr_51 _ (List.mem_of_getElem? (i := 2) rfl)) (jWr_1 _ (List.mem_of_getElem? (i := 5) rfl)) (jWr_53 _ (List.mem_of_getElem? (i := 8) rfl))) rfl rfl rfl (by decide +kernel) ⟨by rw [← hR]; show (2 * (ef - 1) + 9) + 1 ≤ 2 * ef + 8; omega, by rw [← hR]; show 8 + (10 + 11) + (130 * (ef - 1) + 560) ≤ 130 * ef + 500; omega⟩) ⟨fun a U g mk q => by obtain ⟨q0, q1, q2, qK, q10, q11, q12, q13, q14, q15, q16, q17⟩ := q; exact ⟨q0, q1, q2, jG.calling g mk a qK, q10, q11, q12, q13, q14, q15, q16, q17⟩, hh_3.recv (C := RX14) (T := TX14) (N := 74) hB16 rfl (by decide) hg_r0 hK, fun U hU hW => ⟨rfl, hU, hh_3.2.1, hG.step hW hU hh_3.1, hg_r0, hg_xb, hg_xe, hg_xn, (hh_3.2.2.1.sub (L1 := [(r0, 16, 29, .int qt_1), (r0, 16, 30, .int pe), (r0, 16, 26, .int pn), (r0, 16, 28, .int pp), (r0, 16, 31, .int pb), (r0, 16, 22, .ref xb), (r0, 16, 23, .ref xe), (r0, 16, 19, .ref xn)]) [0, 1, 2, 3, 4, 5, 6, 7] rfl), (hh_3.2.2.2.2.2.2.2.1.sub (L1 := [(xn, 119, 3100, ca 1, mx)]) [0] rfl), (hh_3.2.2.2.2.2.2.2.2.sub (L1 := [(jFt, jFT dC dI ca G0 xb xe)]) [0] rfl), by first | omega | (refine ⟨?_, ?_, ?_, ?_, ?_, ?_, ?_, ?_, ?_, ?_, ?_, ?_, ?_⟩ <;> (first | omega | rfl | assumption | decide | exact Or.inl rfl | exact Or.inr rfl | (simp only; omega)))⟩⟩ rfl rfl hl.1 rfl (lv_room (Nat.le_of_ble_eq_true rfl)) dX14_readValue_58 ⟨Nat.zero_le _, Nat.zero_le _⟩) hh_3.1 (fun q _ h => h) (fun q h => h) (fun r_54 u_53 t_53 H_53 locs_53 ht_53 hvm_53 hr_54 hb_53 hz_53 hk_53 hS_53 => ?_)
            obtain ⟨qt_53, qn_53, qp_53, qb_53, nx_53⟩ := u_53
            rw [ht_53] at hb_53
            obtain ⟨hb_53, hbT_53⟩ := hb_53
            obtain ⟨⟨hb_531, hb_532, hb_533, hb_534, hb_535⟩, hb_536⟩ := hb_53
            have hh_53 : jSt (dC, dI) B base G0 G0 EX14_readValueKN s.heap 0 0 [(r0, 16, 29, .int qt_53), (r0, 16, 26, .int qn_53), (r0, 16, 28, .int qp_53), (r0, 16, 31, .int qb_53), (r0, 16, 30, .int pe), (r0, 16, 22, .ref xb), (r0, 16, 23, .ref xe), (r0, 16, 19, .ref xn)] [(xn, 119, 3100, ca 1, nx_53)] [(jFt, jFT dC dI ca G0 xb xe)] H_53 locs_53 := (((hh_3.call hb_531 hb_532 hb_533 hb_534 hS_53 rfl (L1 := [(r0, 16, 30, .int pe), (r0, 16, 22, .ref xb), (r0, 16, 23, .ref xe), (r0, 16, 19, .ref xn)]) [1, 5, 6, 7] rfl rfl (M1 := []) [] rfl rfl (I1 := []) [] rfl rfl).more hb_535).moreM hb_536).addIs hbT_53
            clear hh_3 ht_53 hvm_53 hz_53 hk_53 hS_53 hb_531 hb_532 hb_533 hb_534 hb_535
            clear hb_536
            clear  hbT_53
            try simp only at hr_54
            obtain ⟨hr_54_0, hr_54_1, hr_54_2, hr_54_3, hr_54_4, hr_54_5, hr_54_6, hr_54_7, hr_54_8, hr_54_9, hr_54_10⟩ := hr_54
            rw [hQ]
            exact W.iret (v := r_54) hx hb hr (fun t ht hW => ⟨⟨r_54, (qt_53, qn_53, qp_53, qb_53, nx_53), rfl, by (try dsimp only); first | omega | (refine ⟨?_, ?_, ?_, ?_, ?_, ?_, ?_, ?_, ?_, ?_, ?_⟩ <;> (first | omega | rfl | assumption | decide | exact Or.inl rfl | exact Or.inr rfl | (simp only; omega))), ⟨⟨hh_53.rt (M1 := [(r0, 16, 29, .int qt_53), (r0, 16, 26, .int qn_53), (r0, 16, 28, .int qp_53), (r0, 16, 31, .int qb_53)]) [0, 1, 2, 3] rfl ht, by rw [ht]; exact hh_53.2.2.2.2.2.2.2.1.sub [0] rfl⟩, by rw [ht]; exact hh_53.2.2.2.2.2.2.2.2.sub (L1 := [(jFt, jFT dC dI ca G0 xb xe)]) [0] rfl⟩⟩, by rw [ht]; try exact hh_53.1.1, fun q h9 hq => by rw [ht]; try exact hh_53.1.2.1 q h9 hq⟩) hh_53.1.2.2 dX14_readValue_61
          · skip
            have c_51' : r_4.toInt = 123 := jb_ne_n (rfl) ((by decide)) c_51
            first | (have hr_4_2q := hr_4_2.resolve_left (by omega); clear hr_4_2) | (have hr_4_2q := hr_4_2.resolve_right (by omega); clear hr_4_2) | skip
            refine lv_iconst (v := 1) hx hb dX14_readValue_50 (by decide) ?_
            refine lv_goto (tgt := 55) hx hb dX14_readValue_51 (by decide) ?_
            refine lv_iload_n hx hb dX14_readValue_55 rfl (lv_at hl 2 rfl) ?_
            refine lv_iconst (v := 1) hx hb dX14_readValue_56 (by decide) ?_
            refine lv_iadd hx hb dX14_readValue_57 ?_
            refine lv_topi (fun z_55 ez_55 => ?_)
            have hz_55 : z_55.toInt = a1.toInt + 1 := by rw [ez_55]; exact jb_iadd2 (rfl) ((by decide)) (by omega)
            refine va_calli (A0 := jA base) (H0 := s.heap) (va_runV (As := [.int 1, .int z_55]) (rest := []) ⟨hx, hb, hml, hown, hts⟩ (ihM (ef - 1) (by omega) G0 H_3 r0 1 z_55 qt_1 pe pn pp pb xb xe xn mx) (cwV 2 hts (jgV (jWr_51 _ (List.mem_of_getElem? (i := 0) rfl)) (jWr_51 _ (List.mem_of_getElem? (i := 1) rfl)) (jWr_51 _ (List.mem_of_getElem? (i := 2) rfl)) (jWr_1 _ (List.mem_of_getElem? (i := 5) rfl)) (jWr_53 _ (List.mem_of_getElem? (i := 8) rfl))) rfl rfl rfl (by decide +kernel) ⟨by rw [← hR]; show (2 * (ef - 1) + 9) + 1 ≤ 2 * ef + 8; omega, by rw [← hR]; show 8 + (10 + 11) + (130 * (ef - 1) + 560) ≤ 130 * ef + 500; omega⟩) ⟨fun a U g mk q => by obtain ⟨q0, q1, q2, qK, q10, q11, q12, q13, q14, q15, q16, q17⟩ := q; exact ⟨q0, q1, q2, jG.calling g mk a qK, q10, q11, q12, q13, q14, q15, q16, q17⟩, hh_3.recv (C := RX14) (T := TX14) (N := 74) hB16 rfl (by decide) hg_r0 hK, fun U hU hW => ⟨rfl, hU, hh_3.2.1, hG.step hW hU hh_3.1, hg_r0, hg_xb, hg_xe, hg_xn, (hh_3.2.2.1.sub (L1 := [(r0, 16, 29, .int qt_1), (r0, 16, 30, .int pe), (r0, 16, 26, .int pn), (r0, 16, 28, .int pp), (r0, 16, 31, .int pb), (r0, 16, 22, .ref xb), (r0, 16, 23, .ref xe), (r0, 16, 19, .ref xn)]) [0, 1, 2, 3, 4, 5, 6, 7] rfl), (hh_3.2.2.2.2.2.2.2.1.sub (L1 := [(xn, 119, 3100, ca 1, mx)]) [0] rfl), (hh_3.2.2.2.2.2.2.2.2.sub (L1 := [(jFt, jFT dC dI ca G0 xb xe)]) [0] rfl), by first | omega | (refine ⟨?_, ?_, ?_, ?_, ?_, ?_, ?_, ?_, ?_, ?_, ?_, ?_, ?_⟩ <;> (first | omega | rfl | assumption | decide | exact Or.inl rfl | exact Or.inr rfl | (simp only; omega)))⟩⟩ rfl rfl hl.1 rfl (lv_room (Nat.le_of_ble_eq_true rfl)) dX14_readValue_58 ⟨Nat.zero_le _, Nat.zero_le _⟩) hh_3.1 (fun q _ h => h) (fun q h => h) (fun r_57 u_56 t_56 H_56 locs_56 ht_56 hvm_56 hr_57 hb_56 hz_56 hk_56 hS_56 => ?_)
            obtain ⟨qt_56, qn_56, qp_56, qb_56, nx_56⟩ := u_56
            rw [ht_56] at hb_56
            obtain ⟨hb_56, hbT_56⟩ := hb_56
            obtain ⟨⟨hb_561, hb_562, hb_563, hb_564, hb_565⟩, hb_566⟩ := hb_56
            have hh_56 : jSt (dC, dI) B base G0 G0 EX14_readValueKN s.heap 0 0 [(r0, 16, 29, .int qt_56), (r0, 16, 26, .int qn_56), (r0, 16, 28, .int qp_56), (r0, 16, 31, .int qb_56), (r0, 16, 30, .int pe), (r0, 16, 22, .ref xb), (r0, 16, 23, .ref xe), (r0, 16, 19, .ref xn)] [(xn, 119, 3100, ca 1, nx_56)] [(jFt, jFT dC dI ca G0 xb xe)] H_56 locs_56 := (((hh_3.call hb_561 hb_562 hb_563 hb_564 hS_56 rfl (L1 := [(r0, 16, 30, .int pe), (r0, 16, 22, .ref xb), (r0, 16, 23, .ref xe), (r0, 16, 19, .ref xn)]) [1, 5, 6, 7] rfl rfl (M1 := []) [] rfl rfl (I1 := []) [] rfl rfl).more hb_565).moreM hb_566).addIs hbT_56
            clear hh_3 ht_56 hvm_56 hz_56 hk_56 hS_56 hb_561 hb_562 hb_563 hb_564 hb_565
            clear hb_566
            clear  hbT_56
            try simp only at hr_57
            obtain ⟨hr_57_0, hr_57_1, hr_57_2, hr_57_3, hr_57_4, hr_57_5, hr_57_6, hr_57_7, hr_57_8, hr_57_9, hr_57_10⟩ := hr_57
            rw [hQ]
            exact W.iret (v := r_57) hx hb hr (fun t ht hW => ⟨⟨r_57, (qt_56, qn_56, qp_56, qb_56, nx_56), rfl, by (try dsimp only); first | omega | (refine ⟨?_, ?_, ?_, ?_, ?_, ?_, ?_, ?_, ?_, ?_, ?_⟩ <;> (first | omega | rfl | assumption | decide | exact Or.inl rfl | exact Or.inr rfl | (simp only; omega))), ⟨⟨hh_56.rt (M1 := [(r0, 16, 29, .int qt_56), (r0, 16, 26, .int qn_56), (r0, 16, 28, .int qp_56), (r0, 16, 31, .int qb_56)]) [0, 1, 2, 3] rfl ht, by rw [ht]; exact hh_56.2.2.2.2.2.2.2.1.sub [0] rfl⟩, by rw [ht]; exact hh_56.2.2.2.2.2.2.2.2.sub (L1 := [(jFt, jFT dC dI ca G0 xb xe)]) [0] rfl⟩⟩, by rw [ht]; try exact hh_56.1.1, fun q h9 hq => by rw [ht]; try exact hh_56.1.2.1 q h9 hq⟩) hh_56.1.2.2 dX14_readValue_61
        · skip
          have c_50' : pb.toInt ≠ 0 := jb_eq_n (rfl) ((by decide)) c_50
          refine lv_iconst (v := 0) hx hb dX14_readValue_39 (by decide) ?_
          refine lv_goto (tgt := 61) hx hb dX14_readValue_40 (by decide) ?_
          rw [hQ]
          exact W.iret (v := 0) hx hb hr (fun t ht hW => ⟨⟨0, (qt_1, pn, pp, pb, mx), rfl, by (try dsimp only); first | omega | (refine ⟨?_, ?_, ?_, ?_, ?_, ?_, ?_, ?_, ?_, ?_, ?_⟩ <;> (first | omega | rfl | assumption | decide | exact Or.inl rfl | exact Or.inr rfl | (simp only; omega))), ⟨⟨hh_3.rt (M1 := [(r0, 16, 29, .int qt_1), (r0, 16, 26, .int pn), (r0, 16, 28, .int pp), (r0, 16, 31, .int pb)]) [0, 2, 3, 4] rfl ht, by rw [ht]; exact hh_3.2.2.2.2.2.2.2.1.sub [0] rfl⟩, by rw [ht]; exact hh_3.2.2.2.2.2.2.2.2.sub (L1 := [(jFt, jFT dC dI ca G0 xb xe)]) [0] rfl⟩⟩, by rw [ht]; try exact hh_3.1.1, fun q h9 hq => by rw [ht]; try exact hh_3.1.2.1 q h9 hq⟩) hh_3.1.2.2 dX14_readValue_61
      · skip
        have c_49' : a1.toInt = 10 := jb_ne_n (rfl) ((by decide)) c_49
        refine lv_aload_n hx hb dX14_readValue_27 rfl (lv_at hl 1 rfl) ?_
        refine lv_iconst (v := 1) hx hb dX14_readValue_28 (by decide) ?_
        refine j7_put hx hb hown hK hh_3 hB hAp hB16 (C := RX14) (T := TX14) (N := 74) rfl (by decide) hg_r0 (i := 31) (by decide) hly_16_31 rfl hlk_288 rfl (ty := .boolean) (v := .int 1) (by decide +kernel) (jb_nz (Or.inr rfl)) (jb_fz (Or.inr rfl)) (⟨_, rfl, (Or.inr rfl)⟩) rfl (L1 := [(r0, 16, 29, .int qt_1), (r0, 16, 30, .int pe), (r0, 16, 26, .int pn), (r0, 16, 28, .int pp), (r0, 16, 22, .ref xb), (r0, 16, 23, .ref xe), (r0, 16, 19, .ref xn)]) [0, 1, 2, 3, 5, 6, 7] rfl rfl rfl dX14_readValue_29 (fun H_58 locs_58 hh_58 => ?_)
        clear hh_3
        refine lv_aload_n hx hb dX14_readValue_32 rfl (lv_at hl 1 rfl) ?_
        refine j7_read hx hb hown hK (C := RX14) (T := TX14) (N := 74) rfl hly_16_31 hlk_288 (hh_58.at 0 rfl) dX14_readValue_33 ?_
        refine lv_if_eq (tgt := 43) hx hb dX14_readValue_36 (by decide) (fun c_59 => ?_) (fun c_59 => ?_)
        · skip
          exact absurd c_59 (by decide)
        · skip
          refine lv_iconst (v := 0) hx hb dX14_readValue_39 (by decide) ?_
          refine lv_goto (tgt := 61) hx hb dX14_readValue_40 (by decide) ?_
          rw [hQ]
          exact W.iret (v := 0) hx hb hr (fun t ht hW => ⟨⟨0, (qt_1, pn, pp, 1, mx), rfl, by (try dsimp only); first | omega | (refine ⟨?_, ?_, ?_, ?_, ?_, ?_, ?_, ?_, ?_, ?_, ?_⟩ <;> (first | omega | rfl | assumption | decide | exact Or.inl rfl | exact Or.inr rfl | (simp only; omega))), ⟨⟨hh_58.rt (M1 := [(r0, 16, 29, .int qt_1), (r0, 16, 26, .int pn), (r0, 16, 28, .int pp), (r0, 16, 31, .int 1)]) [1, 3, 4, 0] rfl ht, by rw [ht]; exact hh_58.2.2.2.2.2.2.2.1.sub [0] rfl⟩, by rw [ht]; exact hh_58.2.2.2.2.2.2.2.2.sub (L1 := [(jFt, jFT dC dI ca G0 xb xe)]) [0] rfl⟩⟩, by rw [ht]; try exact hh_58.1.1, fun q h9 hq => by rw [ht]; try exact hh_58.1.2.1 q h9 hq⟩) hh_58.1.2.2 dX14_readValue_61
set_option maxHeartbeats 4000000 in
set_option maxRecDepth 20000 in
theorem uX14_readManyKN (l : Launch) (dC : Nat → ClassId) (dI : Nat → Nat → Nat) (ca : Nat → ClassId) (base : Nat) (B : jF) (hB : jBok B) (hAp : jAp (dC, dI)) (hB16 : ∀ n G a H, B 16 n G a H ↔ jOb (dC, dI) 16 74 (F16 n G) a H) (hB110 : ∀ n G a H, B 110 n G a H ↔ jAr (dC, dI) (ca 1) (fun j z => 0 ≤ z.toInt ∧ z.toInt ≤ 255) n a H) (hB117 : ∀ n G a H, B 117 n G a H ↔ jAr (dC, dI) (ca 1) (fun j z => True) n a H) (hB118 : ∀ n G a H, B 118 n G a H ↔ jAr (dC, dI) (ca 1) (fun j z => -1 ≤ z.toInt ∧ z.toInt ≤ 3099) n a H) (hB119 : ∀ n G a H, B 119 n G a H ↔ jAr (dC, dI) (ca 1) (fun j z => z.toInt = -1 ∨ z.toInt = 0 ∨ ((j : Nat) < z.toInt ∧ z.toInt ≤ 3099)) n a H) (hB120 : ∀ n G a H, B 120 n G a H ↔ jAr (dC, dI) (ca 1) (fun j z => 0 ≤ z.toInt ∧ z.toInt ≤ 3300) n a H) (hB121 : ∀ n G a H, B 121 n G a H ↔ jAr (dC, dI) (ca 1) (fun j z => 0 ≤ z.toInt ∧ z.toInt ≤ 3300) n a H) (hB122 : ∀ n G a H, B 122 n G a H ↔ jAr (dC, dI) (ca 1) (fun j z => 0 ≤ z.toInt ∧ z.toInt ≤ 3100) n a H) (hB123 : ∀ n G a H, B 123 n G a H ↔ jAr (dC, dI) (ca 1) (fun j z => 0 ≤ z.toInt ∧ z.toInt ≤ 3100) n a H) (hB124 : ∀ n G a H, B 124 n G a H ↔ jAr (dC, dI) (ca 3) (fun j z => (z = 0 ∨ z = 1)) n a H) (hB125 : ∀ n G a H, B 125 n G a H ↔ jAr (dC, dI) (ca 1) (fun j z => True) n a H) (hB127 : ∀ n G a H, B 127 n G a H ↔ jAr (dC, dI) (ca 1) (fun j z => True) n a H) (ef : Nat) (hV : qX14_readValueKN l dC dI ca base B ef) (G0 : jT) (H0 : Heap) (r0 : Nat) (a1 : Int32) (a2 : Int32) (pt : Int32) (pe : Int32) (pn : Int32) (pp : Int32) (pb : Int32) (xb : Nat) (xe : Nat) (xn : Nat) (mx : Nat → Int32) : Met l yX14_readMany (jw yX14_readMany cX14_readMany 10 (some .int)) ({ frames := 2 * ef + 9, cells := 0, slots := 0, locals := 130 * ef + 560 }) (va_Pc [.ref r0, .int a1, .int a2] (fun U => U.heap = H0 ∧ jX B base G0 [] H0 ∧ jG dC dI ca base U ∧ G0 r0 = some (16, 0) ∧ G0 xb = some (122, 3100) ∧ G0 xe = some (123, 3100) ∧ G0 xn = some (119, 3100) ∧ jP (dC, dI) G0 H0 [(r0, 16, 29, .int pt), (r0, 16, 30, .int pe), (r0, 16, 26, .int pn), (r0, 16, 28, .int pp), (r0, 16, 31, .int pb), (r0, 16, 22, .ref xb), (r0, 16, 23, .ref xe), (r0, 16, 19, .ref xn)] ∧ jMc (dC, dI) G0 H0 [(xn, 119, 3100, ca 1, mx)] ∧ jIs (dC, dI) G0 H0 [(jFt, jFT dC dI ca G0 xb xe)] ∧ 0 ≤ pt.toInt ∧ pt.toInt ≤ 90000 ∧ 0 ≤ pe.toInt ∧ pe.toInt ≤ 3000 ∧ pt.toInt < pe.toInt ∧ 0 ≤ pn.toInt ∧ pn.toInt ≤ pt.toInt ∧ 0 ≤ pp.toInt ∧ pp.toInt ≤ pt.toInt ∧ pb.toInt = 0 ∧ a2.toInt = 10 - ef ∧ ef ≤ 10 ∧ (pn.toInt = 0 ∨ jSo mx 0 = -1))) (va_Qi (S := Int32 × Int32 × Int32 × Int32 × (Nat → Int32)) (fun r u => (0 ≤ u.2.2.2.1.toInt ∧ u.2.2.2.1.toInt ≤ 1 ∧ pt.toInt ≤ u.1.toInt ∧ pp.toInt ≤ u.2.2.1.toInt ∧ pn.toInt ≤ u.2.1.toInt ∧ u.1.toInt ≤ pe.toInt + 4 * u.2.2.2.1.toInt ∧ u.2.1.toInt ≤ u.1.toInt + u.2.2.2.1.toInt ∧ u.2.2.1.toInt ≤ u.1.toInt ∧ pn.toInt ≤ r.toInt + 4000 * u.2.2.2.1.toInt ∧ r.toInt + 1 ≤ u.2.1.toInt + 4000 * u.2.2.2.1.toInt ∧ (u.2.1.toInt = 0 ∨ jSo u.2.2.2.2 0 = -1))) (fun u t => (jRt (dC, dI) B base G0 EX14_readManyKN H0 [(r0, 16, 29, .int u.1), (r0, 16, 26, .int u.2.1), (r0, 16, 28, .int u.2.2.1), (r0, 16, 31, .int u.2.2.2.1)] t.heap ∧ jMc (dC, dI) G0 t.heap [(xn, 119, 3100, ca 1, u.2.2.2.2)]) ∧ jIs (dC, dI) G0 t.heap [(jFt, jFT dC dI ca G0 xb xe)]) (jA base)) 0 0 (jA base) := by
  refine Met.ofW (cc := cX14_readMany) (maxL := 10) (ret := (some .int)) (by decide) rfl ?_
  intro p e s m args below meth c s₁ Bd hml hv
  obtain ⟨rfl, hH0, hX, hG, hg_r0, hg_xb, hg_xe, hg_xn, hP0, hM0, hI0, hp0, hp1, hp2, hp3, hp4, hp5, hp6, hp7, hp8, hp9, hp10, hp11, hp12⟩ := hv
  have hK := hG.1
  have hx := Bd.exec
  have hb := Bd.bytes
  have hr := Bd.returns
  have hts := atoms_spec (ws := (jw yX14_readMany cX14_readMany 10 (some .int))) Bd.pre
  have htw : ∀ w ∈ jWl, w.before _ s = true := fun w h => hts w (List.mem_cons_of_mem _ h)
  have hown : s.vm.findClass RX14 = some m.cls := findClass_of_methodNamed Bd.named
  have hlocks := Bd.notSynchronized
  obtain ⟨Q, hQ⟩ : ∃ Q, Q = MQ below (va_Qi (S := Int32 × Int32 × Int32 × Int32 × (Nat → Int32)) (fun r u => (0 ≤ u.2.2.2.1.toInt ∧ u.2.2.2.1.toInt ≤ 1 ∧ pt.toInt ≤ u.1.toInt ∧ pp.toInt ≤ u.2.2.1.toInt ∧ pn.toInt ≤ u.2.1.toInt ∧ u.1.toInt ≤ pe.toInt + 4 * u.2.2.2.1.toInt ∧ u.2.1.toInt ≤ u.1.toInt + u.2.2.2.1.toInt ∧ u.2.2.1.toInt ≤ u.1.toInt ∧ pn.toInt ≤ r.toInt + 4000 * u.2.2.2.1.toInt ∧ r.toInt + 1 ≤ u.2.1.toInt + 4000 * u.2.2.2.1.toInt ∧ (u.2.1.toInt = 0 ∨ jSo u.2.2.2.2 0 = -1))) (fun u t => (jRt (dC, dI) B base G0 EX14_readManyKN H0 [(r0, 16, 29, .int u.1), (r0, 16, 26, .int u.2.1), (r0, 16, 28, .int u.2.2.1), (r0, 16, 31, .int u.2.2.2.1)] t.heap ∧ jMc (dC, dI) G0 t.heap [(xn, 119, 3100, ca 1, u.2.2.2.2)]) ∧ jIs (dC, dI) G0 t.heap [(jFt, jFT dC dI ca G0 xb xe)]) (jA base)) ([.ref r0, .int a1, .int a2] : List Value).toArray s 0 0 (jA base) := ⟨_, rfl⟩
  rw [← hQ]
  have hl := lv_entry ([.ref r0, .int a1, .int a2]) (n := 10) (Nat.le_of_ble_eq_true rfl)
  rw [lg_entry_eq]
  generalize (lg_sl ([.ref r0, .int a1, .int a2]) ++ List.replicate (10 - (lg_sl ([.ref r0, .int a1, .int a2])).length) Slot.unset).toArray = ls at hl ⊢
  have hl : lv_has ls 10 [(0, .ref r0), (1, .int a1), (2, .int a2)] := hl
  generalize hR : (headSpec (jw yX14_readMany cX14_readMany 10 (some .int)) ({ frames := 2 * ef + 9, cells := 0, slots := 0, locals := 130 * ef + 560 })).room = R
  subst hH0
  have hh : jSt (dC, dI) B base G0 G0 EX14_readManyKN s.heap 0 0 [(r0, 16, 29, .int pt), (r0, 16, 30, .int pe), (r0, 16, 26, .int pn), (r0, 16, 28, .int pp), (r0, 16, 31, .int pb), (r0, 16, 22, .ref xb), (r0, 16, 23, .ref xe), (r0, 16, 19, .ref xn)] [(xn, 119, 3100, ca 1, mx)] [(jFt, jFT dC dI ca G0 xb xe)] s.heap [] := jSt.start hX hP0 hM0 hI0
  clear hX hP0
  have hkm1 : ((-1) : Int32).toInt = (-1) := by decide
  have hk0 : (0 : Int32).toInt = 0 := by decide
  have hk1 : (1 : Int32).toInt = 1 := by decide
  have hk5 : (5 : Int32).toInt = 5 := by decide
  have hk6 : (6 : Int32).toInt = 6 := by decide
  have hk34 : (34 : Int32).toInt = 34 := by decide
  have hk44 : (44 : Int32).toInt = 44 := by decide
  have hk58 : (58 : Int32).toInt = 58 := by decide
  have hk93 : (93 : Int32).toInt = 93 := by decide
  have hk125 : (125 : Int32).toInt = 125 := by decide
  have hly_16_18 := htw (u_lay RX14 TX14 18) (jWc_wsX140 _ (u_in_lay (by decide)))
  have hly_16_19 := htw (u_lay RX14 TX14 19) (jWc_wsX140 _ (u_in_lay (by decide)))
  have hly_16_20 := htw (u_lay RX14 TX14 20) (jWc_wsX140 _ (u_in_lay (by decide)))
  have hly_16_21 := htw (u_lay RX14 TX14 21) (jWc_wsX140 _ (u_in_lay (by decide)))
  have hly_16_28 := htw (u_lay RX14 TX14 28) (jWc_wsX140 _ (u_in_lay (by decide)))
  have hly_16_29 := htw (u_lay RX14 TX14 29) (jWc_wsX140 _ (u_in_lay (by decide)))
  have hly_16_31 := htw (u_lay RX14 TX14 31) (jWc_wsX140 _ (u_in_lay (by decide)))
  have hly_16_32 := htw (u_lay RX14 TX14 32) (jWc_wsX140 _ (u_in_lay (by decide)))
  have hlk_273 := (htw (.fieldLink RX14 273 "ProofServerModel" "at" "I") (jWr_50 _ (List.mem_of_getElem? (i := 5) rfl)))
  have hlk_288 := (htw (.fieldLink RX14 288 "ProofServerModel" "bad" "Z") (jWr_50 _ (List.mem_of_getElem? (i := 9) rfl)))
  have hlk_301 := (htw (.fieldLink RX14 301 "ProofServerModel" "stringFrom" "I") (jWr_50 _ (List.mem_of_getElem? (i := 15) rfl)))
  have hlk_304 := (htw (.fieldLink RX14 304 "ProofServerModel" "pooled" "I") (jWr_50 _ (List.mem_of_getElem? (i := 8) rfl)))
  have hlk_46 := (htw (.fieldLink RX14 46 "ProofServerModel" "nameFrom" "[I") (jWr_11 _ (List.mem_of_getElem? (i := 7) rfl)))
  have hlk_49 := (htw (.fieldLink RX14 49 "ProofServerModel" "nameTo" "[I") (jWr_11 _ (List.mem_of_getElem? (i := 8) rfl)))
  have hlk_40 := (htw (.fieldLink RX14 40 "ProofServerModel" "heir" "[I") (jWr_11 _ (List.mem_of_getElem? (i := 5) rfl)))
  have hlk_43 := (htw (.fieldLink RX14 43 "ProofServerModel" "next" "[I") (jWr_11 _ (List.mem_of_getElem? (i := 6) rfl)))
  have hrg_a1 := jb_rng a1
  have hrg_a2 := jb_rng a2
  refine lv_aload_n hx hb dX14_readMany_0 rfl (lv_at hl 0 rfl) ?_
  refine lv_iload_n hx hb dX14_readMany_1 rfl (lv_at hl 1 rfl) ?_
  have C11 : ∀ (w0_1 : Int32) (H_1 : Heap) (locs_1 : List Loc), jSt (dC, dI) B base G0 G0 EX14_readManyKN s.heap 0 0 [(r0, 16, 29, .int pt), (r0, 16, 30, .int pe), (r0, 16, 26, .int pn), (r0, 16, 28, .int pp), (r0, 16, 31, .int pb), (r0, 16, 22, .ref xb), (r0, 16, 23, .ref xe), (r0, 16, 19, .ref xn)] [(xn, 119, 3100, ca 1, mx)] [(jFt, jFT dC dI ca G0 xb xe)] H_1 locs_1 → (True) → ∀ ls : Array Slot, lv_has ls 10 [(0, .ref r0), (1, .int a1), (2, .int a2)] → W p l e R s m ([.ref r0, .int a1, .int a2] : List Value).toArray below meth c H_1 locs_1 0 0 Q (F0 m 11 ls [.int w0_1, .ref r0]) := by
    intro w0_1 H_1 locs_1 hh_1  hi_1 ls hl
    refine va_calli (A0 := jA base) (H0 := s.heap) (va_runV (As := [.int w0_1]) (rest := []) ⟨hx, hb, hml, hown, hts⟩ (uX14_nodeN l dC dI ca base B hB hAp hB16 hB117 hB118 hB119 hB124 G0 H_1 r0 w0_1 pn xn mx) (cwV 1 hts (jgV (jWr_51 _ (List.mem_of_getElem? (i := 3) rfl)) (jWr_51 _ (List.mem_of_getElem? (i := 4) rfl)) (jWr_51 _ (List.mem_of_getElem? (i := 5) rfl)) (jWr_1 _ (List.mem_of_getElem? (i := 5) rfl)) (jWr_51 _ (List.mem_of_getElem? (i := 6) rfl))) rfl rfl rfl (by decide +kernel) ⟨by rw [← hR]; show (0) + 1 ≤ 2 * ef + 9; omega, by rw [← hR]; show 8 + (2 + 11) + (0) ≤ 130 * ef + 560; omega⟩) ⟨fun a U g mk q => by obtain ⟨q0, q1, q2, qK, q10, q11, q12, q13, q14⟩ := q; exact ⟨q0, q1, q2, jG.calling g mk a qK, q10, q11, q12, q13, q14⟩, hh_1.recv (C := RX14) (T := TX14) (N := 74) hB16 rfl (by decide) hg_r0 hK, fun U hU hW => ⟨rfl, hU, hh_1.2.1, hG.step hW hU hh_1.1, hg_r0, hg_xn, (hh_1.2.2.1.sub (L1 := [(r0, 16, 26, .int pn), (r0, 16, 19, .ref xn)]) [2, 7] rfl), (hh_1.2.2.2.2.2.2.2.1.sub (L1 := [(xn, 119, 3100, ca 1, mx)]) [0] rfl), by first | omega | (refine ⟨?_, ?_, ?_⟩ <;> (first | omega | rfl | assumption | decide | exact Or.inl rfl | exact Or.inr rfl | (simp only; omega)))⟩⟩ rfl rfl hl.1 rfl (lv_room (Nat.le_of_ble_eq_true rfl)) dX14_readMany_11 ⟨Nat.zero_le _, Nat.zero_le _⟩) hh_1.1 (fun q _ h => h) (fun q h => h) (fun r_3 u_2 t_2 H_2 locs_2 ht_2 hvm_2 hr_3 hb_2 hz_2 hk_2 hS_2 => ?_)
    obtain ⟨qn_2, nx_2⟩ := u_2
    rw [ht_2] at hb_2
    obtain ⟨⟨hb_21, hb_22, hb_23, hb_24, hb_25⟩, hb_26⟩ := hb_2
    have hh_2 : jSt (dC, dI) B base G0 G0 EX14_readManyKN s.heap 0 0 [(r0, 16, 26, .int qn_2), (r0, 16, 29, .int pt), (r0, 16, 30, .int pe), (r0, 16, 28, .int pp), (r0, 16, 31, .int pb), (r0, 16, 22, .ref xb), (r0, 16, 23, .ref xe), (r0, 16, 19, .ref xn)] [(xn, 119, 3100, ca 1, nx_2)] [(jFt, jFT dC dI ca G0 xb xe)] H_2 locs_2 := ((hh_1.call hb_21 hb_22 hb_23 hb_24 hS_2 rfl (L1 := [(r0, 16, 29, .int pt), (r0, 16, 30, .int pe), (r0, 16, 28, .int pp), (r0, 16, 31, .int pb), (r0, 16, 22, .ref xb), (r0, 16, 23, .ref xe), (r0, 16, 19, .ref xn)]) [0, 1, 3, 4, 5, 6, 7] rfl rfl (M1 := []) [] rfl rfl (I1 := [(jFt, jFT dC dI ca G0 xb xe)]) [0] rfl rfl).more hb_25).moreM hb_26
    clear hh_1 ht_2 hvm_2 hz_2 hk_2 hS_2 hb_21 hb_22 hb_23 hb_24 hb_25
    clear hb_26
    try simp only at hr_3
    obtain ⟨hr_3_0, hr_3_1, hr_3_2⟩ := hr_3
    refine lv_istore_n (lv' := [(3, .int r_3), (0, .ref r0), (1, .int a1), (2, .int a2)]) hx hb dX14_readMany_14 rfl hl (by decide) rfl (fun ls hl => ?_)
    refine lv_aload_n hx hb dX14_readMany_15 rfl (lv_at hl 1 rfl) ?_
    refine lv_dup hx hb dX14_readMany_16 rfl ?_
    refine j7_read hx hb hown hK (C := RX14) (T := TX14) (N := 74) rfl hly_16_29 hlk_273 (hh_2.at 1 rfl) dX14_readMany_17 ?_
    refine lv_iconst (v := 1) hx hb dX14_readMany_20 (by decide) ?_
    refine lv_iadd hx hb dX14_readMany_21 ?_
    refine lv_topi (fun z_4 ez_4 => ?_)
    have hz_4 : z_4.toInt = pt.toInt + 1 := by rw [ez_4]; exact jb_iadd2 (rfl) ((by decide)) (by omega)
    refine j7_put hx hb hown hK hh_2 hB hAp hB16 (C := RX14) (T := TX14) (N := 74) rfl (by decide) hg_r0 (i := 29) (by decide) hly_16_29 rfl hlk_273 rfl (ty := .int) (v := .int z_4) (by decide +kernel) rfl rfl (⟨_, rfl, by omega, by omega⟩) rfl (L1 := [(r0, 16, 26, .int qn_2), (r0, 16, 30, .int pe), (r0, 16, 28, .int pp), (r0, 16, 31, .int pb), (r0, 16, 22, .ref xb), (r0, 16, 23, .ref xe), (r0, 16, 19, .ref xn)]) [0, 2, 3, 4, 5, 6, 7] rfl rfl rfl dX14_readMany_22 (fun H_5 locs_5 hh_5 => ?_)
    clear hh_2
    refine lv_iload_n hx hb dX14_readMany_25 rfl (lv_at hl 2 rfl) ?_
    have C36 : ∀ (w0_6 : Int32) (H_6 : Heap) (locs_6 : List Loc), jSt (dC, dI) B base G0 G0 EX14_readManyKN s.heap 0 0 [(r0, 16, 29, .int z_4), (r0, 16, 26, .int qn_2), (r0, 16, 30, .int pe), (r0, 16, 28, .int pp), (r0, 16, 31, .int pb), (r0, 16, 22, .ref xb), (r0, 16, 23, .ref xe), (r0, 16, 19, .ref xn)] [(xn, 119, 3100, ca 1, nx_2)] [(jFt, jFT dC dI ca G0 xb xe)] H_6 locs_6 → (93 ≤ w0_6.toInt ∧ w0_6.toInt ≤ 125) → ∀ ls : Array Slot, lv_has ls 10 [(0, .ref r0), (1, .int a1), (2, .int a2), (3, .int r_3)] → W p l e R s m ([.ref r0, .int a1, .int a2] : List Value).toArray below meth c H_6 locs_6 0 0 Q (F0 m 36 ls [.int w0_6]) := by
      intro w0_6 H_6 locs_6 hh_6  hi_6 ls hl
      obtain ⟨hi_6_0, hi_6_1⟩ := hi_6
      refine lv_istore (lv' := [(4, .int w0_6), (0, .ref r0), (1, .int a1), (2, .int a2), (3, .int r_3)]) hx hb dX14_readMany_36 hl (by decide) rfl (fun ls hl => ?_)
      refine lv_aload_n hx hb dX14_readMany_38 rfl (lv_at hl 1 rfl) ?_
      refine va_callv (A0 := jA base) (H0 := s.heap) (va_runV (As := []) (rest := []) ⟨hx, hb, hml, hown, hts⟩ (uX14_blanks l dC dI ca base B hB hAp hB16 hB110 G0 H_6 r0 z_4 pe (pe.toInt + 2 * (pb.toInt))) (cwV 0 hts (jgV (jWr_50 _ (List.mem_of_getElem? (i := 16) rfl)) (jWr_50 _ (List.mem_of_getElem? (i := 17) rfl)) (jWr_50 _ (List.mem_of_getElem? (i := 18) rfl)) (jWr_1 _ (List.mem_of_getElem? (i := 5) rfl)) (jWr_50 _ (List.mem_of_getElem? (i := 19) rfl))) rfl rfl rfl (by decide +kernel) ⟨by rw [← hR]; show (1) + 1 ≤ 2 * ef + 9; omega, by rw [← hR]; show 8 + (1 + 11) + (20) ≤ 130 * ef + 560; omega⟩) ⟨fun a U g mk q => by obtain ⟨q0, q1, q2, qK, q10, q11, q12⟩ := q; exact ⟨q0, q1, q2, jG.calling g mk a qK, q10, q11, q12⟩, hh_6.recv (C := RX14) (T := TX14) (N := 74) hB16 rfl (by decide) hg_r0 hK, fun U hU hW => ⟨rfl, hU, hh_6.2.1, hG.step hW hU hh_6.1, hg_r0, (hh_6.2.2.1.sub (L1 := [(r0, 16, 29, .int z_4), (r0, 16, 30, .int pe)]) [0, 2] rfl), by first | omega | (refine ⟨?_, ?_, ?_, ?_, ?_, ?_, ?_⟩ <;> (first | omega | rfl | assumption | decide | exact Or.inl rfl | exact Or.inr rfl | (simp only; omega)))⟩⟩ rfl rfl hl.1 rfl (lv_room (Nat.le_of_ble_eq_true rfl)) dX14_readMany_39 ⟨Nat.zero_le _, Nat.zero_le _⟩) hh_6.1 (fun q _ h => h) (fun q h => h) (fun u_7 t_7 H_7 locs_7 ht_7 hvm_7 hr_8 hb_7 hz_7 hk_7 hS_7 => ?_)
      obtain ⟨qt_7, rfl⟩ : ∃ z, z = u_7 := ⟨_, rfl⟩
      rw [ht_7] at hb_7
      obtain ⟨hb_71, hb_72, hb_73, hb_74, hb_75⟩ := hb_7
      have hh_7 : jSt (dC, dI) B base G0 G0 EX14_readManyKN s.heap 0 0 [(r0, 16, 29, .int qt_7), (r0, 16, 26, .int qn_2), (r0, 16, 30, .int pe), (r0, 16, 28, .int pp), (r0, 16, 31, .int pb), (r0, 16, 22, .ref xb), (r0, 16, 23, .ref xe), (r0, 16, 19, .ref xn)] [(xn, 119, 3100, ca 1, nx_2)] [(jFt, jFT dC dI ca G0 xb xe)] H_7 locs_7 := ((hh_6.call hb_71 hb_72 hb_73 hb_74 hS_7 rfl (L1 := [(r0, 16, 26, .int qn_2), (r0, 16, 30, .int pe), (r0, 16, 28, .int pp), (r0, 16, 31, .int pb), (r0, 16, 22, .ref xb), (r0, 16, 23, .ref xe), (r0, 16, 19, .ref xn)]) [1, 2, 3, 4, 5, 6, 7] rfl rfl (M1 := [(xn, 119, 3100, ca 1, nx_2)]) [0] rfl rfl (I1 := [(jFt, jFT dC dI ca G0 xb xe)]) [0] rfl rfl).more hb_75)
      clear hh_6 ht_7 hvm_7 hz_7 hk_7 hS_7 hb_71 hb_72 hb_73 hb_74 hb_75
      obtain ⟨hr_8_0, hr_8_1⟩ := hr_8
      refine lv_aload_n hx hb dX14_readMany_42 rfl (lv_at hl 1 rfl) ?_
      refine va_calli (A0 := jA base) (H0 := s.heap) (va_runV (As := []) (rest := []) ⟨hx, hb, hml, hown, hts⟩ (uX14_here l dC dI ca base B hB hAp hB16 hB110 G0 H_7 r0 qt_7 pe) (cwV 0 hts (jgV (jWr_50 _ (List.mem_of_getElem? (i := 20) rfl)) (jWr_50 _ (List.mem_of_getElem? (i := 21) rfl)) (jWr_50 _ (List.mem_of_getElem? (i := 22) rfl)) (jWr_1 _ (List.mem_of_getElem? (i := 5) rfl)) (jWr_50 _ (List.mem_of_getElem? (i := 23) rfl))) rfl rfl rfl (by decide +kernel) ⟨by rw [← hR]; show (0) + 1 ≤ 2 * ef + 9; omega, by rw [← hR]; show 8 + (1 + 11) + (0) ≤ 130 * ef + 560; omega⟩) ⟨fun a U g mk q => by obtain ⟨q0, q1, q2, qK, q10, q11, q12⟩ := q; exact ⟨q0, q1, q2, jG.calling g mk a qK, q10, q11, q12⟩, hh_7.recv (C := RX14) (T := TX14) (N := 74) hB16 rfl (by decide) hg_r0 hK, fun U hU hW => ⟨rfl, hU, hh_7.2.1, hG.step hW hU hh_7.1, hg_r0, (hh_7.2.2.1.sub (L1 := [(r0, 16, 29, .int qt_7), (r0, 16, 30, .int pe)]) [0, 2] rfl), by first | omega | (refine ⟨?_, ?_, ?_, ?_⟩ <;> (first | omega | rfl | assumption | decide | exact Or.inl rfl | exact Or.inr rfl | (simp only; omega)))⟩⟩ rfl rfl hl.1 rfl (lv_room (Nat.le_of_ble_eq_true rfl)) dX14_readMany_43 ⟨Nat.zero_le _, Nat.zero_le _⟩) hh_7.1 (fun q _ h => h) (fun q h => h) (fun r_10 u_9 t_9 H_9 locs_9 ht_9 hvm_9 hr_10 hb_9 hz_9 hk_9 hS_9 => ?_)
      rw [ht_9] at hb_9
      obtain ⟨hb_91, hb_92, hb_93, hb_94, hb_95⟩ := hb_9
      have hh_9 : jSt (dC, dI) B base G0 G0 EX14_readManyKN s.heap 0 0 [(r0, 16, 29, .int qt_7), (r0, 16, 26, .int qn_2), (r0, 16, 30, .int pe), (r0, 16, 28, .int pp), (r0, 16, 31, .int pb), (r0, 16, 22, .ref xb), (r0, 16, 23, .ref xe), (r0, 16, 19, .ref xn)] [(xn, 119, 3100, ca 1, nx_2)] [(jFt, jFT dC dI ca G0 xb xe)] H_9 locs_9 := ((hh_7.call hb_91 hb_92 hb_93 hb_94 hS_9 rfl (L1 := [(r0, 16, 29, .int qt_7), (r0, 16, 26, .int qn_2), (r0, 16, 30, .int pe), (r0, 16, 28, .int pp), (r0, 16, 31, .int pb), (r0, 16, 22, .ref xb), (r0, 16, 23, .ref xe), (r0, 16, 19, .ref xn)]) [0, 1, 2, 3, 4, 5, 6, 7] rfl rfl (M1 := [(xn, 119, 3100, ca 1, nx_2)]) [0] rfl rfl (I1 := [(jFt, jFT dC dI ca G0 xb xe)]) [0] rfl rfl).more hb_95)
      clear hh_7 ht_9 hvm_9 hz_9 hk_9 hS_9 hb_91 hb_92 hb_93 hb_94 hb_95
      obtain ⟨hr_10_0, hr_10_1, hr_10_2⟩ := hr_10
      refine lv_iload hx hb dX14_readMany_46 (lv_at hl 0 rfl) ?_
      refine lv_icmp_ne (tgt := 63) hx hb dX14_readMany_48 (by decide) (fun c_11 => ?_) (fun c_11 => ?_)
      · skip
        have c_11' : r_10.toInt ≠ w0_6.toInt := jb_ne (rfl) (rfl) c_11
        try clear hr_10_2
        refine lv_iconst (v := (-1)) hx hb dX14_readMany_63 (by decide) ?_
        refine lv_istore (lv' := [(5, .int (-1)), (4, .int w0_6), (0, .ref r0), (1, .int a1), (2, .int a2), (3, .int r_3)]) hx hb dX14_readMany_64 hl (by decide) rfl (fun ls hl => ?_)
        refine lv_iconst (v := 1) hx hb dX14_readMany_66 (by decide) ?_
        refine lv_istore (lv' := [(6, .int 1), (5, .int (-1)), (4, .int w0_6), (0, .ref r0), (1, .int a1), (2, .int a2), (3, .int r_3)]) hx hb dX14_readMany_67 hl (by decide) rfl (fun ls hl => ?_)
        have L69 : ∀ (N : Nat) (v5_12 : Int32) (v6_12 : Int32) (wt_12 : Int32) (wn_12 : Int32) (wp_12 : Int32) (wb_12 : Int32) (mx_12 : Nat → Int32) (H_12 : Heap) (locs_12 : List Loc), jSt (dC, dI) B base G0 G0 EX14_readManyKN s.heap 0 0 [(r0, 16, 29, .int wt_12), (r0, 16, 26, .int wn_12), (r0, 16, 28, .int wp_12), (r0, 16, 31, .int wb_12), (r0, 16, 30, .int pe), (r0, 16, 22, .ref xb), (r0, 16, 23, .ref xe), (r0, 16, 19, .ref xn)] [(xn, 119, 3100, ca 1, mx_12)] [(jFt, jFT dC dI ca G0 xb xe)] H_12 locs_12 → (v6_12 = 0 ∨ v6_12 = 1) → (0 ≤ v5_12.toInt + 1 ∧ v5_12.toInt < wn_12.toInt ∧ r_3.toInt < wn_12.toInt ∧ pt.toInt + 1 ≤ wt_12.toInt ∧ pp.toInt ≤ wp_12.toInt ∧ wp_12.toInt ≤ wt_12.toInt ∧ pn.toInt < wn_12.toInt ∧ wn_12.toInt ≤ wt_12.toInt ∧ 0 ≤ wb_12.toInt ∧ wb_12.toInt ≤ 1 ∧ wt_12.toInt ≤ pe.toInt + wb_12.toInt ∧ (v5_12.toInt = -1 ∨ r_3.toInt < v5_12.toInt) ∧ jSo mx_12 0 = -1) → (((pe.toInt - wt_12.toInt).toNat : Int) + (1 - wb_12.toInt) + (1 - wb_12.toInt) : Int) < N → ∀ ls : Array Slot, lv_has ls 10 [(0, .ref r0), (1, .int a1), (2, .int a2), (3, .int r_3), (4, .int w0_6), (5, .int v5_12), (6, .int v6_12)] → W p l e R s m ([.ref r0, .int a1, .int a2] : List Value).toArray below meth c H_12 locs_12 0 0 Q (F0 m 69 ls []) := by
          intro N
          induction N with
          | zero => intro v5_12 v6_12 wt_12 wn_12 wp_12 wb_12 mx_12 H_12 locs_12 hh_12 hb_v6_12 hi_12 hm; exact absurd hm (by omega)
          | succ N L69 =>
            intro v5_12 v6_12 wt_12 wn_12 wp_12 wb_12 mx_12 H_12 locs_12 hh_12 hb_v6_12 hi_12 hm_12 ls hl
            obtain ⟨hi_12_0, hi_12_1, hi_12_2, hi_12_3, hi_12_4, hi_12_5, hi_12_6, hi_12_7, hi_12_8, hi_12_9, hi_12_10, hi_12_11, hi_12_12⟩ := hi_12
            have hb_v6_12' := jb_01 hb_v6_12
            refine lv_iload hx hb dX14_readMany_69 (lv_at hl 6 rfl) ?_
            refine lv_if_eq (tgt := 286) hx hb dX14_readMany_71 (by decide) (fun c_13 => ?_) (fun c_13 => ?_)
            · skip
              have c_13' : v6_12.toInt = 0 := jb_eq (rfl) ((by decide)) c_13
              refine lv_iload_n hx hb dX14_readMany_286 rfl (lv_at hl 3 rfl) ?_
              rw [hQ]
              exact W.iret (v := r_3) hx hb hr (fun t ht hW => ⟨⟨r_3, (wt_12, wn_12, wp_12, wb_12, mx_12), rfl, by (try dsimp only); first | omega | (refine ⟨?_, ?_, ?_, ?_, ?_, ?_, ?_, ?_, ?_, ?_, ?_⟩ <;> (first | omega | rfl | assumption | decide | exact Or.inl rfl | exact Or.inr rfl | (simp only; omega))), ⟨⟨hh_12.rt (M1 := [(r0, 16, 29, .int wt_12), (r0, 16, 26, .int wn_12), (r0, 16, 28, .int wp_12), (r0, 16, 31, .int wb_12)]) [0, 1, 2, 3] rfl ht, by rw [ht]; exact hh_12.2.2.2.2.2.2.2.1.sub [0] rfl⟩, by rw [ht]; exact hh_12.2.2.2.2.2.2.2.2.sub (L1 := [(jFt, jFT dC dI ca G0 xb xe)]) [0] rfl⟩⟩, by rw [ht]; try exact hh_12.1.1, fun q h9 hq => by rw [ht]; try exact hh_12.1.2.1 q h9 hq⟩) hh_12.1.2.2 dX14_readMany_287
            · skip
              have c_13' : v6_12.toInt ≠ 0 := jb_eq_n (rfl) ((by decide)) c_13
              refine lv_aload_n hx hb dX14_readMany_74 rfl (lv_at hl 0 rfl) ?_
              refine j7_read hx hb hown hK (C := RX14) (T := TX14) (N := 74) rfl hly_16_31 hlk_288 (hh_12.at 3 rfl) dX14_readMany_75 ?_
              refine lv_if_ne (tgt := 286) hx hb dX14_readMany_78 (by decide) (fun c_14 => ?_) (fun c_14 => ?_)
              · skip
                have c_14' : wb_12.toInt ≠ 0 := jb_ne (rfl) ((by decide)) c_14
                refine lv_iload_n hx hb dX14_readMany_286 rfl (lv_at hl 3 rfl) ?_
                rw [hQ]
                exact W.iret (v := r_3) hx hb hr (fun t ht hW => ⟨⟨r_3, (wt_12, wn_12, wp_12, wb_12, mx_12), rfl, by (try dsimp only); first | omega | (refine ⟨?_, ?_, ?_, ?_, ?_, ?_, ?_, ?_, ?_, ?_, ?_⟩ <;> (first | omega | rfl | assumption | decide | exact Or.inl rfl | exact Or.inr rfl | (simp only; omega))), ⟨⟨hh_12.rt (M1 := [(r0, 16, 29, .int wt_12), (r0, 16, 26, .int wn_12), (r0, 16, 28, .int wp_12), (r0, 16, 31, .int wb_12)]) [0, 1, 2, 3] rfl ht, by rw [ht]; exact hh_12.2.2.2.2.2.2.2.1.sub [0] rfl⟩, by rw [ht]; exact hh_12.2.2.2.2.2.2.2.2.sub (L1 := [(jFt, jFT dC dI ca G0 xb xe)]) [0] rfl⟩⟩, by rw [ht]; try exact hh_12.1.1, fun q h9 hq => by rw [ht]; try exact hh_12.1.2.1 q h9 hq⟩) hh_12.1.2.2 dX14_readMany_287
              · skip
                have c_14' : wb_12.toInt = 0 := jb_ne_n (rfl) ((by decide)) c_14
                refine lv_iconst (v := 0) hx hb dX14_readMany_81 (by decide) ?_
                refine lv_istore (lv' := [(7, .int 0), (0, .ref r0), (1, .int a1), (2, .int a2), (3, .int r_3), (4, .int w0_6), (5, .int v5_12), (6, .int v6_12)]) hx hb dX14_readMany_82 hl (by decide) rfl (fun ls hl => ?_)
                refine lv_iconst (v := 0) hx hb dX14_readMany_84 (by decide) ?_
                refine lv_istore (lv' := [(8, .int 0), (7, .int 0), (0, .ref r0), (1, .int a1), (2, .int a2), (3, .int r_3), (4, .int w0_6), (5, .int v5_12), (6, .int v6_12)]) hx hb dX14_readMany_85 hl (by decide) rfl (fun ls hl => ?_)
                refine lv_iload_n hx hb dX14_readMany_87 rfl (lv_at hl 3 rfl) ?_
                have C160 : ∀ (v7_15 : Int32) (v8_15 : Int32) (v7_15 : Int32) (v8_15 : Int32) (wt_15 : Int32) (wp_15 : Int32) (wb_15 : Int32) (H_15 : Heap) (locs_15 : List Loc), jSt (dC, dI) B base G0 G0 EX14_readManyKN s.heap 0 0 [(r0, 16, 29, .int wt_15), (r0, 16, 28, .int wp_15), (r0, 16, 31, .int wb_15), (r0, 16, 26, .int wn_12), (r0, 16, 30, .int pe), (r0, 16, 22, .ref xb), (r0, 16, 23, .ref xe), (r0, 16, 19, .ref xn)] [(xn, 119, 3100, ca 1, mx_12)] [(jFt, jFT dC dI ca G0 xb xe)] H_15 locs_15 → (0 ≤ v7_15.toInt ∧ v7_15.toInt ≤ 3300 ∧ 0 ≤ v8_15.toInt ∧ v8_15.toInt ≤ 3300 ∧ wt_12.toInt ≤ wt_15.toInt ∧ wp_12.toInt ≤ wp_15.toInt ∧ wp_15.toInt ≤ wt_15.toInt ∧ 0 ≤ wb_15.toInt ∧ wb_15.toInt ≤ 1 ∧ wt_15.toInt ≤ pe.toInt + 4 * wb_15.toInt) → ∀ ls : Array Slot, lv_has ls 10 [(0, .ref r0), (1, .int a1), (2, .int a2), (3, .int r_3), (4, .int w0_6), (5, .int v5_12), (6, .int v6_12), (7, .int v7_15), (8, .int v8_15), (7, .int v7_15), (8, .int v8_15)] → W p l e R s m ([.ref r0, .int a1, .int a2] : List Value).toArray below meth c H_15 locs_15 0 0 Q (F0 m 160 ls []) := by
                  intro v7_15 v8_15 v7_15 v8_15 wt_15 wp_15 wb_15 H_15 locs_15 hh_15  hi_15 ls hl
                  obtain ⟨hi_15_0, hi_15_1, hi_15_2, hi_15_3, hi_15_4, hi_15_5, hi_15_6, hi_15_7, hi_15_8, hi_15_9⟩ := hi_15
                  refine lv_aload_n hx hb dX14_readMany_160 rfl (lv_at hl 0 rfl) ?_
                  refine j7_read hx hb hown hK (C := RX14) (T := TX14) (N := 74) rfl hly_16_31 hlk_288 (hh_15.at 2 rfl) dX14_readMany_161 ?_
                  refine lv_if_eq (tgt := 171) hx hb dX14_readMany_164 (by decide) (fun c_16 => ?_) (fun c_16 => ?_)
                  · skip
                    have c_16' : wb_15.toInt = 0 := jb_eq (rfl) ((by decide)) c_16
                    refine lv_aload_n hx hb dX14_readMany_171 rfl (lv_at hl 0 rfl) ?_
                    refine lv_iload_n hx hb dX14_readMany_172 rfl (lv_at hl 2 rfl) ?_
                    refine va_calli (A0 := jA base) (H0 := s.heap) (va_runV (As := [.int a2]) (rest := []) ⟨hx, hb, hml, hown, hts⟩ (hV G0 H_15 r0 a2 wt_15 pe wn_12 wp_15 wb_15 xb xe xn mx_12) (cwV 1 hts (jgV (jWr_50 _ (List.mem_of_getElem? (i := 11) rfl)) (jWr_50 _ (List.mem_of_getElem? (i := 12) rfl)) (jWr_50 _ (List.mem_of_getElem? (i := 13) rfl)) (jWr_1 _ (List.mem_of_getElem? (i := 5) rfl)) (jWr_50 _ (List.mem_of_getElem? (i := 14) rfl))) rfl rfl rfl (by decide +kernel) ⟨by rw [← hR]; show (2 * ef + 8) + 1 ≤ 2 * ef + 9; omega, by rw [← hR]; show 8 + (4 + 11) + (130 * ef + 500) ≤ 130 * ef + 560; omega⟩) ⟨fun a U g mk q => by obtain ⟨q0, q1, q2, qK, q10, q11, q12, q13, q14, q15, q16, q17⟩ := q; exact ⟨q0, q1, q2, jG.calling g mk a qK, q10, q11, q12, q13, q14, q15, q16, q17⟩, hh_15.recv (C := RX14) (T := TX14) (N := 74) hB16 rfl (by decide) hg_r0 hK, fun U hU hW => ⟨rfl, hU, hh_15.2.1, hG.step hW hU hh_15.1, hg_r0, hg_xb, hg_xe, hg_xn, (hh_15.2.2.1.sub (L1 := [(r0, 16, 29, .int wt_15), (r0, 16, 30, .int pe), (r0, 16, 26, .int wn_12), (r0, 16, 28, .int wp_15), (r0, 16, 31, .int wb_15), (r0, 16, 22, .ref xb), (r0, 16, 23, .ref xe), (r0, 16, 19, .ref xn)]) [0, 4, 3, 1, 2, 5, 6, 7] rfl), (hh_15.2.2.2.2.2.2.2.1.sub (L1 := [(xn, 119, 3100, ca 1, mx_12)]) [0] rfl), (hh_15.2.2.2.2.2.2.2.2.sub (L1 := [(jFt, jFT dC dI ca G0 xb xe)]) [0] rfl), by first | omega | (refine ⟨?_, ?_, ?_, ?_, ?_, ?_, ?_, ?_, ?_, ?_, ?_, ?_, ?_⟩ <;> (first | omega | rfl | assumption | decide | exact Or.inl rfl | exact Or.inr rfl | (simp only; omega)))⟩⟩ rfl rfl hl.1 rfl (lv_room (Nat.le_of_ble_eq_true rfl)) dX14_readMany_173 ⟨Nat.zero_le _, Nat.zero_le _⟩) hh_15.1 (fun q _ h => h) (fun q h => h) (fun r_18 u_17 t_17 H_17 locs_17 ht_17 hvm_17 hr_18 hb_17 hz_17 hk_17 hS_17 => ?_)
                    obtain ⟨qt_17, qn_17, qp_17, qb_17, nx_17⟩ := u_17
                    rw [ht_17] at hb_17
                    obtain ⟨hb_17, hbT_17⟩ := hb_17
                    obtain ⟨⟨hb_171, hb_172, hb_173, hb_174, hb_175⟩, hb_176⟩ := hb_17
                    have hh_17 : jSt (dC, dI) B base G0 G0 EX14_readManyKN s.heap 0 0 [(r0, 16, 29, .int qt_17), (r0, 16, 26, .int qn_17), (r0, 16, 28, .int qp_17), (r0, 16, 31, .int qb_17), (r0, 16, 30, .int pe), (r0, 16, 22, .ref xb), (r0, 16, 23, .ref xe), (r0, 16, 19, .ref xn)] [(xn, 119, 3100, ca 1, nx_17)] [(jFt, jFT dC dI ca G0 xb xe)] H_17 locs_17 := (((hh_15.call hb_171 hb_172 hb_173 hb_174 hS_17 rfl (L1 := [(r0, 16, 30, .int pe), (r0, 16, 22, .ref xb), (r0, 16, 23, .ref xe), (r0, 16, 19, .ref xn)]) [4, 5, 6, 7] rfl rfl (M1 := []) [] rfl rfl (I1 := []) [] rfl rfl).more hb_175).moreM hb_176).addIs hbT_17
                    clear hh_15 ht_17 hvm_17 hz_17 hk_17 hS_17 hb_171 hb_172 hb_173 hb_174 hb_175
                    clear hb_176
                    clear  hbT_17
                    try simp only at hr_18
                    obtain ⟨hr_18_0, hr_18_1, hr_18_2, hr_18_3, hr_18_4, hr_18_5, hr_18_6, hr_18_7, hr_18_8, hr_18_9, hr_18_10⟩ := hr_18
                    refine lv_istore (lv' := [(9, .int r_18), (0, .ref r0), (1, .int a1), (2, .int a2), (3, .int r_3), (4, .int w0_6), (5, .int v5_12), (6, .int v6_12), (7, .int v7_15), (8, .int v8_15), (7, .int v7_15), (8, .int v8_15)]) hx hb dX14_readMany_176 hl (by decide) rfl (fun ls hl => ?_)
                    refine lv_aload_n hx hb dX14_readMany_178 rfl (lv_at hl 1 rfl) ?_
                    refine j7_read hx hb hown hK (C := RX14) (T := TX14) (N := 74) rfl hly_16_31 hlk_288 (hh_17.at 3 rfl) dX14_readMany_179 ?_
                    refine lv_if_eq (tgt := 187) hx hb dX14_readMany_182 (by decide) (fun c_19 => ?_) (fun c_19 => ?_)
                    · skip
                      have c_19' : qb_17.toInt = 0 := jb_eq (rfl) ((by decide)) c_19
                      first | (have hr_18_10q := hr_18_10.resolve_left (by omega); clear hr_18_10) | (have hr_18_10q := hr_18_10.resolve_right (by omega); clear hr_18_10) | skip
                      refine lv_aload_n hx hb dX14_readMany_187 rfl (lv_at hl 1 rfl) ?_
                      obtain ⟨v_20, hv_20, hh_21⟩ := hh_17.pin (C := RX14) (T := TX14) (N := 74) hB16 rfl (by decide) hg_r0 (i := 20) (by decide) rfl
                      clear hh_17
                      obtain ⟨nameFrom_22, rfl, hg_nameFrom_22⟩ := hv_20
                      refine j7_read hx hb hown hK (C := RX14) (T := TX14) (N := 74) rfl hly_16_20 hlk_46 (hh_21.at 0 rfl) dX14_readMany_188 ?_
                      refine lv_iload hx hb dX14_readMany_191 (lv_at hl 0 rfl) ?_
                      refine lv_iload hx hb dX14_readMany_193 (lv_at hl 8 rfl) ?_
                      refine j7_iast hx hb hK hh_21 hB hB120 1 rfl (by decide) (by decide) rfl rfl rfl hg_nameFrom_22 (x := r_18.toInt) (rfl) (by omega) (by first | omega | (refine ⟨?_, ?_⟩ <;> (first | omega | rfl | assumption | decide | exact Or.inl rfl | exact Or.inr rfl | (simp only; omega)))) dX14_readMany_195 (fun H_23 locs_23 hh_23 => ?_)
                      clear hh_21
                      refine lv_aload_n hx hb dX14_readMany_196 rfl (lv_at hl 1 rfl) ?_
                      obtain ⟨v_24, hv_24, hh_25⟩ := hh_23.pin (C := RX14) (T := TX14) (N := 74) hB16 rfl (by decide) hg_r0 (i := 21) (by decide) rfl
                      clear hh_23
                      obtain ⟨nameTo_26, rfl, hg_nameTo_26⟩ := hv_24
                      refine j7_read hx hb hown hK (C := RX14) (T := TX14) (N := 74) rfl hly_16_21 hlk_49 (hh_25.at 0 rfl) dX14_readMany_197 ?_
                      refine lv_iload hx hb dX14_readMany_200 (lv_at hl 0 rfl) ?_
                      refine lv_iload hx hb dX14_readMany_202 (lv_at hl 9 rfl) ?_
                      refine j7_iast hx hb hK hh_25 hB hB121 1 rfl (by decide) (by decide) rfl rfl rfl hg_nameTo_26 (x := r_18.toInt) (rfl) (by omega) (by first | omega | (refine ⟨?_, ?_⟩ <;> (first | omega | rfl | assumption | decide | exact Or.inl rfl | exact Or.inr rfl | (simp only; omega)))) dX14_readMany_204 (fun H_27 locs_27 hh_27 => ?_)
                      clear hh_25
                      refine lv_iload hx hb dX14_readMany_205 (lv_at hl 6 rfl) ?_
                      have C230 : ∀ (mx_28 : Nat → Int32) (H_28 : Heap) (locs_28 : List Loc), jSt (dC, dI) B base G0 G0 EX14_readManyKN s.heap 0 0 [(r0, 16, 21, .ref nameTo_26), (r0, 16, 20, .ref nameFrom_22), (r0, 16, 29, .int qt_17), (r0, 16, 26, .int qn_17), (r0, 16, 28, .int qp_17), (r0, 16, 31, .int qb_17), (r0, 16, 30, .int pe), (r0, 16, 22, .ref xb), (r0, 16, 23, .ref xe), (r0, 16, 19, .ref xn)] [(xn, 119, 3100, ca 1, mx_28)] [(jFt, jFT dC dI ca G0 xb xe)] H_28 locs_28 → (jSo mx_28 0 = -1) → ∀ ls : Array Slot, lv_has ls 10 [(0, .ref r0), (1, .int a1), (2, .int a2), (3, .int r_3), (4, .int w0_6), (5, .int v5_12), (6, .int v6_12), (7, .int v7_15), (7, .int v7_15), (8, .int v8_15), (8, .int v8_15), (9, .int r_18)] → W p l e R s m ([.ref r0, .int a1, .int a2] : List Value).toArray below meth c H_28 locs_28 0 0 Q (F0 m 230 ls []) := by
                        intro mx_28 H_28 locs_28 hh_28  hi_28 ls hl
                        try clear hr_18_10
                        refine lv_iload hx hb dX14_readMany_230 (lv_at hl 11 rfl) ?_
                        refine lv_istore (lv' := [(5, .int r_18), (0, .ref r0), (1, .int a1), (2, .int a2), (3, .int r_3), (4, .int w0_6), (6, .int v6_12), (7, .int v7_15), (7, .int v7_15), (8, .int v8_15), (8, .int v8_15), (9, .int r_18)]) hx hb dX14_readMany_232 hl (by decide) rfl (fun ls hl => ?_)
                        refine lv_aload_n hx hb dX14_readMany_234 rfl (lv_at hl 1 rfl) ?_
                        refine va_callv (A0 := jA base) (H0 := s.heap) (va_runV (As := []) (rest := []) ⟨hx, hb, hml, hown, hts⟩ (uX14_blanks l dC dI ca base B hB hAp hB16 hB110 G0 H_28 r0 qt_17 pe (pe.toInt + 2 * (qb_17.toInt))) (cwV 0 hts (jgV (jWr_50 _ (List.mem_of_getElem? (i := 16) rfl)) (jWr_50 _ (List.mem_of_getElem? (i := 17) rfl)) (jWr_50 _ (List.mem_of_getElem? (i := 18) rfl)) (jWr_1 _ (List.mem_of_getElem? (i := 5) rfl)) (jWr_50 _ (List.mem_of_getElem? (i := 19) rfl))) rfl rfl rfl (by decide +kernel) ⟨by rw [← hR]; show (1) + 1 ≤ 2 * ef + 9; omega, by rw [← hR]; show 8 + (1 + 11) + (20) ≤ 130 * ef + 560; omega⟩) ⟨fun a U g mk q => by obtain ⟨q0, q1, q2, qK, q10, q11, q12⟩ := q; exact ⟨q0, q1, q2, jG.calling g mk a qK, q10, q11, q12⟩, hh_28.recv (C := RX14) (T := TX14) (N := 74) hB16 rfl (by decide) hg_r0 hK, fun U hU hW => ⟨rfl, hU, hh_28.2.1, hG.step hW hU hh_28.1, hg_r0, (hh_28.2.2.1.sub (L1 := [(r0, 16, 29, .int qt_17), (r0, 16, 30, .int pe)]) [2, 6] rfl), by first | omega | (refine ⟨?_, ?_, ?_, ?_, ?_, ?_, ?_⟩ <;> (first | omega | rfl | assumption | decide | exact Or.inl rfl | exact Or.inr rfl | (simp only; omega)))⟩⟩ rfl rfl hl.1 rfl (lv_room (Nat.le_of_ble_eq_true rfl)) dX14_readMany_235 ⟨Nat.zero_le _, Nat.zero_le _⟩) hh_28.1 (fun q _ h => h) (fun q h => h) (fun u_29 t_29 H_29 locs_29 ht_29 hvm_29 hr_30 hb_29 hz_29 hk_29 hS_29 => ?_)
                        obtain ⟨qt_29, rfl⟩ : ∃ z, z = u_29 := ⟨_, rfl⟩
                        rw [ht_29] at hb_29
                        obtain ⟨hb_291, hb_292, hb_293, hb_294, hb_295⟩ := hb_29
                        have hh_29 : jSt (dC, dI) B base G0 G0 EX14_readManyKN s.heap 0 0 [(r0, 16, 29, .int qt_29), (r0, 16, 21, .ref nameTo_26), (r0, 16, 20, .ref nameFrom_22), (r0, 16, 26, .int qn_17), (r0, 16, 28, .int qp_17), (r0, 16, 31, .int qb_17), (r0, 16, 30, .int pe), (r0, 16, 22, .ref xb), (r0, 16, 23, .ref xe), (r0, 16, 19, .ref xn)] [(xn, 119, 3100, ca 1, mx_28)] [(jFt, jFT dC dI ca G0 xb xe)] H_29 locs_29 := ((hh_28.call hb_291 hb_292 hb_293 hb_294 hS_29 rfl (L1 := [(r0, 16, 21, .ref nameTo_26), (r0, 16, 20, .ref nameFrom_22), (r0, 16, 26, .int qn_17), (r0, 16, 28, .int qp_17), (r0, 16, 31, .int qb_17), (r0, 16, 30, .int pe), (r0, 16, 22, .ref xb), (r0, 16, 23, .ref xe), (r0, 16, 19, .ref xn)]) [0, 1, 3, 4, 5, 6, 7, 8, 9] rfl rfl (M1 := [(xn, 119, 3100, ca 1, mx_28)]) [0] rfl rfl (I1 := [(jFt, jFT dC dI ca G0 xb xe)]) [0] rfl rfl).more hb_295)
                        clear hh_28 ht_29 hvm_29 hz_29 hk_29 hS_29 hb_291 hb_292 hb_293 hb_294 hb_295
                        obtain ⟨hr_30_0, hr_30_1⟩ := hr_30
                        refine lv_aload_n hx hb dX14_readMany_238 rfl (lv_at hl 1 rfl) ?_
                        refine va_calli (A0 := jA base) (H0 := s.heap) (va_runV (As := []) (rest := []) ⟨hx, hb, hml, hown, hts⟩ (uX14_here l dC dI ca base B hB hAp hB16 hB110 G0 H_29 r0 qt_29 pe) (cwV 0 hts (jgV (jWr_50 _ (List.mem_of_getElem? (i := 20) rfl)) (jWr_50 _ (List.mem_of_getElem? (i := 21) rfl)) (jWr_50 _ (List.mem_of_getElem? (i := 22) rfl)) (jWr_1 _ (List.mem_of_getElem? (i := 5) rfl)) (jWr_50 _ (List.mem_of_getElem? (i := 23) rfl))) rfl rfl rfl (by decide +kernel) ⟨by rw [← hR]; show (0) + 1 ≤ 2 * ef + 9; omega, by rw [← hR]; show 8 + (1 + 11) + (0) ≤ 130 * ef + 560; omega⟩) ⟨fun a U g mk q => by obtain ⟨q0, q1, q2, qK, q10, q11, q12⟩ := q; exact ⟨q0, q1, q2, jG.calling g mk a qK, q10, q11, q12⟩, hh_29.recv (C := RX14) (T := TX14) (N := 74) hB16 rfl (by decide) hg_r0 hK, fun U hU hW => ⟨rfl, hU, hh_29.2.1, hG.step hW hU hh_29.1, hg_r0, (hh_29.2.2.1.sub (L1 := [(r0, 16, 29, .int qt_29), (r0, 16, 30, .int pe)]) [0, 6] rfl), by first | omega | (refine ⟨?_, ?_, ?_, ?_⟩ <;> (first | omega | rfl | assumption | decide | exact Or.inl rfl | exact Or.inr rfl | (simp only; omega)))⟩⟩ rfl rfl hl.1 rfl (lv_room (Nat.le_of_ble_eq_true rfl)) dX14_readMany_239 ⟨Nat.zero_le _, Nat.zero_le _⟩) hh_29.1 (fun q _ h => h) (fun q h => h) (fun r_32 u_31 t_31 H_31 locs_31 ht_31 hvm_31 hr_32 hb_31 hz_31 hk_31 hS_31 => ?_)
                        rw [ht_31] at hb_31
                        obtain ⟨hb_311, hb_312, hb_313, hb_314, hb_315⟩ := hb_31
                        have hh_31 : jSt (dC, dI) B base G0 G0 EX14_readManyKN s.heap 0 0 [(r0, 16, 29, .int qt_29), (r0, 16, 21, .ref nameTo_26), (r0, 16, 20, .ref nameFrom_22), (r0, 16, 26, .int qn_17), (r0, 16, 28, .int qp_17), (r0, 16, 31, .int qb_17), (r0, 16, 30, .int pe), (r0, 16, 22, .ref xb), (r0, 16, 23, .ref xe), (r0, 16, 19, .ref xn)] [(xn, 119, 3100, ca 1, mx_28)] [(jFt, jFT dC dI ca G0 xb xe)] H_31 locs_31 := ((hh_29.call hb_311 hb_312 hb_313 hb_314 hS_31 rfl (L1 := [(r0, 16, 29, .int qt_29), (r0, 16, 21, .ref nameTo_26), (r0, 16, 20, .ref nameFrom_22), (r0, 16, 26, .int qn_17), (r0, 16, 28, .int qp_17), (r0, 16, 31, .int qb_17), (r0, 16, 30, .int pe), (r0, 16, 22, .ref xb), (r0, 16, 23, .ref xe), (r0, 16, 19, .ref xn)]) [0, 1, 2, 3, 4, 5, 6, 7, 8, 9] rfl rfl (M1 := [(xn, 119, 3100, ca 1, mx_28)]) [0] rfl rfl (I1 := [(jFt, jFT dC dI ca G0 xb xe)]) [0] rfl rfl).more hb_315)
                        clear hh_29 ht_31 hvm_31 hz_31 hk_31 hS_31 hb_311 hb_312 hb_313 hb_314 hb_315
                        obtain ⟨hr_32_0, hr_32_1, hr_32_2⟩ := hr_32
                        refine lv_bipush (v := 44) hx hb dX14_readMany_242 (by decide) ?_
                        have C252 : ∀ (w0_33 : Int32) (H_33 : Heap) (locs_33 : List Loc), jSt (dC, dI) B base G0 G0 EX14_readManyKN s.heap 0 0 [(r0, 16, 29, .int qt_29), (r0, 16, 21, .ref nameTo_26), (r0, 16, 20, .ref nameFrom_22), (r0, 16, 26, .int qn_17), (r0, 16, 28, .int qp_17), (r0, 16, 31, .int qb_17), (r0, 16, 30, .int pe), (r0, 16, 22, .ref xb), (r0, 16, 23, .ref xe), (r0, 16, 19, .ref xn)] [(xn, 119, 3100, ca 1, mx_28)] [(jFt, jFT dC dI ca G0 xb xe)] H_33 locs_33 → (w0_33 = 0 ∨ w0_33 = 1) → (w0_33.toInt = 0 ∨ qt_29.toInt < pe.toInt) → ∀ ls : Array Slot, lv_has ls 10 [(0, .ref r0), (1, .int a1), (2, .int a2), (3, .int r_3), (4, .int w0_6), (5, .int r_18), (6, .int v6_12), (7, .int v7_15), (7, .int v7_15), (8, .int v8_15), (8, .int v8_15), (9, .int r_18)] → W p l e R s m ([.ref r0, .int a1, .int a2] : List Value).toArray below meth c H_33 locs_33 0 0 Q (F0 m 252 ls [.int w0_33]) := by
                          intro w0_33 H_33 locs_33 hh_33 hb_w0_33 hi_33 ls hl
                          have hb_w0_33' := jb_01 hb_w0_33
                          try clear hr_32_2
                          refine lv_istore (lv' := [(6, .int w0_33), (0, .ref r0), (1, .int a1), (2, .int a2), (3, .int r_3), (4, .int w0_6), (5, .int r_18), (7, .int v7_15), (7, .int v7_15), (8, .int v8_15), (8, .int v8_15), (9, .int r_18)]) hx hb dX14_readMany_252 hl (by decide) rfl (fun ls hl => ?_)
                          refine lv_iload hx hb dX14_readMany_254 (lv_at hl 0 rfl) ?_
                          have C273 : ∀ (wb_34 : Int32) (H_34 : Heap) (locs_34 : List Loc), jSt (dC, dI) B base G0 G0 EX14_readManyKN s.heap 0 0 [(r0, 16, 31, .int wb_34), (r0, 16, 29, .int qt_29), (r0, 16, 21, .ref nameTo_26), (r0, 16, 20, .ref nameFrom_22), (r0, 16, 26, .int qn_17), (r0, 16, 28, .int qp_17), (r0, 16, 30, .int pe), (r0, 16, 22, .ref xb), (r0, 16, 23, .ref xe), (r0, 16, 19, .ref xn)] [(xn, 119, 3100, ca 1, mx_28)] [(jFt, jFT dC dI ca G0 xb xe)] H_34 locs_34 → (0 ≤ wb_34.toInt ∧ wb_34.toInt ≤ 1 ∧ qt_29.toInt + 1 ≤ pe.toInt + wb_34.toInt) → ∀ ls : Array Slot, lv_has ls 10 [(0, .ref r0), (1, .int a1), (2, .int a2), (3, .int r_3), (4, .int w0_6), (5, .int r_18), (6, .int w0_33), (7, .int v7_15), (7, .int v7_15), (8, .int v8_15), (8, .int v8_15), (9, .int r_18)] → W p l e R s m ([.ref r0, .int a1, .int a2] : List Value).toArray below meth c H_34 locs_34 0 0 Q (F0 m 273 ls []) := by
                            intro wb_34 H_34 locs_34 hh_34  hi_34 ls hl
                            obtain ⟨hi_34_0, hi_34_1, hi_34_2⟩ := hi_34
                            refine lv_aload_n hx hb dX14_readMany_273 rfl (lv_at hl 0 rfl) ?_
                            refine lv_dup hx hb dX14_readMany_274 rfl ?_
                            refine j7_read hx hb hown hK (C := RX14) (T := TX14) (N := 74) rfl hly_16_29 hlk_273 (hh_34.at 1 rfl) dX14_readMany_275 ?_
                            refine lv_iconst (v := 1) hx hb dX14_readMany_278 (by decide) ?_
                            refine lv_iadd hx hb dX14_readMany_279 ?_
                            refine lv_topi (fun z_35 ez_35 => ?_)
                            have hz_35 : z_35.toInt = qt_29.toInt + 1 := by rw [ez_35]; exact jb_iadd2 (rfl) ((by decide)) (by omega)
                            refine j7_put hx hb hown hK hh_34 hB hAp hB16 (C := RX14) (T := TX14) (N := 74) rfl (by decide) hg_r0 (i := 29) (by decide) hly_16_29 rfl hlk_273 rfl (ty := .int) (v := .int z_35) (by decide +kernel) rfl rfl (⟨_, rfl, by omega, by omega⟩) rfl (L1 := [(r0, 16, 31, .int wb_34), (r0, 16, 21, .ref nameTo_26), (r0, 16, 20, .ref nameFrom_22), (r0, 16, 26, .int qn_17), (r0, 16, 28, .int qp_17), (r0, 16, 30, .int pe), (r0, 16, 22, .ref xb), (r0, 16, 23, .ref xe), (r0, 16, 19, .ref xn)]) [0, 2, 3, 4, 5, 6, 7, 8, 9] rfl rfl rfl dX14_readMany_280 (fun H_36 locs_36 hh_36 => ?_)
                            clear hh_34
                            refine lv_goto (tgt := 69) hx hb dX14_readMany_283 (by decide) ?_
                            exact L69 r_18 w0_33 z_35 qn_17 qp_17 wb_34 mx_28 _ _ (hh_36.sub (L1 := [(r0, 16, 29, .int z_35), (r0, 16, 26, .int qn_17), (r0, 16, 28, .int qp_17), (r0, 16, 31, .int wb_34), (r0, 16, 30, .int pe), (r0, 16, 22, .ref xb), (r0, 16, 23, .ref xe), (r0, 16, 19, .ref xn)]) [0, 4, 5, 1, 6, 7, 8, 9] rfl (M1 := [(xn, 119, 3100, ca 1, mx_28)]) [0] rfl (I1 := [(jFt, jFT dC dI ca G0 xb xe)]) [0] rfl) (hb_w0_33) (by first | omega | (refine ⟨?_, ?_, ?_, ?_, ?_, ?_, ?_, ?_, ?_, ?_, ?_, ?_, ?_⟩ <;> (first | omega | rfl | assumption | decide | exact Or.inl rfl | exact Or.inr rfl | (simp only; omega)))) (by omega) _ (lv_sub hl [0, 1, 2, 3, 4, 5, 6] rfl)
                          refine lv_if_ne (tgt := 273) hx hb dX14_readMany_256 (by decide) (fun c_37 => ?_) (fun c_37 => ?_)
                          · skip
                            have c_37' : w0_33.toInt ≠ 0 := jb_ne (rfl) ((by decide)) c_37
                            exact C273 qb_17 _ _ (hh_33.sub (L1 := [(r0, 16, 31, .int qb_17), (r0, 16, 29, .int qt_29), (r0, 16, 21, .ref nameTo_26), (r0, 16, 20, .ref nameFrom_22), (r0, 16, 26, .int qn_17), (r0, 16, 28, .int qp_17), (r0, 16, 30, .int pe), (r0, 16, 22, .ref xb), (r0, 16, 23, .ref xe), (r0, 16, 19, .ref xn)]) [5, 0, 1, 2, 3, 4, 6, 7, 8, 9] rfl (M1 := [(xn, 119, 3100, ca 1, mx_28)]) [0] rfl (I1 := [(jFt, jFT dC dI ca G0 xb xe)]) [0] rfl) (by first | omega | (refine ⟨?_, ?_, ?_⟩ <;> (first | omega | rfl | assumption | decide | exact Or.inl rfl | exact Or.inr rfl | (simp only; omega)))) _ (lv_sub hl [1, 2, 3, 4, 5, 6, 0, 7, 7, 9, 9, 11] rfl)
                          · skip
                            have c_37' : w0_33.toInt = 0 := jb_ne_n (rfl) ((by decide)) c_37
                            refine lv_aload_n hx hb dX14_readMany_259 rfl (lv_at hl 1 rfl) ?_
                            refine va_calli (A0 := jA base) (H0 := s.heap) (va_runV (As := []) (rest := []) ⟨hx, hb, hml, hown, hts⟩ (uX14_here l dC dI ca base B hB hAp hB16 hB110 G0 H_33 r0 qt_29 pe) (cwV 0 hts (jgV (jWr_50 _ (List.mem_of_getElem? (i := 20) rfl)) (jWr_50 _ (List.mem_of_getElem? (i := 21) rfl)) (jWr_50 _ (List.mem_of_getElem? (i := 22) rfl)) (jWr_1 _ (List.mem_of_getElem? (i := 5) rfl)) (jWr_50 _ (List.mem_of_getElem? (i := 23) rfl))) rfl rfl rfl (by decide +kernel) ⟨by rw [← hR]; show (0) + 1 ≤ 2 * ef + 9; omega, by rw [← hR]; show 8 + (1 + 11) + (0) ≤ 130 * ef + 560; omega⟩) ⟨fun a U g mk q => by obtain ⟨q0, q1, q2, qK, q10, q11, q12⟩ := q; exact ⟨q0, q1, q2, jG.calling g mk a qK, q10, q11, q12⟩, hh_33.recv (C := RX14) (T := TX14) (N := 74) hB16 rfl (by decide) hg_r0 hK, fun U hU hW => ⟨rfl, hU, hh_33.2.1, hG.step hW hU hh_33.1, hg_r0, (hh_33.2.2.1.sub (L1 := [(r0, 16, 29, .int qt_29), (r0, 16, 30, .int pe)]) [0, 6] rfl), by first | omega | (refine ⟨?_, ?_, ?_, ?_⟩ <;> (first | omega | rfl | assumption | decide | exact Or.inl rfl | exact Or.inr rfl | (simp only; omega)))⟩⟩ rfl rfl hl.1 rfl (lv_room (Nat.le_of_ble_eq_true rfl)) dX14_readMany_260 ⟨Nat.zero_le _, Nat.zero_le _⟩) hh_33.1 (fun q _ h => h) (fun q h => h) (fun r_39 u_38 t_38 H_38 locs_38 ht_38 hvm_38 hr_39 hb_38 hz_38 hk_38 hS_38 => ?_)
                            rw [ht_38] at hb_38
                            obtain ⟨hb_381, hb_382, hb_383, hb_384, hb_385⟩ := hb_38
                            have hh_38 : jSt (dC, dI) B base G0 G0 EX14_readManyKN s.heap 0 0 [(r0, 16, 29, .int qt_29), (r0, 16, 21, .ref nameTo_26), (r0, 16, 20, .ref nameFrom_22), (r0, 16, 26, .int qn_17), (r0, 16, 28, .int qp_17), (r0, 16, 31, .int qb_17), (r0, 16, 30, .int pe), (r0, 16, 22, .ref xb), (r0, 16, 23, .ref xe), (r0, 16, 19, .ref xn)] [(xn, 119, 3100, ca 1, mx_28)] [(jFt, jFT dC dI ca G0 xb xe)] H_38 locs_38 := ((hh_33.call hb_381 hb_382 hb_383 hb_384 hS_38 rfl (L1 := [(r0, 16, 29, .int qt_29), (r0, 16, 21, .ref nameTo_26), (r0, 16, 20, .ref nameFrom_22), (r0, 16, 26, .int qn_17), (r0, 16, 28, .int qp_17), (r0, 16, 31, .int qb_17), (r0, 16, 30, .int pe), (r0, 16, 22, .ref xb), (r0, 16, 23, .ref xe), (r0, 16, 19, .ref xn)]) [0, 1, 2, 3, 4, 5, 6, 7, 8, 9] rfl rfl (M1 := [(xn, 119, 3100, ca 1, mx_28)]) [0] rfl rfl (I1 := [(jFt, jFT dC dI ca G0 xb xe)]) [0] rfl rfl).more hb_385)
                            clear hh_33 ht_38 hvm_38 hz_38 hk_38 hS_38 hb_381 hb_382 hb_383 hb_384 hb_385
                            obtain ⟨hr_39_0, hr_39_1, hr_39_2⟩ := hr_39
                            refine lv_iload hx hb dX14_readMany_263 (lv_at hl 5 rfl) ?_
                            refine lv_icmp_eq (tgt := 273) hx hb dX14_readMany_265 (by decide) (fun c_40 => ?_) (fun c_40 => ?_)
                            · skip
                              have c_40' : r_39.toInt = w0_6.toInt := jb_eq (rfl) (rfl) c_40
                              first | (have hr_39_2q := hr_39_2.resolve_left (by omega); clear hr_39_2) | (have hr_39_2q := hr_39_2.resolve_right (by omega); clear hr_39_2) | try clear hr_39_2
                              exact C273 qb_17 _ _ (hh_38.sub (L1 := [(r0, 16, 31, .int qb_17), (r0, 16, 29, .int qt_29), (r0, 16, 21, .ref nameTo_26), (r0, 16, 20, .ref nameFrom_22), (r0, 16, 26, .int qn_17), (r0, 16, 28, .int qp_17), (r0, 16, 30, .int pe), (r0, 16, 22, .ref xb), (r0, 16, 23, .ref xe), (r0, 16, 19, .ref xn)]) [5, 0, 1, 2, 3, 4, 6, 7, 8, 9] rfl (M1 := [(xn, 119, 3100, ca 1, mx_28)]) [0] rfl (I1 := [(jFt, jFT dC dI ca G0 xb xe)]) [0] rfl) (by first | omega | (refine ⟨?_, ?_, ?_⟩ <;> (first | omega | rfl | assumption | decide | exact Or.inl rfl | exact Or.inr rfl | (simp only; omega)))) _ (lv_sub hl [1, 2, 3, 4, 5, 6, 0, 7, 7, 9, 9, 11] rfl)
                            · skip
                              have c_40' : r_39.toInt ≠ w0_6.toInt := jb_eq_n (rfl) (rfl) c_40
                              try clear hr_39_2
                              refine lv_aload_n hx hb dX14_readMany_268 rfl (lv_at hl 1 rfl) ?_
                              refine lv_iconst (v := 1) hx hb dX14_readMany_269 (by decide) ?_
                              refine j7_put hx hb hown hK hh_38 hB hAp hB16 (C := RX14) (T := TX14) (N := 74) rfl (by decide) hg_r0 (i := 31) (by decide) hly_16_31 rfl hlk_288 rfl (ty := .boolean) (v := .int 1) (by decide +kernel) (jb_nz (Or.inr rfl)) (jb_fz (Or.inr rfl)) (⟨_, rfl, (Or.inr rfl)⟩) rfl (L1 := [(r0, 16, 29, .int qt_29), (r0, 16, 21, .ref nameTo_26), (r0, 16, 20, .ref nameFrom_22), (r0, 16, 26, .int qn_17), (r0, 16, 28, .int qp_17), (r0, 16, 30, .int pe), (r0, 16, 22, .ref xb), (r0, 16, 23, .ref xe), (r0, 16, 19, .ref xn)]) [0, 1, 2, 3, 4, 6, 7, 8, 9] rfl rfl rfl dX14_readMany_270 (fun H_41 locs_41 hh_41 => ?_)
                              clear hh_38
                              exact C273 1 _ _ hh_41 (by first | omega | (refine ⟨?_, ?_, ?_⟩ <;> (first | omega | rfl | assumption | decide | exact Or.inl rfl | exact Or.inr rfl | (simp only; omega)))) _ (lv_sub hl [1, 2, 3, 4, 5, 6, 0, 7, 7, 9, 9, 11] rfl)
                        refine lv_icmp_ne (tgt := 251) hx hb dX14_readMany_244 (by decide) (fun c_42 => ?_) (fun c_42 => ?_)
                        · skip
                          have c_42' : r_32.toInt ≠ 44 := jb_ne (rfl) ((by decide)) c_42
                          try clear hr_32_2
                          refine lv_iconst (v := 0) hx hb dX14_readMany_251 (by decide) ?_
                          exact C252 0 _ _ hh_31 (Or.inl rfl) (by first | omega | rfl | assumption | decide | exact Or.inl rfl | exact Or.inr rfl | (simp only; omega)) _ (lv_sub hl [1, 2, 3, 4, 5, 0, 6, 7, 7, 9, 9, 11] rfl)
                        · skip
                          have c_42' : r_32.toInt = 44 := jb_ne_n (rfl) ((by decide)) c_42
                          first | (have hr_32_2q := hr_32_2.resolve_left (by omega); clear hr_32_2) | (have hr_32_2q := hr_32_2.resolve_right (by omega); clear hr_32_2) | try clear hr_32_2
                          refine lv_iconst (v := 1) hx hb dX14_readMany_247 (by decide) ?_
                          refine lv_goto (tgt := 252) hx hb dX14_readMany_248 (by decide) ?_
                          exact C252 1 _ _ hh_31 (Or.inr rfl) (by first | omega | rfl | assumption | decide | exact Or.inl rfl | exact Or.inr rfl | (simp only; omega)) _ (lv_sub hl [1, 2, 3, 4, 5, 0, 6, 7, 7, 9, 9, 11] rfl)
                      refine lv_if_ge (tgt := 221) hx hb dX14_readMany_207 (by decide) (fun c_43 => ?_) (fun c_43 => ?_)
                      · skip
                        have c_43' : v5_12.toInt ≥ 0 := jb_ge (rfl) ((by decide)) c_43
                        refine lv_aload_n hx hb dX14_readMany_221 rfl (lv_at hl 1 rfl) ?_
                        refine j7_read hx hb hown hK (C := RX14) (T := TX14) (N := 74) rfl hly_16_19 hlk_43 (hh_27.at 9 rfl) dX14_readMany_222 ?_
                        refine lv_iload hx hb dX14_readMany_225 (lv_at hl 6 rfl) ?_
                        refine lv_iload hx hb dX14_readMany_227 (lv_at hl 0 rfl) ?_
                        refine j7_iastU hx hb hK hh_27 hB hB119 1 rfl (by decide) (by decide) rfl 0 rfl (M1 := []) [] rfl rfl rfl hg_xn (x := v5_12.toInt) (rfl) (by omega) (by first | omega | rfl | assumption | decide | exact Or.inl rfl | exact Or.inr rfl | (simp only; omega)) dX14_readMany_229 (fun H_44 locs_44 fs_45 hv_44 ho_44 hh_44 => ?_)
                        have hv_44 : jSo fs_45 (v5_12.toInt) = r_18.toInt := by unfold jSo; rw [hv_44]; try exact rfl
                        clear hh_27
                        exact C230 fs_45 _ _ hh_44 (by first | omega | rfl | assumption | exact (jst ho_44 0 (by omega) (by omega) (by omega) (by omega)).trans (by omega)) _ (lv_sub hl [1, 2, 3, 4, 5, 6, 7, 8, 8, 9, 9, 0] rfl)
                      · skip
                        have c_43' : v5_12.toInt < 0 := jb_ge_n (rfl) ((by decide)) c_43
                        refine lv_aload_n hx hb dX14_readMany_210 rfl (lv_at hl 1 rfl) ?_
                        obtain ⟨v_46, hv_46, hh_47⟩ := hh_27.pin (C := RX14) (T := TX14) (N := 74) hB16 rfl (by decide) hg_r0 (i := 18) (by decide) rfl
                        clear hh_27
                        obtain ⟨heir_48, rfl, hg_heir_48⟩ := hv_46
                        refine j7_read hx hb hown hK (C := RX14) (T := TX14) (N := 74) rfl hly_16_18 hlk_40 (hh_47.at 0 rfl) dX14_readMany_211 ?_
                        refine lv_iload_n hx hb dX14_readMany_214 rfl (lv_at hl 4 rfl) ?_
                        refine lv_iload hx hb dX14_readMany_215 (lv_at hl 0 rfl) ?_
                        refine j7_iast hx hb hK hh_47 hB hB118 1 rfl (by decide) (by decide) rfl rfl rfl hg_heir_48 (x := r_3.toInt) (rfl) (by omega) (by first | omega | (refine ⟨?_, ?_⟩ <;> (first | omega | rfl | assumption | decide | exact Or.inl rfl | exact Or.inr rfl | (simp only; omega)))) dX14_readMany_217 (fun H_49 locs_49 hh_49 => ?_)
                        clear hh_47
                        refine lv_goto (tgt := 230) hx hb dX14_readMany_218 (by decide) ?_
                        exact C230 nx_17 _ _ (hh_49.sub (L1 := [(r0, 16, 21, .ref nameTo_26), (r0, 16, 20, .ref nameFrom_22), (r0, 16, 29, .int qt_17), (r0, 16, 26, .int qn_17), (r0, 16, 28, .int qp_17), (r0, 16, 31, .int qb_17), (r0, 16, 30, .int pe), (r0, 16, 22, .ref xb), (r0, 16, 23, .ref xe), (r0, 16, 19, .ref xn)]) [1, 2, 3, 4, 5, 6, 7, 8, 9, 10] rfl (M1 := [(xn, 119, 3100, ca 1, nx_17)]) [0] rfl (I1 := [(jFt, jFT dC dI ca G0 xb xe)]) [0] rfl) (by first | omega | rfl | assumption | exact (jst (zz_none) 0 (by omega) (by omega) (by omega) (by omega)).trans (by omega)) _ (lv_sub hl [1, 2, 3, 4, 5, 6, 7, 8, 8, 9, 9, 0] rfl)
                    · skip
                      have c_19' : qb_17.toInt ≠ 0 := jb_eq_n (rfl) ((by decide)) c_19
                      refine lv_iload_n hx hb dX14_readMany_185 rfl (lv_at hl 4 rfl) ?_
                      rw [hQ]
                      exact W.iret (v := r_3) hx hb hr (fun t ht hW => ⟨⟨r_3, (qt_17, qn_17, qp_17, qb_17, nx_17), rfl, by (try dsimp only); first | omega | (refine ⟨?_, ?_, ?_, ?_, ?_, ?_, ?_, ?_, ?_, ?_, ?_⟩ <;> (first | omega | rfl | assumption | decide | exact Or.inl rfl | exact Or.inr rfl | (simp only; omega))), ⟨⟨hh_17.rt (M1 := [(r0, 16, 29, .int qt_17), (r0, 16, 26, .int qn_17), (r0, 16, 28, .int qp_17), (r0, 16, 31, .int qb_17)]) [0, 1, 2, 3] rfl ht, by rw [ht]; exact hh_17.2.2.2.2.2.2.2.1.sub [0] rfl⟩, by rw [ht]; exact hh_17.2.2.2.2.2.2.2.2.sub (L1 := [(jFt, jFT dC dI ca G0 xb xe)]) [0] rfl⟩⟩, by rw [ht]; try exact hh_17.1.1, fun q h9 hq => by rw [ht]; try exact hh_17.1.2.1 q h9 hq⟩) hh_17.1.2.2 dX14_readMany_186
                  · skip
                    have c_16' : wb_15.toInt ≠ 0 := jb_eq_n (rfl) ((by decide)) c_16
                    refine lv_iconst (v := 0) hx hb dX14_readMany_167 (by decide) ?_
                    refine lv_goto (tgt := 176) hx hb dX14_readMany_168 (by decide) ?_
                    refine lv_istore (lv' := [(9, .int 0), (0, .ref r0), (1, .int a1), (2, .int a2), (3, .int r_3), (4, .int w0_6), (5, .int v5_12), (6, .int v6_12), (7, .int v7_15), (8, .int v8_15), (7, .int v7_15), (8, .int v8_15)]) hx hb dX14_readMany_176 hl (by decide) rfl (fun ls hl => ?_)
                    refine lv_aload_n hx hb dX14_readMany_178 rfl (lv_at hl 1 rfl) ?_
                    refine j7_read hx hb hown hK (C := RX14) (T := TX14) (N := 74) rfl hly_16_31 hlk_288 (hh_15.at 2 rfl) dX14_readMany_179 ?_
                    refine lv_if_eq (tgt := 187) hx hb dX14_readMany_182 (by decide) (fun c_50 => ?_) (fun c_50 => ?_)
                    · skip
                      have c_50' : wb_15.toInt = 0 := jb_eq (rfl) ((by decide)) c_50
                      exact (by omega : False).elim
                    · skip
                      have c_50' : wb_15.toInt ≠ 0 := jb_eq_n (rfl) ((by decide)) c_50
                      refine lv_iload_n hx hb dX14_readMany_185 rfl (lv_at hl 4 rfl) ?_
                      rw [hQ]
                      exact W.iret (v := r_3) hx hb hr (fun t ht hW => ⟨⟨r_3, (wt_15, wn_12, wp_15, wb_15, mx_12), rfl, by (try dsimp only); first | omega | (refine ⟨?_, ?_, ?_, ?_, ?_, ?_, ?_, ?_, ?_, ?_, ?_⟩ <;> (first | omega | rfl | assumption | decide | exact Or.inl rfl | exact Or.inr rfl | (simp only; omega))), ⟨⟨hh_15.rt (M1 := [(r0, 16, 29, .int wt_15), (r0, 16, 26, .int wn_12), (r0, 16, 28, .int wp_15), (r0, 16, 31, .int wb_15)]) [0, 3, 1, 2] rfl ht, by rw [ht]; exact hh_15.2.2.2.2.2.2.2.1.sub [0] rfl⟩, by rw [ht]; exact hh_15.2.2.2.2.2.2.2.2.sub (L1 := [(jFt, jFT dC dI ca G0 xb xe)]) [0] rfl⟩⟩, by rw [ht]; try exact hh_15.1.1, fun q h9 hq => by rw [ht]; try exact hh_15.1.2.1 q h9 hq⟩) hh_15.1.2.2 dX14_readMany_186
                refine lv_if_eq (tgt := 160) hx hb dX14_readMany_88 (by decide) (fun c_51 => ?_) (fun c_51 => ?_)
                · skip
                  have c_51' : a1.toInt = 0 := jb_eq (rfl) ((by decide)) c_51
                  exact C160 0 0 0 0 wt_12 wp_12 wb_12 _ _ (hh_12.sub (L1 := [(r0, 16, 29, .int wt_12), (r0, 16, 28, .int wp_12), (r0, 16, 31, .int wb_12), (r0, 16, 26, .int wn_12), (r0, 16, 30, .int pe), (r0, 16, 22, .ref xb), (r0, 16, 23, .ref xe), (r0, 16, 19, .ref xn)]) [0, 2, 3, 1, 4, 5, 6, 7] rfl (M1 := [(xn, 119, 3100, ca 1, mx_12)]) [0] rfl (I1 := [(jFt, jFT dC dI ca G0 xb xe)]) [0] rfl) (by first | omega | (refine ⟨?_, ?_, ?_, ?_, ?_, ?_, ?_, ?_, ?_, ?_⟩ <;> (first | omega | rfl | assumption | decide | exact Or.inl rfl | exact Or.inr rfl | (simp only; omega)))) _ (lv_sub hl [2, 3, 4, 5, 6, 7, 8, 1, 0, 1, 0] rfl)
                · skip
                  have c_51' : a1.toInt ≠ 0 := jb_eq_n (rfl) ((by decide)) c_51
                  refine lv_aload_n hx hb dX14_readMany_91 rfl (lv_at hl 2 rfl) ?_
                  refine va_callv (A0 := jA base) (H0 := s.heap) (va_runV (As := []) (rest := []) ⟨hx, hb, hml, hown, hts⟩ (uX14_blanks l dC dI ca base B hB hAp hB16 hB110 G0 H_12 r0 wt_12 pe (pe.toInt + 2 * (wb_12.toInt))) (cwV 0 hts (jgV (jWr_50 _ (List.mem_of_getElem? (i := 16) rfl)) (jWr_50 _ (List.mem_of_getElem? (i := 17) rfl)) (jWr_50 _ (List.mem_of_getElem? (i := 18) rfl)) (jWr_1 _ (List.mem_of_getElem? (i := 5) rfl)) (jWr_50 _ (List.mem_of_getElem? (i := 19) rfl))) rfl rfl rfl (by decide +kernel) ⟨by rw [← hR]; show (1) + 1 ≤ 2 * ef + 9; omega, by rw [← hR]; show 8 + (1 + 11) + (20) ≤ 130 * ef + 560; omega⟩) ⟨fun a U g mk q => by obtain ⟨q0, q1, q2, qK, q10, q11, q12⟩ := q; exact ⟨q0, q1, q2, jG.calling g mk a qK, q10, q11, q12⟩, hh_12.recv (C := RX14) (T := TX14) (N := 74) hB16 rfl (by decide) hg_r0 hK, fun U hU hW => ⟨rfl, hU, hh_12.2.1, hG.step hW hU hh_12.1, hg_r0, (hh_12.2.2.1.sub (L1 := [(r0, 16, 29, .int wt_12), (r0, 16, 30, .int pe)]) [0, 4] rfl), by first | omega | (refine ⟨?_, ?_, ?_, ?_, ?_, ?_, ?_⟩ <;> (first | omega | rfl | assumption | decide | exact Or.inl rfl | exact Or.inr rfl | (simp only; omega)))⟩⟩ rfl rfl hl.1 rfl (lv_room (Nat.le_of_ble_eq_true rfl)) dX14_readMany_92 ⟨Nat.zero_le _, Nat.zero_le _⟩) hh_12.1 (fun q _ h => h) (fun q h => h) (fun u_52 t_52 H_52 locs_52 ht_52 hvm_52 hr_53 hb_52 hz_52 hk_52 hS_52 => ?_)
                  obtain ⟨qt_52, rfl⟩ : ∃ z, z = u_52 := ⟨_, rfl⟩
                  rw [ht_52] at hb_52
                  obtain ⟨hb_521, hb_522, hb_523, hb_524, hb_525⟩ := hb_52
                  have hh_52 : jSt (dC, dI) B base G0 G0 EX14_readManyKN s.heap 0 0 [(r0, 16, 29, .int qt_52), (r0, 16, 26, .int wn_12), (r0, 16, 28, .int wp_12), (r0, 16, 31, .int wb_12), (r0, 16, 30, .int pe), (r0, 16, 22, .ref xb), (r0, 16, 23, .ref xe), (r0, 16, 19, .ref xn)] [(xn, 119, 3100, ca 1, mx_12)] [(jFt, jFT dC dI ca G0 xb xe)] H_52 locs_52 := ((hh_12.call hb_521 hb_522 hb_523 hb_524 hS_52 rfl (L1 := [(r0, 16, 26, .int wn_12), (r0, 16, 28, .int wp_12), (r0, 16, 31, .int wb_12), (r0, 16, 30, .int pe), (r0, 16, 22, .ref xb), (r0, 16, 23, .ref xe), (r0, 16, 19, .ref xn)]) [1, 2, 3, 4, 5, 6, 7] rfl rfl (M1 := [(xn, 119, 3100, ca 1, mx_12)]) [0] rfl rfl (I1 := [(jFt, jFT dC dI ca G0 xb xe)]) [0] rfl rfl).more hb_525)
                  clear hh_12 ht_52 hvm_52 hz_52 hk_52 hS_52 hb_521 hb_522 hb_523 hb_524 hb_525
                  obtain ⟨hr_53_0, hr_53_1⟩ := hr_53
                  refine lv_aload_n hx hb dX14_readMany_95 rfl (lv_at hl 2 rfl) ?_
                  refine va_calli (A0 := jA base) (H0 := s.heap) (va_runV (As := []) (rest := []) ⟨hx, hb, hml, hown, hts⟩ (uX14_here l dC dI ca base B hB hAp hB16 hB110 G0 H_52 r0 qt_52 pe) (cwV 0 hts (jgV (jWr_50 _ (List.mem_of_getElem? (i := 20) rfl)) (jWr_50 _ (List.mem_of_getElem? (i := 21) rfl)) (jWr_50 _ (List.mem_of_getElem? (i := 22) rfl)) (jWr_1 _ (List.mem_of_getElem? (i := 5) rfl)) (jWr_50 _ (List.mem_of_getElem? (i := 23) rfl))) rfl rfl rfl (by decide +kernel) ⟨by rw [← hR]; show (0) + 1 ≤ 2 * ef + 9; omega, by rw [← hR]; show 8 + (1 + 11) + (0) ≤ 130 * ef + 560; omega⟩) ⟨fun a U g mk q => by obtain ⟨q0, q1, q2, qK, q10, q11, q12⟩ := q; exact ⟨q0, q1, q2, jG.calling g mk a qK, q10, q11, q12⟩, hh_52.recv (C := RX14) (T := TX14) (N := 74) hB16 rfl (by decide) hg_r0 hK, fun U hU hW => ⟨rfl, hU, hh_52.2.1, hG.step hW hU hh_52.1, hg_r0, (hh_52.2.2.1.sub (L1 := [(r0, 16, 29, .int qt_52), (r0, 16, 30, .int pe)]) [0, 4] rfl), by first | omega | (refine ⟨?_, ?_, ?_, ?_⟩ <;> (first | omega | rfl | assumption | decide | exact Or.inl rfl | exact Or.inr rfl | (simp only; omega)))⟩⟩ rfl rfl hl.1 rfl (lv_room (Nat.le_of_ble_eq_true rfl)) dX14_readMany_96 ⟨Nat.zero_le _, Nat.zero_le _⟩) hh_52.1 (fun q _ h => h) (fun q h => h) (fun r_55 u_54 t_54 H_54 locs_54 ht_54 hvm_54 hr_55 hb_54 hz_54 hk_54 hS_54 => ?_)
                  rw [ht_54] at hb_54
                  obtain ⟨hb_541, hb_542, hb_543, hb_544, hb_545⟩ := hb_54
                  have hh_54 : jSt (dC, dI) B base G0 G0 EX14_readManyKN s.heap 0 0 [(r0, 16, 29, .int qt_52), (r0, 16, 26, .int wn_12), (r0, 16, 28, .int wp_12), (r0, 16, 31, .int wb_12), (r0, 16, 30, .int pe), (r0, 16, 22, .ref xb), (r0, 16, 23, .ref xe), (r0, 16, 19, .ref xn)] [(xn, 119, 3100, ca 1, mx_12)] [(jFt, jFT dC dI ca G0 xb xe)] H_54 locs_54 := ((hh_52.call hb_541 hb_542 hb_543 hb_544 hS_54 rfl (L1 := [(r0, 16, 29, .int qt_52), (r0, 16, 26, .int wn_12), (r0, 16, 28, .int wp_12), (r0, 16, 31, .int wb_12), (r0, 16, 30, .int pe), (r0, 16, 22, .ref xb), (r0, 16, 23, .ref xe), (r0, 16, 19, .ref xn)]) [0, 1, 2, 3, 4, 5, 6, 7] rfl rfl (M1 := [(xn, 119, 3100, ca 1, mx_12)]) [0] rfl rfl (I1 := [(jFt, jFT dC dI ca G0 xb xe)]) [0] rfl rfl).more hb_545)
                  clear hh_52 ht_54 hvm_54 hz_54 hk_54 hS_54 hb_541 hb_542 hb_543 hb_544 hb_545
                  obtain ⟨hr_55_0, hr_55_1, hr_55_2⟩ := hr_55
                  refine lv_bipush (v := 34) hx hb dX14_readMany_99 (by decide) ?_
                  have C109 : ∀ (wb_56 : Int32) (H_56 : Heap) (locs_56 : List Loc), jSt (dC, dI) B base G0 G0 EX14_readManyKN s.heap 0 0 [(r0, 16, 31, .int wb_56), (r0, 16, 29, .int qt_52), (r0, 16, 26, .int wn_12), (r0, 16, 28, .int wp_12), (r0, 16, 30, .int pe), (r0, 16, 22, .ref xb), (r0, 16, 23, .ref xe), (r0, 16, 19, .ref xn)] [(xn, 119, 3100, ca 1, mx_12)] [(jFt, jFT dC dI ca G0 xb xe)] H_56 locs_56 → (0 ≤ wb_56.toInt ∧ wb_56.toInt ≤ 1 ∧ qt_52.toInt ≤ pe.toInt ∧ (wb_56.toInt = 1 ∨ qt_52.toInt < pe.toInt)) → ∀ ls : Array Slot, lv_has ls 10 [(0, .ref r0), (1, .int a1), (2, .int a2), (3, .int r_3), (4, .int w0_6), (5, .int v5_12), (6, .int v6_12), (7, .int 0), (8, .int 0)] → W p l e R s m ([.ref r0, .int a1, .int a2] : List Value).toArray below meth c H_56 locs_56 0 0 Q (F0 m 109 ls []) := by
                    intro wb_56 H_56 locs_56 hh_56  hi_56 ls hl
                    obtain ⟨hi_56_0, hi_56_1, hi_56_2, hi_56_3⟩ := hi_56
                    try clear hr_55_2
                    refine lv_aload_n hx hb dX14_readMany_109 rfl (lv_at hl 0 rfl) ?_
                    refine j7_read hx hb hown hK (C := RX14) (T := TX14) (N := 74) rfl hly_16_31 hlk_288 (hh_56.at 0 rfl) dX14_readMany_110 ?_
                    have C120 : ∀ (wt_57 : Int32) (wp_57 : Int32) (wb_57 : Int32) (ws_57 : Int32) (H_57 : Heap) (locs_57 : List Loc), jSt (dC, dI) B base G0 G0 EX14_readManyKN s.heap 0 0 [(r0, 16, 29, .int wt_57), (r0, 16, 28, .int wp_57), (r0, 16, 31, .int wb_57), (r0, 16, 32, .int ws_57), (r0, 16, 26, .int wn_12), (r0, 16, 30, .int pe), (r0, 16, 22, .ref xb), (r0, 16, 23, .ref xe), (r0, 16, 19, .ref xn)] [(xn, 119, 3100, ca 1, mx_12)] [(jFt, jFT dC dI ca G0 xb xe)] H_57 locs_57 → (0 ≤ ws_57.toInt ∧ ws_57.toInt ≤ 3300 ∧ qt_52.toInt ≤ wt_57.toInt ∧ wp_12.toInt ≤ wp_57.toInt ∧ wp_57.toInt ≤ wt_57.toInt ∧ 0 ≤ wb_57.toInt ∧ wb_57.toInt ≤ 1 ∧ wt_57.toInt ≤ pe.toInt + 2 * wb_57.toInt) → ∀ ls : Array Slot, lv_has ls 10 [(0, .ref r0), (1, .int a1), (2, .int a2), (3, .int r_3), (4, .int w0_6), (5, .int v5_12), (6, .int v6_12), (7, .int 0), (8, .int 0)] → W p l e R s m ([.ref r0, .int a1, .int a2] : List Value).toArray below meth c H_57 locs_57 0 0 Q (F0 m 120 ls []) := by
                      intro wt_57 wp_57 wb_57 ws_57 H_57 locs_57 hh_57  hi_57 ls hl
                      obtain ⟨hi_57_0, hi_57_1, hi_57_2, hi_57_3, hi_57_4, hi_57_5, hi_57_6, hi_57_7⟩ := hi_57
                      refine lv_aload_n hx hb dX14_readMany_120 rfl (lv_at hl 0 rfl) ?_
                      refine j7_read hx hb hown hK (C := RX14) (T := TX14) (N := 74) rfl hly_16_32 hlk_301 (hh_57.at 3 rfl) dX14_readMany_121 ?_
                      refine lv_istore (lv' := [(7, .int ws_57), (0, .ref r0), (1, .int a1), (2, .int a2), (3, .int r_3), (4, .int w0_6), (5, .int v5_12), (6, .int v6_12), (8, .int 0)]) hx hb dX14_readMany_124 hl (by decide) rfl (fun ls hl => ?_)
                      refine lv_aload_n hx hb dX14_readMany_126 rfl (lv_at hl 1 rfl) ?_
                      refine j7_read hx hb hown hK (C := RX14) (T := TX14) (N := 74) rfl hly_16_28 hlk_304 (hh_57.at 1 rfl) dX14_readMany_127 ?_
                      refine lv_istore (lv' := [(8, .int wp_57), (7, .int ws_57), (0, .ref r0), (1, .int a1), (2, .int a2), (3, .int r_3), (4, .int w0_6), (5, .int v5_12), (6, .int v6_12)]) hx hb dX14_readMany_130 hl (by decide) rfl (fun ls hl => ?_)
                      refine lv_aload_n hx hb dX14_readMany_132 rfl (lv_at hl 2 rfl) ?_
                      refine va_callv (A0 := jA base) (H0 := s.heap) (va_runV (As := []) (rest := []) ⟨hx, hb, hml, hown, hts⟩ (uX14_blanks l dC dI ca base B hB hAp hB16 hB110 G0 H_57 r0 wt_57 pe (pe.toInt + 2 * (wb_57.toInt))) (cwV 0 hts (jgV (jWr_50 _ (List.mem_of_getElem? (i := 16) rfl)) (jWr_50 _ (List.mem_of_getElem? (i := 17) rfl)) (jWr_50 _ (List.mem_of_getElem? (i := 18) rfl)) (jWr_1 _ (List.mem_of_getElem? (i := 5) rfl)) (jWr_50 _ (List.mem_of_getElem? (i := 19) rfl))) rfl rfl rfl (by decide +kernel) ⟨by rw [← hR]; show (1) + 1 ≤ 2 * ef + 9; omega, by rw [← hR]; show 8 + (1 + 11) + (20) ≤ 130 * ef + 560; omega⟩) ⟨fun a U g mk q => by obtain ⟨q0, q1, q2, qK, q10, q11, q12⟩ := q; exact ⟨q0, q1, q2, jG.calling g mk a qK, q10, q11, q12⟩, hh_57.recv (C := RX14) (T := TX14) (N := 74) hB16 rfl (by decide) hg_r0 hK, fun U hU hW => ⟨rfl, hU, hh_57.2.1, hG.step hW hU hh_57.1, hg_r0, (hh_57.2.2.1.sub (L1 := [(r0, 16, 29, .int wt_57), (r0, 16, 30, .int pe)]) [0, 5] rfl), by first | omega | (refine ⟨?_, ?_, ?_, ?_, ?_, ?_, ?_⟩ <;> (first | omega | rfl | assumption | decide | exact Or.inl rfl | exact Or.inr rfl | (simp only; omega)))⟩⟩ rfl rfl hl.1 rfl (lv_room (Nat.le_of_ble_eq_true rfl)) dX14_readMany_133 ⟨Nat.zero_le _, Nat.zero_le _⟩) hh_57.1 (fun q _ h => h) (fun q h => h) (fun u_58 t_58 H_58 locs_58 ht_58 hvm_58 hr_59 hb_58 hz_58 hk_58 hS_58 => ?_)
                      obtain ⟨qt_58, rfl⟩ : ∃ z, z = u_58 := ⟨_, rfl⟩
                      rw [ht_58] at hb_58
                      obtain ⟨hb_581, hb_582, hb_583, hb_584, hb_585⟩ := hb_58
                      have hh_58 : jSt (dC, dI) B base G0 G0 EX14_readManyKN s.heap 0 0 [(r0, 16, 29, .int qt_58), (r0, 16, 28, .int wp_57), (r0, 16, 31, .int wb_57), (r0, 16, 32, .int ws_57), (r0, 16, 26, .int wn_12), (r0, 16, 30, .int pe), (r0, 16, 22, .ref xb), (r0, 16, 23, .ref xe), (r0, 16, 19, .ref xn)] [(xn, 119, 3100, ca 1, mx_12)] [(jFt, jFT dC dI ca G0 xb xe)] H_58 locs_58 := ((hh_57.call hb_581 hb_582 hb_583 hb_584 hS_58 rfl (L1 := [(r0, 16, 28, .int wp_57), (r0, 16, 31, .int wb_57), (r0, 16, 32, .int ws_57), (r0, 16, 26, .int wn_12), (r0, 16, 30, .int pe), (r0, 16, 22, .ref xb), (r0, 16, 23, .ref xe), (r0, 16, 19, .ref xn)]) [1, 2, 3, 4, 5, 6, 7, 8] rfl rfl (M1 := [(xn, 119, 3100, ca 1, mx_12)]) [0] rfl rfl (I1 := [(jFt, jFT dC dI ca G0 xb xe)]) [0] rfl rfl).more hb_585)
                      clear hh_57 ht_58 hvm_58 hz_58 hk_58 hS_58 hb_581 hb_582 hb_583 hb_584 hb_585
                      obtain ⟨hr_59_0, hr_59_1⟩ := hr_59
                      refine lv_aload_n hx hb dX14_readMany_136 rfl (lv_at hl 2 rfl) ?_
                      refine va_calli (A0 := jA base) (H0 := s.heap) (va_runV (As := []) (rest := []) ⟨hx, hb, hml, hown, hts⟩ (uX14_here l dC dI ca base B hB hAp hB16 hB110 G0 H_58 r0 qt_58 pe) (cwV 0 hts (jgV (jWr_50 _ (List.mem_of_getElem? (i := 20) rfl)) (jWr_50 _ (List.mem_of_getElem? (i := 21) rfl)) (jWr_50 _ (List.mem_of_getElem? (i := 22) rfl)) (jWr_1 _ (List.mem_of_getElem? (i := 5) rfl)) (jWr_50 _ (List.mem_of_getElem? (i := 23) rfl))) rfl rfl rfl (by decide +kernel) ⟨by rw [← hR]; show (0) + 1 ≤ 2 * ef + 9; omega, by rw [← hR]; show 8 + (1 + 11) + (0) ≤ 130 * ef + 560; omega⟩) ⟨fun a U g mk q => by obtain ⟨q0, q1, q2, qK, q10, q11, q12⟩ := q; exact ⟨q0, q1, q2, jG.calling g mk a qK, q10, q11, q12⟩, hh_58.recv (C := RX14) (T := TX14) (N := 74) hB16 rfl (by decide) hg_r0 hK, fun U hU hW => ⟨rfl, hU, hh_58.2.1, hG.step hW hU hh_58.1, hg_r0, (hh_58.2.2.1.sub (L1 := [(r0, 16, 29, .int qt_58), (r0, 16, 30, .int pe)]) [0, 5] rfl), by first | omega | (refine ⟨?_, ?_, ?_, ?_⟩ <;> (first | omega | rfl | assumption | decide | exact Or.inl rfl | exact Or.inr rfl | (simp only; omega)))⟩⟩ rfl rfl hl.1 rfl (lv_room (Nat.le_of_ble_eq_true rfl)) dX14_readMany_137 ⟨Nat.zero_le _, Nat.zero_le _⟩) hh_58.1 (fun q _ h => h) (fun q h => h) (fun r_61 u_60 t_60 H_60 locs_60 ht_60 hvm_60 hr_61 hb_60 hz_60 hk_60 hS_60 => ?_)
                      rw [ht_60] at hb_60
                      obtain ⟨hb_601, hb_602, hb_603, hb_604, hb_605⟩ := hb_60
                      have hh_60 : jSt (dC, dI) B base G0 G0 EX14_readManyKN s.heap 0 0 [(r0, 16, 29, .int qt_58), (r0, 16, 28, .int wp_57), (r0, 16, 31, .int wb_57), (r0, 16, 32, .int ws_57), (r0, 16, 26, .int wn_12), (r0, 16, 30, .int pe), (r0, 16, 22, .ref xb), (r0, 16, 23, .ref xe), (r0, 16, 19, .ref xn)] [(xn, 119, 3100, ca 1, mx_12)] [(jFt, jFT dC dI ca G0 xb xe)] H_60 locs_60 := ((hh_58.call hb_601 hb_602 hb_603 hb_604 hS_60 rfl (L1 := [(r0, 16, 29, .int qt_58), (r0, 16, 28, .int wp_57), (r0, 16, 31, .int wb_57), (r0, 16, 32, .int ws_57), (r0, 16, 26, .int wn_12), (r0, 16, 30, .int pe), (r0, 16, 22, .ref xb), (r0, 16, 23, .ref xe), (r0, 16, 19, .ref xn)]) [0, 1, 2, 3, 4, 5, 6, 7, 8] rfl rfl (M1 := [(xn, 119, 3100, ca 1, mx_12)]) [0] rfl rfl (I1 := [(jFt, jFT dC dI ca G0 xb xe)]) [0] rfl rfl).more hb_605)
                      clear hh_58 ht_60 hvm_60 hz_60 hk_60 hS_60 hb_601 hb_602 hb_603 hb_604 hb_605
                      obtain ⟨hr_61_0, hr_61_1, hr_61_2⟩ := hr_61
                      refine lv_bipush (v := 58) hx hb dX14_readMany_140 (by decide) ?_
                      have C150 : ∀ (wb_62 : Int32) (H_62 : Heap) (locs_62 : List Loc), jSt (dC, dI) B base G0 G0 EX14_readManyKN s.heap 0 0 [(r0, 16, 31, .int wb_62), (r0, 16, 29, .int qt_58), (r0, 16, 28, .int wp_57), (r0, 16, 32, .int ws_57), (r0, 16, 26, .int wn_12), (r0, 16, 30, .int pe), (r0, 16, 22, .ref xb), (r0, 16, 23, .ref xe), (r0, 16, 19, .ref xn)] [(xn, 119, 3100, ca 1, mx_12)] [(jFt, jFT dC dI ca G0 xb xe)] H_62 locs_62 → (0 ≤ wb_62.toInt ∧ wb_62.toInt ≤ 1 ∧ qt_58.toInt + 1 ≤ pe.toInt + 4 * wb_62.toInt) → ∀ ls : Array Slot, lv_has ls 10 [(0, .ref r0), (1, .int a1), (2, .int a2), (3, .int r_3), (4, .int w0_6), (5, .int v5_12), (6, .int v6_12), (7, .int ws_57), (8, .int wp_57)] → W p l e R s m ([.ref r0, .int a1, .int a2] : List Value).toArray below meth c H_62 locs_62 0 0 Q (F0 m 150 ls []) := by
                        intro wb_62 H_62 locs_62 hh_62  hi_62 ls hl
                        obtain ⟨hi_62_0, hi_62_1, hi_62_2⟩ := hi_62
                        try clear hr_61_2
                        refine lv_aload_n hx hb dX14_readMany_150 rfl (lv_at hl 0 rfl) ?_
                        refine lv_dup hx hb dX14_readMany_151 rfl ?_
                        refine j7_read hx hb hown hK (C := RX14) (T := TX14) (N := 74) rfl hly_16_29 hlk_273 (hh_62.at 1 rfl) dX14_readMany_152 ?_
                        refine lv_iconst (v := 1) hx hb dX14_readMany_155 (by decide) ?_
                        refine lv_iadd hx hb dX14_readMany_156 ?_
                        refine lv_topi (fun z_63 ez_63 => ?_)
                        have hz_63 : z_63.toInt = qt_58.toInt + 1 := by rw [ez_63]; exact jb_iadd2 (rfl) ((by decide)) (by omega)
                        refine j7_put hx hb hown hK hh_62 hB hAp hB16 (C := RX14) (T := TX14) (N := 74) rfl (by decide) hg_r0 (i := 29) (by decide) hly_16_29 rfl hlk_273 rfl (ty := .int) (v := .int z_63) (by decide +kernel) rfl rfl (⟨_, rfl, by omega, by omega⟩) rfl (L1 := [(r0, 16, 31, .int wb_62), (r0, 16, 28, .int wp_57), (r0, 16, 32, .int ws_57), (r0, 16, 26, .int wn_12), (r0, 16, 30, .int pe), (r0, 16, 22, .ref xb), (r0, 16, 23, .ref xe), (r0, 16, 19, .ref xn)]) [0, 2, 3, 4, 5, 6, 7, 8] rfl rfl rfl dX14_readMany_157 (fun H_64 locs_64 hh_64 => ?_)
                        clear hh_62
                        exact C160 ws_57 wp_57 ws_57 wp_57 z_63 wp_57 wb_62 _ _ (hh_64.sub (L1 := [(r0, 16, 29, .int z_63), (r0, 16, 28, .int wp_57), (r0, 16, 31, .int wb_62), (r0, 16, 26, .int wn_12), (r0, 16, 30, .int pe), (r0, 16, 22, .ref xb), (r0, 16, 23, .ref xe), (r0, 16, 19, .ref xn)]) [0, 2, 1, 4, 5, 6, 7, 8] rfl (M1 := [(xn, 119, 3100, ca 1, mx_12)]) [0] rfl (I1 := [(jFt, jFT dC dI ca G0 xb xe)]) [0] rfl) (by first | omega | (refine ⟨?_, ?_, ?_, ?_, ?_, ?_, ?_, ?_, ?_, ?_⟩ <;> (first | omega | rfl | assumption | decide | exact Or.inl rfl | exact Or.inr rfl | (simp only; omega)))) _ (lv_sub hl [0, 1, 2, 3, 4, 5, 6, 7, 8, 7, 8] rfl)
                      refine lv_icmp_eq (tgt := 150) hx hb dX14_readMany_142 (by decide) (fun c_65 => ?_) (fun c_65 => ?_)
                      · skip
                        have c_65' : r_61.toInt = 58 := jb_eq (rfl) ((by decide)) c_65
                        first | (have hr_61_2q := hr_61_2.resolve_left (by omega); clear hr_61_2) | (have hr_61_2q := hr_61_2.resolve_right (by omega); clear hr_61_2) | try clear hr_61_2
                        exact C150 wb_57 _ _ (hh_60.sub (L1 := [(r0, 16, 31, .int wb_57), (r0, 16, 29, .int qt_58), (r0, 16, 28, .int wp_57), (r0, 16, 32, .int ws_57), (r0, 16, 26, .int wn_12), (r0, 16, 30, .int pe), (r0, 16, 22, .ref xb), (r0, 16, 23, .ref xe), (r0, 16, 19, .ref xn)]) [2, 0, 1, 3, 4, 5, 6, 7, 8] rfl (M1 := [(xn, 119, 3100, ca 1, mx_12)]) [0] rfl (I1 := [(jFt, jFT dC dI ca G0 xb xe)]) [0] rfl) (by first | omega | (refine ⟨?_, ?_, ?_⟩ <;> (first | omega | rfl | assumption | decide | exact Or.inl rfl | exact Or.inr rfl | (simp only; omega)))) _ (lv_sub hl [2, 3, 4, 5, 6, 7, 8, 1, 0] rfl)
                      · skip
                        have c_65' : r_61.toInt ≠ 58 := jb_eq_n (rfl) ((by decide)) c_65
                        try clear hr_61_2
                        refine lv_aload_n hx hb dX14_readMany_145 rfl (lv_at hl 2 rfl) ?_
                        refine lv_iconst (v := 1) hx hb dX14_readMany_146 (by decide) ?_
                        refine j7_put hx hb hown hK hh_60 hB hAp hB16 (C := RX14) (T := TX14) (N := 74) rfl (by decide) hg_r0 (i := 31) (by decide) hly_16_31 rfl hlk_288 rfl (ty := .boolean) (v := .int 1) (by decide +kernel) (jb_nz (Or.inr rfl)) (jb_fz (Or.inr rfl)) (⟨_, rfl, (Or.inr rfl)⟩) rfl (L1 := [(r0, 16, 29, .int qt_58), (r0, 16, 28, .int wp_57), (r0, 16, 32, .int ws_57), (r0, 16, 26, .int wn_12), (r0, 16, 30, .int pe), (r0, 16, 22, .ref xb), (r0, 16, 23, .ref xe), (r0, 16, 19, .ref xn)]) [0, 1, 3, 4, 5, 6, 7, 8] rfl rfl rfl dX14_readMany_147 (fun H_66 locs_66 hh_66 => ?_)
                        clear hh_60
                        exact C150 1 _ _ hh_66 (by first | omega | (refine ⟨?_, ?_, ?_⟩ <;> (first | omega | rfl | assumption | decide | exact Or.inl rfl | exact Or.inr rfl | (simp only; omega)))) _ (lv_sub hl [2, 3, 4, 5, 6, 7, 8, 1, 0] rfl)
                    refine lv_if_ne (tgt := 120) hx hb dX14_readMany_113 (by decide) (fun c_67 => ?_) (fun c_67 => ?_)
                    · skip
                      have c_67' : wb_56.toInt ≠ 0 := jb_ne (rfl) ((by decide)) c_67
                      obtain ⟨v_68, hv_68, hh_69⟩ := hh_56.pin (C := RX14) (T := TX14) (N := 74) hB16 rfl (by decide) hg_r0 (i := 32) (by decide) rfl
                      obtain ⟨stringFrom_70, rfl, hlostringFrom_70, hhistringFrom_70⟩ := hv_68
                      exact C120 qt_52 wp_12 wb_56 stringFrom_70 _ _ (hh_69.sub (L1 := [(r0, 16, 29, .int qt_52), (r0, 16, 28, .int wp_12), (r0, 16, 31, .int wb_56), (r0, 16, 32, .int stringFrom_70), (r0, 16, 26, .int wn_12), (r0, 16, 30, .int pe), (r0, 16, 22, .ref xb), (r0, 16, 23, .ref xe), (r0, 16, 19, .ref xn)]) [2, 4, 1, 0, 3, 5, 6, 7, 8] rfl (M1 := [(xn, 119, 3100, ca 1, mx_12)]) [0] rfl (I1 := [(jFt, jFT dC dI ca G0 xb xe)]) [0] rfl) (by first | omega | (refine ⟨?_, ?_, ?_, ?_, ?_, ?_, ?_, ?_⟩ <;> (first | omega | rfl | assumption | decide | exact Or.inl rfl | exact Or.inr rfl | (simp only; omega)))) _ (lv_sub hl [0, 1, 2, 3, 4, 5, 6, 7, 8] rfl)
                    · skip
                      have c_67' : wb_56.toInt = 0 := jb_ne_n (rfl) ((by decide)) c_67
                      refine lv_aload_n hx hb dX14_readMany_116 rfl (lv_at hl 0 rfl) ?_
                      refine va_callv (A0 := jA base) (H0 := s.heap) (va_runV (As := []) (rest := []) ⟨hx, hb, hml, hown, hts⟩ (uX14_readString l dC dI ca base B hB hAp hB16 hB110 hB127 G0 H_56 r0 qt_52 pe wp_12 wb_56) (cwV 0 hts (jgV (jWr_51 _ (List.mem_of_getElem? (i := 7) rfl)) (jWr_51 _ (List.mem_of_getElem? (i := 8) rfl)) (jWr_51 _ (List.mem_of_getElem? (i := 9) rfl)) (jWr_1 _ (List.mem_of_getElem? (i := 5) rfl)) (jWr_51 _ (List.mem_of_getElem? (i := 10) rfl))) rfl rfl rfl (by decide +kernel) ⟨by rw [← hR]; show (6) + 1 ≤ 2 * ef + 9; omega, by rw [← hR]; show 8 + (4 + 11) + (206) ≤ 130 * ef + 560; omega⟩) ⟨fun a U g mk q => by obtain ⟨q0, q1, q2, qK, q10, q11, q12⟩ := q; exact ⟨q0, q1, q2, jG.calling g mk a qK, q10, q11, q12⟩, hh_56.recv (C := RX14) (T := TX14) (N := 74) hB16 rfl (by decide) hg_r0 hK, fun U hU hW => ⟨rfl, hU, hh_56.2.1, hG.step hW hU hh_56.1, hg_r0, (hh_56.2.2.1.sub (L1 := [(r0, 16, 29, .int qt_52), (r0, 16, 30, .int pe), (r0, 16, 28, .int wp_12), (r0, 16, 31, .int wb_56)]) [1, 4, 3, 0] rfl), by first | omega | (refine ⟨?_, ?_, ?_, ?_, ?_, ?_, ?_, ?_⟩ <;> (first | omega | rfl | assumption | decide | exact Or.inl rfl | exact Or.inr rfl | (simp only; omega)))⟩⟩ rfl rfl hl.1 rfl (lv_room (Nat.le_of_ble_eq_true rfl)) dX14_readMany_117 ⟨Nat.zero_le _, Nat.zero_le _⟩) hh_56.1 (fun q _ h => h) (fun q h => h) (fun u_71 t_71 H_71 locs_71 ht_71 hvm_71 hr_72 hb_71 hz_71 hk_71 hS_71 => ?_)
                      obtain ⟨qt_71, qp_71, qb_71, qs_71⟩ := u_71
                      rw [ht_71] at hb_71
                      obtain ⟨hb_711, hb_712, hb_713, hb_714, hb_715⟩ := hb_71
                      have hh_71 : jSt (dC, dI) B base G0 G0 EX14_readManyKN s.heap 0 0 [(r0, 16, 29, .int qt_71), (r0, 16, 28, .int qp_71), (r0, 16, 31, .int qb_71), (r0, 16, 32, .int qs_71), (r0, 16, 26, .int wn_12), (r0, 16, 30, .int pe), (r0, 16, 22, .ref xb), (r0, 16, 23, .ref xe), (r0, 16, 19, .ref xn)] [(xn, 119, 3100, ca 1, mx_12)] [(jFt, jFT dC dI ca G0 xb xe)] H_71 locs_71 := ((hh_56.call hb_711 hb_712 hb_713 hb_714 hS_71 rfl (L1 := [(r0, 16, 26, .int wn_12), (r0, 16, 30, .int pe), (r0, 16, 22, .ref xb), (r0, 16, 23, .ref xe), (r0, 16, 19, .ref xn)]) [2, 4, 5, 6, 7] rfl rfl (M1 := [(xn, 119, 3100, ca 1, mx_12)]) [0] rfl rfl (I1 := [(jFt, jFT dC dI ca G0 xb xe)]) [0] rfl rfl).more hb_715)
                      clear hh_56 ht_71 hvm_71 hz_71 hk_71 hS_71 hb_711 hb_712 hb_713 hb_714 hb_715
                      try simp only at hr_72
                      obtain ⟨hr_72_0, hr_72_1, hr_72_2, hr_72_3, hr_72_4, hr_72_5, hr_72_6⟩ := hr_72
                      exact C120 qt_71 qp_71 qb_71 qs_71 _ _ hh_71 (by first | omega | (refine ⟨?_, ?_, ?_, ?_, ?_, ?_, ?_, ?_⟩ <;> (first | omega | rfl | assumption | decide | exact Or.inl rfl | exact Or.inr rfl | (simp only; omega)))) _ (lv_sub hl [0, 1, 2, 3, 4, 5, 6, 7, 8] rfl)
                  refine lv_icmp_eq (tgt := 109) hx hb dX14_readMany_101 (by decide) (fun c_73 => ?_) (fun c_73 => ?_)
                  · skip
                    have c_73' : r_55.toInt = 34 := jb_eq (rfl) ((by decide)) c_73
                    first | (have hr_55_2q := hr_55_2.resolve_left (by omega); clear hr_55_2) | (have hr_55_2q := hr_55_2.resolve_right (by omega); clear hr_55_2) | try clear hr_55_2
                    exact C109 wb_12 _ _ (hh_54.sub (L1 := [(r0, 16, 31, .int wb_12), (r0, 16, 29, .int qt_52), (r0, 16, 26, .int wn_12), (r0, 16, 28, .int wp_12), (r0, 16, 30, .int pe), (r0, 16, 22, .ref xb), (r0, 16, 23, .ref xe), (r0, 16, 19, .ref xn)]) [3, 0, 1, 2, 4, 5, 6, 7] rfl (M1 := [(xn, 119, 3100, ca 1, mx_12)]) [0] rfl (I1 := [(jFt, jFT dC dI ca G0 xb xe)]) [0] rfl) (by first | omega | (refine ⟨?_, ?_, ?_, ?_⟩ <;> (first | omega | rfl | assumption | decide | exact Or.inl rfl | exact Or.inr rfl | (simp only; omega)))) _ (lv_sub hl [2, 3, 4, 5, 6, 7, 8, 1, 0] rfl)
                  · skip
                    have c_73' : r_55.toInt ≠ 34 := jb_eq_n (rfl) ((by decide)) c_73
                    try clear hr_55_2
                    refine lv_aload_n hx hb dX14_readMany_104 rfl (lv_at hl 2 rfl) ?_
                    refine lv_iconst (v := 1) hx hb dX14_readMany_105 (by decide) ?_
                    refine j7_put hx hb hown hK hh_54 hB hAp hB16 (C := RX14) (T := TX14) (N := 74) rfl (by decide) hg_r0 (i := 31) (by decide) hly_16_31 rfl hlk_288 rfl (ty := .boolean) (v := .int 1) (by decide +kernel) (jb_nz (Or.inr rfl)) (jb_fz (Or.inr rfl)) (⟨_, rfl, (Or.inr rfl)⟩) rfl (L1 := [(r0, 16, 29, .int qt_52), (r0, 16, 26, .int wn_12), (r0, 16, 28, .int wp_12), (r0, 16, 30, .int pe), (r0, 16, 22, .ref xb), (r0, 16, 23, .ref xe), (r0, 16, 19, .ref xn)]) [0, 1, 2, 4, 5, 6, 7] rfl rfl rfl dX14_readMany_106 (fun H_74 locs_74 hh_74 => ?_)
                    clear hh_54
                    exact C109 1 _ _ hh_74 (by first | omega | (refine ⟨?_, ?_, ?_, ?_⟩ <;> (first | omega | rfl | assumption | decide | exact Or.inl rfl | exact Or.inr rfl | (simp only; omega)))) _ (lv_sub hl [2, 3, 4, 5, 6, 7, 8, 1, 0] rfl)
        exact L69 (((pe.toInt - (qt_7 : Int32).toInt).toNat : Int) + (1 - (pb : Int32).toInt) + (1 - (pb : Int32).toInt) : Int).toNat.succ (-1) 1 qt_7 qn_2 pp pb nx_2 _ _ (hh_9.sub (L1 := [(r0, 16, 29, .int qt_7), (r0, 16, 26, .int qn_2), (r0, 16, 28, .int pp), (r0, 16, 31, .int pb), (r0, 16, 30, .int pe), (r0, 16, 22, .ref xb), (r0, 16, 23, .ref xe), (r0, 16, 19, .ref xn)]) [0, 1, 3, 4, 2, 5, 6, 7] rfl (M1 := [(xn, 119, 3100, ca 1, nx_2)]) [0] rfl (I1 := [(jFt, jFT dC dI ca G0 xb xe)]) [0] rfl) (Or.inr rfl) (by first | omega | (refine ⟨?_, ?_, ?_, ?_, ?_, ?_, ?_, ?_, ?_, ?_, ?_, ?_, ?_⟩ <;> (first | omega | rfl | assumption | decide | exact Or.inl rfl | exact Or.inr rfl | (simp only; omega)))) (by omega) _ (lv_sub hl [3, 4, 5, 6, 2, 1, 0] rfl)
      · skip
        have c_11' : r_10.toInt = w0_6.toInt := jb_ne_n (rfl) (rfl) c_11
        first | (have hr_10_2q := hr_10_2.resolve_left (by omega); clear hr_10_2) | (have hr_10_2q := hr_10_2.resolve_right (by omega); clear hr_10_2) | try clear hr_10_2
        refine lv_aload_n hx hb dX14_readMany_51 rfl (lv_at hl 1 rfl) ?_
        refine lv_dup hx hb dX14_readMany_52 rfl ?_
        refine j7_read hx hb hown hK (C := RX14) (T := TX14) (N := 74) rfl hly_16_29 hlk_273 (hh_9.at 0 rfl) dX14_readMany_53 ?_
        refine lv_iconst (v := 1) hx hb dX14_readMany_56 (by decide) ?_
        refine lv_iadd hx hb dX14_readMany_57 ?_
        refine lv_topi (fun z_75 ez_75 => ?_)
        have hz_75 : z_75.toInt = qt_7.toInt + 1 := by rw [ez_75]; exact jb_iadd2 (rfl) ((by decide)) (by omega)
        refine j7_put hx hb hown hK hh_9 hB hAp hB16 (C := RX14) (T := TX14) (N := 74) rfl (by decide) hg_r0 (i := 29) (by decide) hly_16_29 rfl hlk_273 rfl (ty := .int) (v := .int z_75) (by decide +kernel) rfl rfl (⟨_, rfl, by omega, by omega⟩) rfl (L1 := [(r0, 16, 26, .int qn_2), (r0, 16, 30, .int pe), (r0, 16, 28, .int pp), (r0, 16, 31, .int pb), (r0, 16, 22, .ref xb), (r0, 16, 23, .ref xe), (r0, 16, 19, .ref xn)]) [1, 2, 3, 4, 5, 6, 7] rfl rfl rfl dX14_readMany_58 (fun H_76 locs_76 hh_76 => ?_)
        clear hh_9
        refine lv_iload_n hx hb dX14_readMany_61 rfl (lv_at hl 4 rfl) ?_
        rw [hQ]
        exact W.iret (v := r_3) hx hb hr (fun t ht hW => ⟨⟨r_3, (z_75, qn_2, pp, pb, nx_2), rfl, by (try dsimp only); first | omega | (refine ⟨?_, ?_, ?_, ?_, ?_, ?_, ?_, ?_, ?_, ?_, ?_⟩ <;> (first | omega | rfl | assumption | decide | exact Or.inl rfl | exact Or.inr rfl | (simp only; omega))), ⟨⟨hh_76.rt (M1 := [(r0, 16, 29, .int z_75), (r0, 16, 26, .int qn_2), (r0, 16, 28, .int pp), (r0, 16, 31, .int pb)]) [0, 1, 3, 4] rfl ht, by rw [ht]; exact hh_76.2.2.2.2.2.2.2.1.sub [0] rfl⟩, by rw [ht]; exact hh_76.2.2.2.2.2.2.2.2.sub (L1 := [(jFt, jFT dC dI ca G0 xb xe)]) [0] rfl⟩⟩, by rw [ht]; try exact hh_76.1.1, fun q h9 hq => by rw [ht]; try exact hh_76.1.2.1 q h9 hq⟩) hh_76.1.2.2 dX14_readMany_62
    refine lv_if_eq (tgt := 34) hx hb dX14_readMany_26 (by decide) (fun c_77 => ?_) (fun c_77 => ?_)
    · skip
      have c_77' : a1.toInt = 0 := jb_eq (rfl) ((by decide)) c_77
      refine lv_bipush (v := 93) hx hb dX14_readMany_34 (by decide) ?_
      exact C36 93 _ _ hh_5 (by first | omega | (refine ⟨?_, ?_⟩ <;> (first | omega | rfl | assumption | decide | exact Or.inl rfl | exact Or.inr rfl | (simp only; omega)))) _ (lv_sub hl [1, 2, 3, 0] rfl)
    · skip
      have c_77' : a1.toInt ≠ 0 := jb_eq_n (rfl) ((by decide)) c_77
      refine lv_bipush (v := 125) hx hb dX14_readMany_29 (by decide) ?_
      refine lv_goto (tgt := 36) hx hb dX14_readMany_31 (by decide) ?_
      exact C36 125 _ _ hh_5 (by first | omega | (refine ⟨?_, ?_⟩ <;> (first | omega | rfl | assumption | decide | exact Or.inl rfl | exact Or.inr rfl | (simp only; omega)))) _ (lv_sub hl [1, 2, 3, 0] rfl)
  refine lv_if_eq (tgt := 10) hx hb dX14_readMany_2 (by decide) (fun c_78 => ?_) (fun c_78 => ?_)
  · skip
    have c_78' : a1.toInt = 0 := jb_eq (rfl) ((by decide)) c_78
    refine lv_iconst (v := 5) hx hb dX14_readMany_10 (by decide) ?_
    exact C11 5 _ _ hh (trivial) _ (lv_sub hl [0, 1, 2] rfl)
  · skip
    have c_78' : a1.toInt ≠ 0 := jb_eq_n (rfl) ((by decide)) c_78
    refine lv_bipush (v := 6) hx hb dX14_readMany_5 (by decide) ?_
    refine lv_goto (tgt := 11) hx hb dX14_readMany_7 (by decide) ?_
    exact C11 6 _ _ hh (trivial) _ (lv_sub hl [0, 1, 2] rfl)
theorem aX14_readValueManyKN (l : Launch) (dC : Nat → ClassId) (dI : Nat → Nat → Nat) (ca : Nat → ClassId) (base : Nat) (B : jF) (hB : jBok B) (hAp : jAp (dC, dI)) (hB16 : ∀ n G a H, B 16 n G a H ↔ jOb (dC, dI) 16 74 (F16 n G) a H) (hB110 : ∀ n G a H, B 110 n G a H ↔ jAr (dC, dI) (ca 1) (fun j z => 0 ≤ z.toInt ∧ z.toInt ≤ 255) n a H) (hB117 : ∀ n G a H, B 117 n G a H ↔ jAr (dC, dI) (ca 1) (fun j z => True) n a H) (hB118 : ∀ n G a H, B 118 n G a H ↔ jAr (dC, dI) (ca 1) (fun j z => -1 ≤ z.toInt ∧ z.toInt ≤ 3099) n a H) (hB119 : ∀ n G a H, B 119 n G a H ↔ jAr (dC, dI) (ca 1) (fun j z => z.toInt = -1 ∨ z.toInt = 0 ∨ ((j : Nat) < z.toInt ∧ z.toInt ≤ 3099)) n a H) (hB120 : ∀ n G a H, B 120 n G a H ↔ jAr (dC, dI) (ca 1) (fun j z => 0 ≤ z.toInt ∧ z.toInt ≤ 3300) n a H) (hB121 : ∀ n G a H, B 121 n G a H ↔ jAr (dC, dI) (ca 1) (fun j z => 0 ≤ z.toInt ∧ z.toInt ≤ 3300) n a H) (hB122 : ∀ n G a H, B 122 n G a H ↔ jAr (dC, dI) (ca 1) (fun j z => 0 ≤ z.toInt ∧ z.toInt ≤ 3100) n a H) (hB123 : ∀ n G a H, B 123 n G a H ↔ jAr (dC, dI) (ca 1) (fun j z => 0 ≤ z.toInt ∧ z.toInt ≤ 3100) n a H) (hB124 : ∀ n G a H, B 124 n G a H ↔ jAr (dC, dI) (ca 3) (fun j z => (z = 0 ∨ z = 1)) n a H) (hB125 : ∀ n G a H, B 125 n G a H ↔ jAr (dC, dI) (ca 1) (fun j z => True) n a H) (hB127 : ∀ n G a H, B 127 n G a H ↔ jAr (dC, dI) (ca 1) (fun j z => True) n a H) : ∀ ef, qX14_readValueKN l dC dI ca base B ef ∧ qX14_readManyKN l dC dI ca base B ef := fun ef => Nat.strongRecOn ef (fun e ih => by
  have hV : qX14_readValueKN l dC dI ca base B e := fun G0 H0 => uX14_readValueKN l dC dI ca base B hB hAp hB16 hB110 hB117 hB118 hB119 hB120 hB121 hB122 hB123 hB124 hB125 hB127 e (fun e1 h => (ih e1 h).2) G0 H0
  exact ⟨hV, fun G0 H0 => uX14_readManyKN l dC dI ca base B hB hAp hB16 hB110 hB117 hB118 hB119 hB120 hB121 hB122 hB123 hB124 hB125 hB127 e hV G0 H0⟩)
theorem aX14_readValueKN (l : Launch) (dC : Nat → ClassId) (dI : Nat → Nat → Nat) (ca : Nat → ClassId) (base : Nat) (B : jF) (hB : jBok B) (hAp : jAp (dC, dI)) (hB16 : ∀ n G a H, B 16 n G a H ↔ jOb (dC, dI) 16 74 (F16 n G) a H) (hB110 : ∀ n G a H, B 110 n G a H ↔ jAr (dC, dI) (ca 1) (fun j z => 0 ≤ z.toInt ∧ z.toInt ≤ 255) n a H) (hB117 : ∀ n G a H, B 117 n G a H ↔ jAr (dC, dI) (ca 1) (fun j z => True) n a H) (hB118 : ∀ n G a H, B 118 n G a H ↔ jAr (dC, dI) (ca 1) (fun j z => -1 ≤ z.toInt ∧ z.toInt ≤ 3099) n a H) (hB119 : ∀ n G a H, B 119 n G a H ↔ jAr (dC, dI) (ca 1) (fun j z => z.toInt = -1 ∨ z.toInt = 0 ∨ ((j : Nat) < z.toInt ∧ z.toInt ≤ 3099)) n a H) (hB120 : ∀ n G a H, B 120 n G a H ↔ jAr (dC, dI) (ca 1) (fun j z => 0 ≤ z.toInt ∧ z.toInt ≤ 3300) n a H) (hB121 : ∀ n G a H, B 121 n G a H ↔ jAr (dC, dI) (ca 1) (fun j z => 0 ≤ z.toInt ∧ z.toInt ≤ 3300) n a H) (hB122 : ∀ n G a H, B 122 n G a H ↔ jAr (dC, dI) (ca 1) (fun j z => 0 ≤ z.toInt ∧ z.toInt ≤ 3100) n a H) (hB123 : ∀ n G a H, B 123 n G a H ↔ jAr (dC, dI) (ca 1) (fun j z => 0 ≤ z.toInt ∧ z.toInt ≤ 3100) n a H) (hB124 : ∀ n G a H, B 124 n G a H ↔ jAr (dC, dI) (ca 3) (fun j z => (z = 0 ∨ z = 1)) n a H) (hB125 : ∀ n G a H, B 125 n G a H ↔ jAr (dC, dI) (ca 1) (fun j z => True) n a H) (hB127 : ∀ n G a H, B 127 n G a H ↔ jAr (dC, dI) (ca 1) (fun j z => True) n a H) : ∀ ef, qX14_readValueKN l dC dI ca base B ef := fun ef => (aX14_readValueManyKN l dC dI ca base B hB hAp hB16 hB110 hB117 hB118 hB119 hB120 hB121 hB122 hB123 hB124 hB125 hB127 ef).1
end
