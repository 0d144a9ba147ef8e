section
def EX4_valueP : List (Nat × Nat) := [(6, 7), (6, 8), (6, 11), (140, 0), (141, 0), (142, 0), (143, 0), (144, 0), (145, 0), (146, 0)]
def EX4_holderP : List (Nat × Nat) := [(6, 7), (6, 8), (6, 11), (140, 0), (141, 0), (142, 0), (143, 0), (144, 0), (145, 0), (146, 0)]
def qX4_valueP (l : Launch) (dC : Nat → ClassId) (dI : Nat → Nat → Nat) (ca : Nat → ClassId) (base : Nat) (B : jF) (ef : Nat) : Prop := ∀ (G0 : jT) (H0 : Heap) (r0 : Nat) (a1 : Int32) (rb : Nat) (n_rb : Nat) (pe : Int32) (pt : Int32) (pv : Int32) (pu : Int32) (wk : Nat) (wi : Nat) (wz : Nat) (jkf : Nat) (jks : Nat) (fk : Nat → Int32) (fi : Nat → Int32) (fz : Nat → Int32) (fa : Nat → Int32) (fs : Nat → Int32), Met l yX4_value (jw yX4_value cX4_value 4 (some .int)) ({ frames := 2 * ef + 8, cells := 0, slots := 0, locals := 130 * ef + 500 }) (va_Pc [.ref r0, .int a1] (fun U => U.heap = H0 ∧ jX B base G0 [] H0 ∧ jG dC dI ca base U ∧ G0 r0 = some (6, 0) ∧ G0 rb = some (100, n_rb) ∧ G0 wk = some (140, 1502) ∧ G0 wi = some (141, 1502) ∧ G0 wz = some (142, 1502) ∧ G0 jkf = some (144, 1502) ∧ G0 jks = some (145, 1502) ∧ jP (dC, dI) G0 H0 [(r0, 6, 9, .ref rb), (r0, 6, 10, .int pe), (r0, 6, 11, .int pt), (r0, 6, 7, .int pv), (r0, 6, 8, .int pu), (r0, 6, 0, .ref wk), (r0, 6, 1, .ref wi), (r0, 6, 2, .ref wz), (r0, 6, 4, .ref jkf), (r0, 6, 5, .ref jks)] ∧ jMc (dC, dI) G0 H0 [(wk, 140, 1502, ca 1, fk), (wi, 141, 1502, ca 1, fi), (wz, 142, 1502, ca 1, fz), (jkf, 144, 1502, ca 1, fa), (jks, 145, 1502, ca 1, fs)] ∧ 0 ≤ pe.toInt ∧ pe.toInt ≤ n_rb ∧ n_rb ≤ 3000 ∧ 0 ≤ pt.toInt ∧ pt.toInt ≤ 19000 ∧ pt.toInt ≤ pe.toInt ∧ 0 ≤ pv.toInt ∧ pv.toInt ≤ 1502 ∧ 0 ≤ pu.toInt ∧ pu.toInt ≤ 3000 ∧ a1.toInt = 10 - ef ∧ ef ≤ 10)) (va_Qi (S := Int32 × Int32 × Int32 × (Nat → Int32) × (Nat → Int32) × (Nat → Int32) × (Nat → Int32) × (Nat → Int32)) (fun r u => (-1 ≤ r.toInt ∧ r.toInt ≤ 1501 ∧ pt.toInt ≤ u.1.toInt ∧ u.1.toInt ≤ pe.toInt + 4 ∧ (r.toInt = -1 ∨ u.1.toInt ≤ pe.toInt) ∧ u.2.1.toInt ≤ 1502 ∧ u.2.2.1.toInt ≤ 3000 ∧ jVr (fk, fi, fz, fa, fs) pv.toInt pu.toInt pt.toInt (u.2.2.2.1, u.2.2.2.2.1, u.2.2.2.2.2.1, u.2.2.2.2.2.2.1, u.2.2.2.2.2.2.2) u.2.1.toInt u.2.2.1.toInt u.1.toInt r.toInt)) (fun u t => jRt (dC, dI) B base G0 EX4_valueP H0 [(r0, 6, 11, .int u.1), (r0, 6, 7, .int u.2.1), (r0, 6, 8, .int u.2.2.1)] t.heap ∧ jMc (dC, dI) G0 t.heap [(wk, 140, 1502, ca 1, u.2.2.2.1), (wi, 141, 1502, ca 1, u.2.2.2.2.1), (wz, 142, 1502, ca 1, u.2.2.2.2.2.1), (jkf, 144, 1502, ca 1, u.2.2.2.2.2.2.1), (jks, 145, 1502, ca 1, u.2.2.2.2.2.2.2)]) (jA base)) 0 0 (jA base)
def qX4_holderP (l : Launch) (dC : Nat → ClassId) (dI : Nat → Nat → Nat) (ca : Nat → ClassId) (base : Nat) (B : jF) (ef : Nat) : Prop := ∀ (G0 : jT) (H0 : Heap) (r0 : Nat) (a1 : Int32) (a2 : Int32) (rb : Nat) (n_rb : Nat) (pe : Int32) (pt : Int32) (pv : Int32) (pu : Int32) (wk : Nat) (wi : Nat) (wz : Nat) (jkf : Nat) (jks : Nat) (fk : Nat → Int32) (fi : Nat → Int32) (fz : Nat → Int32) (fa : Nat → Int32) (fs : Nat → Int32), Met l yX4_holder (jw yX4_holder cX4_holder 11 (some .int)) ({ frames := 2 * ef + 9, cells := 0, slots := 0, locals := 130 * ef + 560 }) (va_Pc [.ref r0, .int a1, .int a2] (fun U => U.heap = H0 ∧ jX B base G0 [] H0 ∧ jG dC dI ca base U ∧ G0 r0 = some (6, 0) ∧ (a2 = 0 ∨ a2 = 1) ∧ G0 rb = some (100, n_rb) ∧ G0 wk = some (140, 1502) ∧ G0 wi = some (141, 1502) ∧ G0 wz = some (142, 1502) ∧ G0 jkf = some (144, 1502) ∧ G0 jks = some (145, 1502) ∧ jP (dC, dI) G0 H0 [(r0, 6, 9, .ref rb), (r0, 6, 10, .int pe), (r0, 6, 11, .int pt), (r0, 6, 7, .int pv), (r0, 6, 8, .int pu), (r0, 6, 0, .ref wk), (r0, 6, 1, .ref wi), (r0, 6, 2, .ref wz), (r0, 6, 4, .ref jkf), (r0, 6, 5, .ref jks)] ∧ jMc (dC, dI) G0 H0 [(wk, 140, 1502, ca 1, fk), (wi, 141, 1502, ca 1, fi), (wz, 142, 1502, ca 1, fz), (jkf, 144, 1502, ca 1, fa), (jks, 145, 1502, ca 1, fs)] ∧ 0 ≤ pe.toInt ∧ pe.toInt ≤ n_rb ∧ n_rb ≤ 3000 ∧ 0 ≤ pt.toInt ∧ pt.toInt ≤ 19000 ∧ pt.toInt < pe.toInt ∧ 0 ≤ pv.toInt ∧ pv.toInt ≤ 1502 ∧ 0 ≤ pu.toInt ∧ pu.toInt ≤ 3000 ∧ a1.toInt = 10 - ef ∧ ef ≤ 10)) (va_Qi (S := Int32 × Int32 × Int32 × (Nat → Int32) × (Nat → Int32) × (Nat → Int32) × (Nat → Int32) × (Nat → Int32)) (fun r u => (-1 ≤ r.toInt ∧ r.toInt ≤ 1501 ∧ pt.toInt ≤ u.1.toInt ∧ u.1.toInt ≤ pe.toInt + 4 ∧ (r.toInt = -1 ∨ u.1.toInt ≤ pe.toInt) ∧ u.2.1.toInt ≤ 1502 ∧ u.2.2.1.toInt ≤ 3000 ∧ jVr (fk, fi, fz, fa, fs) pv.toInt pu.toInt pt.toInt (u.2.2.2.1, u.2.2.2.2.1, u.2.2.2.2.2.1, u.2.2.2.2.2.2.1, u.2.2.2.2.2.2.2) u.2.1.toInt u.2.2.1.toInt u.1.toInt r.toInt)) (fun u t => jRt (dC, dI) B base G0 EX4_holderP H0 [(r0, 6, 11, .int u.1), (r0, 6, 7, .int u.2.1), (r0, 6, 8, .int u.2.2.1)] t.heap ∧ jMc (dC, dI) G0 t.heap [(wk, 140, 1502, ca 1, u.2.2.2.1), (wi, 141, 1502, ca 1, u.2.2.2.2.1), (wz, 142, 1502, ca 1, u.2.2.2.2.2.1), (jkf, 144, 1502, ca 1, u.2.2.2.2.2.2.1), (jks, 145, 1502, ca 1, u.2.2.2.2.2.2.2)]) (jA base)) 0 0 (jA base)
set_option maxHeartbeats 4000000 in
set_option maxRecDepth 20000 in
theorem uX4_valueP (l : Launch) (dC : Nat → ClassId) (dI : Nat → Nat → Nat) (ca : Nat → ClassId) (base : Nat) (B : jF) (hB : jBok B) (hAp : jAp (dC, dI)) (hB6 : ∀ n G a H, B 6 n G a H ↔ jOb (dC, dI) 6 12 (F6 n G) a H) (hB100 : ∀ n G a H, B 100 n G a H ↔ jAr (dC, dI) (ca 0) (fun j z => True) n a H) (hB140 : ∀ n G a H, B 140 n G a H ↔ jAr (dC, dI) (ca 1) (fun j z => True) n a H) (hB141 : ∀ n G a H, B 141 n G a H ↔ jAr (dC, dI) (ca 1) (fun j z => True) n a H) (hB142 : ∀ n G a H, B 142 n G a H ↔ jAr (dC, dI) (ca 1) (fun j z => True) n a H) (hB143 : ∀ n G a H, B 143 n G a H ↔ jAr (dC, dI) (ca 1) (fun j z => True) n a H) (hB144 : ∀ n G a H, B 144 n G a H ↔ jAr (dC, dI) (ca 1) (fun j z => 0 ≤ z.toInt ∧ z.toInt ≤ 3000) n a H) (hB145 : ∀ n G a H, B 145 n G a H ↔ jAr (dC, dI) (ca 1) (fun j z => True) n a H) (hB146 : ∀ n G a H, B 146 n G a H ↔ jAr (dC, dI) (ca 1) (fun j z => True) n a H) (ef : Nat) (ihM : ∀ e1, e1 < ef → qX4_holderP l dC dI ca base B e1) (G0 : jT) (H0 : Heap) (r0 : Nat) (a1 : Int32) (rb : Nat) (n_rb : Nat) (pe : Int32) (pt : Int32) (pv : Int32) (pu : Int32) (wk : Nat) (wi : Nat) (wz : Nat) (jkf : Nat) (jks : Nat) (fk : Nat → Int32) (fi : Nat → Int32) (fz : Nat → Int32) (fa : Nat → Int32) (fs : Nat → Int32) : Met l yX4_value (jw yX4_value cX4_value 4 (some .int)) ({ frames := 2 * ef + 8, cells := 0, slots := 0, locals := 130 * ef + 500 }) (va_Pc [.ref r0, .int a1] (fun U => U.heap = H0 ∧ jX B base G0 [] H0 ∧ jG dC dI ca base U ∧ G0 r0 = some (6, 0) ∧ G0 rb = some (100, n_rb) ∧ G0 wk = some (140, 1502) ∧ G0 wi = some (141, 1502) ∧ G0 wz = some (142, 1502) ∧ G0 jkf = some (144, 1502) ∧ G0 jks = some (145, 1502) ∧ jP (dC, dI) G0 H0 [(r0, 6, 9, .ref rb), (r0, 6, 10, .int pe), (r0, 6, 11, .int pt), (r0, 6, 7, .int pv), (r0, 6, 8, .int pu), (r0, 6, 0, .ref wk), (r0, 6, 1, .ref wi), (r0, 6, 2, .ref wz), (r0, 6, 4, .ref jkf), (r0, 6, 5, .ref jks)] ∧ jMc (dC, dI) G0 H0 [(wk, 140, 1502, ca 1, fk), (wi, 141, 1502, ca 1, fi), (wz, 142, 1502, ca 1, fz), (jkf, 144, 1502, ca 1, fa), (jks, 145, 1502, ca 1, fs)] ∧ 0 ≤ pe.toInt ∧ pe.toInt ≤ n_rb ∧ n_rb ≤ 3000 ∧ 0 ≤ pt.toInt ∧ pt.toInt ≤ 19000 ∧ pt.toInt ≤ pe.toInt ∧ 0 ≤ pv.toInt ∧ pv.toInt ≤ 1502 ∧ 0 ≤ pu.toInt ∧ pu.toInt ≤ 3000 ∧ a1.toInt = 10 - ef ∧ ef ≤ 10)) (va_Qi (S := Int32 × Int32 × Int32 × (Nat → Int32) × (Nat → Int32) × (Nat → Int32) × (Nat → Int32) × (Nat → Int32)) (fun r u => (-1 ≤ r.toInt ∧ r.toInt ≤ 1501 ∧ pt.toInt ≤ u.1.toInt ∧ u.1.toInt ≤ pe.toInt + 4 ∧ (r.toInt = -1 ∨ u.1.toInt ≤ pe.toInt) ∧ u.2.1.toInt ≤ 1502 ∧ u.2.2.1.toInt ≤ 3000 ∧ jVr (fk, fi, fz, fa, fs) pv.toInt pu.toInt pt.toInt (u.2.2.2.1, u.2.2.2.2.1, u.2.2.2.2.2.1, u.2.2.2.2.2.2.1, u.2.2.2.2.2.2.2) u.2.1.toInt u.2.2.1.toInt u.1.toInt r.toInt)) (fun u t => jRt (dC, dI) B base G0 EX4_valueP H0 [(r0, 6, 11, .int u.1), (r0, 6, 7, .int u.2.1), (r0, 6, 8, .int u.2.2.1)] t.heap ∧ jMc (dC, dI) G0 t.heap [(wk, 140, 1502, ca 1, u.2.2.2.1), (wi, 141, 1502, ca 1, u.2.2.2.2.1), (wz, 142, 1502, ca 1, u.2.2.2.2.2.1), (jkf, 144, 1502, ca 1, u.2.2.2.2.2.2.1), (jks, 145, 1502, ca 1, u.2.2.2.2.2.2.2)]) (jA base)) 0 0 (jA base) := by
  refine Met.ofW (cc := cX4_value) (maxL := 4) (ret := (some .int)) (by decide) rfl ?_
  intro p e s m args below meth c s₁ Bd hml hv
  obtain ⟨rfl, hH0, hX, hG, hg_r0, hg_rb, hg_wk, hg_wi, hg_wz, hg_jkf, hg_jks, hP0, hM0, hp0, hp1, hp2, hp3, hp4, hp5, hp6, hp7, hp8, hp9, hp10, hp11⟩ := hv
  have hK := hG.1
  have hx := Bd.exec
  have hb := Bd.bytes
  have hr := Bd.returns
  have hts := atoms_spec (ws := (jw yX4_value cX4_value 4 (some .int))) Bd.pre
  have htw : ∀ w ∈ jWl, w.before _ s = true := fun w h => hts w (List.mem_cons_of_mem _ h)
  have hown : s.vm.findClass RX4 = some m.cls := findClass_of_methodNamed Bd.named
  have hlocks := Bd.notSynchronized
  obtain ⟨Q, hQ⟩ : ∃ Q, Q = MQ below (va_Qi (S := Int32 × Int32 × Int32 × (Nat → Int32) × (Nat → Int32) × (Nat → Int32) × (Nat → Int32) × (Nat → Int32)) (fun r u => (-1 ≤ r.toInt ∧ r.toInt ≤ 1501 ∧ pt.toInt ≤ u.1.toInt ∧ u.1.toInt ≤ pe.toInt + 4 ∧ (r.toInt = -1 ∨ u.1.toInt ≤ pe.toInt) ∧ u.2.1.toInt ≤ 1502 ∧ u.2.2.1.toInt ≤ 3000 ∧ jVr (fk, fi, fz, fa, fs) pv.toInt pu.toInt pt.toInt (u.2.2.2.1, u.2.2.2.2.1, u.2.2.2.2.2.1, u.2.2.2.2.2.2.1, u.2.2.2.2.2.2.2) u.2.1.toInt u.2.2.1.toInt u.1.toInt r.toInt)) (fun u t => jRt (dC, dI) B base G0 EX4_valueP H0 [(r0, 6, 11, .int u.1), (r0, 6, 7, .int u.2.1), (r0, 6, 8, .int u.2.2.1)] t.heap ∧ jMc (dC, dI) G0 t.heap [(wk, 140, 1502, ca 1, u.2.2.2.1), (wi, 141, 1502, ca 1, u.2.2.2.2.1), (wz, 142, 1502, ca 1, u.2.2.2.2.2.1), (jkf, 144, 1502, ca 1, u.2.2.2.2.2.2.1), (jks, 145, 1502, ca 1, u.2.2.2.2.2.2.2)]) (jA base)) ([.ref r0, .int a1] : List Value).toArray s 0 0 (jA base) := ⟨_, rfl⟩
  rw [← hQ]
  have hl := lv_entry ([.ref r0, .int a1]) (n := 4) (Nat.le_of_ble_eq_true rfl)
  rw [lg_entry_eq]
  generalize (lg_sl ([.ref r0, .int a1]) ++ List.replicate (4 - (lg_sl ([.ref r0, .int a1])).length) Slot.unset).toArray = ls at hl ⊢
  have hl : lv_has ls 4 [(0, .ref r0), (1, .int a1)] := hl
  generalize hR : (headSpec (jw yX4_value cX4_value 4 (some .int)) ({ frames := 2 * ef + 8, cells := 0, slots := 0, locals := 130 * ef + 500 })).room = R
  subst hH0
  have hh : jSt (dC, dI) B base G0 G0 EX4_valueP s.heap 0 0 [(r0, 6, 9, .ref rb), (r0, 6, 10, .int pe), (r0, 6, 11, .int pt), (r0, 6, 7, .int pv), (r0, 6, 8, .int pu), (r0, 6, 0, .ref wk), (r0, 6, 1, .ref wi), (r0, 6, 2, .ref wz), (r0, 6, 4, .ref jkf), (r0, 6, 5, .ref jks)] [(wk, 140, 1502, ca 1, fk), (wi, 141, 1502, ca 1, fi), (wz, 142, 1502, ca 1, fz), (jkf, 144, 1502, ca 1, fa), (jks, 145, 1502, ca 1, fs)] [] s.heap [] := jSt.start hX hP0 hM0 jIs.nil
  clear hX hP0
  have hkm1 : ((-1) : Int32).toInt = (-1) := by decide
  have hk0 : (0 : Int32).toInt = 0 := by decide
  have hk1 : (1 : Int32).toInt = 1 := by decide
  have hk3 : (3 : Int32).toInt = 3 := by decide
  have hk5 : (5 : Int32).toInt = 5 := by decide
  have hk10 : (10 : Int32).toInt = 10 := by decide
  have hk34 : (34 : Int32).toInt = 34 := by decide
  have hk45 : (45 : Int32).toInt = 45 := by decide
  have hk91 : (91 : Int32).toInt = 91 := by decide
  have hk123 : (123 : Int32).toInt = 123 := by decide
  have hly_6_8 := htw (u_lay RX4 TX4 8) (jWc_wsX40 _ (u_in_lay (by decide)))
  have hlk_53 := (htw (.fieldLink RX4 53 "ProofServer$Json" "unitCount" "I") (jWr_19 _ (List.mem_of_getElem? (i := 14) rfl)))
  obtain ⟨str114, rstr114, hstr1140⟩ := hG.str (o := RX4) (k := 114) (tx := "true") (List.mem_of_getElem? (i := 727) (by decide +kernel))
  have hstr114 : jStr base str114 4 s s.heap := hstr1140
  obtain ⟨str120, rstr120, hstr1200⟩ := hG.str (o := RX4) (k := 120) (tx := "false") (List.mem_of_getElem? (i := 728) (by decide +kernel))
  have hstr120 : jStr base str120 5 s s.heap := hstr1200
  obtain ⟨str122, rstr122, hstr1220⟩ := hG.str (o := RX4) (k := 122) (tx := "null") (List.mem_of_getElem? (i := 729) (by decide +kernel))
  have hstr122 : jStr base str122 4 s s.heap := hstr1220
  have hrg_a1 := jb_rng a1
  refine lv_aload_n hx hb dX4_value_0 rfl (lv_at hl 0 rfl) ?_
  refine va_calli (A0 := jA base) (H0 := s.heap) (va_runV (As := []) (rest := []) ⟨hx, hb, hml, hown, hts⟩ (uX4_peek l dC dI ca base B hB hAp hB6 hB100 G0 s.heap r0 rb n_rb pe pt) (cwV 0 hts (jgV (jWr_19 _ (List.mem_of_getElem? (i := 19) rfl)) (jWr_19 _ (List.mem_of_getElem? (i := 20) rfl)) (jWr_19 _ (List.mem_of_getElem? (i := 21) rfl)) (jWr_1 _ (List.mem_of_getElem? (i := 22) rfl)) (jWr_19 _ (List.mem_of_getElem? (i := 22) rfl))) rfl rfl rfl (by decide +kernel) ⟨by rw [← hR]; show (0) + 1 ≤ 2 * ef + 8; omega, by rw [← hR]; show 8 + (1 + 11) + (0) ≤ 130 * ef + 500; omega⟩) ⟨fun a U g mk q => by obtain ⟨q0, q1, q2, qK, q10, q11, q12, q13⟩ := q; exact ⟨q0, q1, q2, jG.calling g mk a qK, q10, q11, q12, q13⟩, hh.recv (C := RX4) (T := TX4) (N := 12) hB6 rfl (by decide) hg_r0 hK, fun U hU hW => ⟨rfl, hU, hh.2.1, hG.step hW hU hh.1, hg_r0, hg_rb, (hh.2.2.1.sub (L1 := [(r0, 6, 9, .ref rb), (r0, 6, 10, .int pe), (r0, 6, 11, .int pt)]) [0, 1, 2] rfl), by first | omega | (refine ⟨?_, ?_, ?_, ?_, ?_⟩ <;> (first | omega | rfl | assumption | decide | exact Or.inl rfl | exact Or.inr rfl | (simp only; omega)))⟩⟩ rfl rfl hl.1 rfl (lv_room (Nat.le_of_ble_eq_true rfl)) dX4_value_1 ⟨Nat.zero_le _, Nat.zero_le _⟩) hh.1 (fun q _ h => h) (fun q h => h) (fun r_2 u_1 t_1 H_1 locs_1 ht_1 hvm_1 hr_2 hb_1 hz_1 hk_1 hS_1 => ?_)
  rw [ht_1] at hb_1
  obtain ⟨hb_11, hb_12, hb_13, hb_14, hb_15⟩ := hb_1
  have hh_1 : jSt (dC, dI) B base G0 G0 EX4_valueP s.heap 0 0 [(r0, 6, 9, .ref rb), (r0, 6, 10, .int pe), (r0, 6, 11, .int pt), (r0, 6, 7, .int pv), (r0, 6, 8, .int pu), (r0, 6, 0, .ref wk), (r0, 6, 1, .ref wi), (r0, 6, 2, .ref wz), (r0, 6, 4, .ref jkf), (r0, 6, 5, .ref jks)] [(wk, 140, 1502, ca 1, fk), (wi, 141, 1502, ca 1, fi), (wz, 142, 1502, ca 1, fz), (jkf, 144, 1502, ca 1, fa), (jks, 145, 1502, ca 1, fs)] [] H_1 locs_1 := ((hh.call hb_11 hb_12 hb_13 hb_14 hS_1 rfl (L1 := [(r0, 6, 9, .ref rb), (r0, 6, 10, .int pe), (r0, 6, 11, .int pt), (r0, 6, 7, .int pv), (r0, 6, 8, .int pu), (r0, 6, 0, .ref wk), (r0, 6, 1, .ref wi), (r0, 6, 2, .ref wz), (r0, 6, 4, .ref jkf), (r0, 6, 5, .ref jks)]) [0, 1, 2, 3, 4, 5, 6, 7, 8, 9] rfl rfl (M1 := [(wk, 140, 1502, ca 1, fk), (wi, 141, 1502, ca 1, fi), (wz, 142, 1502, ca 1, fz), (jkf, 144, 1502, ca 1, fa), (jks, 145, 1502, ca 1, fs)]) [0, 1, 2, 3, 4] rfl rfl (I1 := []) [] rfl rfl).more hb_15)
  clear hh ht_1 hvm_1 hz_1 hk_1 hS_1 hb_11 hb_12 hb_13 hb_14 hb_15
  obtain ⟨hr_2_0, hr_2_1, hr_2_2⟩ := hr_2
  refine lv_istore_n (lv' := [(2, .int r_2), (0, .ref r0), (1, .int a1)]) hx hb dX4_value_4 rfl hl (by decide) rfl (fun ls hl => ?_)
  refine lv_iload_n hx hb dX4_value_5 rfl (lv_at hl 0 rfl) ?_
  refine lv_bipush (v := 123) hx hb dX4_value_6 (by decide) ?_
  refine lv_icmp_eq (tgt := 17) hx hb dX4_value_8 (by decide) (fun c_3 => ?_) (fun c_3 => ?_)
  · skip
    have c_3' : r_2.toInt = 123 := jb_eq (rfl) ((by decide)) c_3
    first | (have hr_2_2q := hr_2_2.resolve_left (by omega); clear hr_2_2) | (have hr_2_2q := hr_2_2.resolve_right (by omega); clear hr_2_2) | skip
    refine lv_iload_n hx hb dX4_value_17 rfl (lv_at hl 2 rfl) ?_
    refine lv_bipush (v := 10) hx hb dX4_value_18 (by decide) ?_
    refine lv_icmp_ge (tgt := 44) hx hb dX4_value_20 (by decide) (fun c_4 => ?_) (fun c_4 => ?_)
    · skip
      have c_4' : a1.toInt ≥ 10 := jb_ge (rfl) ((by decide)) c_4
      refine lv_iconst (v := (-1)) hx hb dX4_value_44 (by decide) ?_
      rw [hQ]
      exact W.iret (v := (-1)) hx hb hr (fun t ht hW => ⟨⟨(-1), (pt, pv, pu, fk, fi, fz, fa, fs), rfl, by (try dsimp only); refine ⟨by omega, by omega, by omega, by omega, by omega, by omega, by omega, ?_⟩; exact jVr.no (by omega) (by omega) (by omega) (by omega), ⟨hh_1.rt (M1 := [(r0, 6, 11, .int pt), (r0, 6, 7, .int pv), (r0, 6, 8, .int pu)]) [2, 3, 4] rfl ht, by rw [ht]; exact hh_1.2.2.2.2.2.2.2.1.sub [0, 1, 2, 3, 4] rfl⟩⟩, by rw [ht]; try exact hh_1.1.1, fun q h9 hq => by rw [ht]; try exact hh_1.1.2.1 q h9 hq⟩) hh_1.1.2.2 dX4_value_45
    · skip
      have c_4' : a1.toInt < 10 := jb_ge_n (rfl) ((by decide)) c_4
      refine lv_aload_n hx hb dX4_value_23 rfl (lv_at hl 1 rfl) ?_
      refine lv_iload_n hx hb dX4_value_24 rfl (lv_at hl 2 rfl) ?_
      refine lv_iconst (v := 1) hx hb dX4_value_25 (by decide) ?_
      refine lv_iadd hx hb dX4_value_26 ?_
      refine lv_topi (fun z_5 ez_5 => ?_)
      have hz_5 : z_5.toInt = a1.toInt + 1 := by rw [ez_5]; exact jb_iadd2 (rfl) ((by decide)) (by omega)
      refine lv_iload_n hx hb dX4_value_27 rfl (lv_at hl 0 rfl) ?_
      refine lv_bipush (v := 123) hx hb dX4_value_28 (by decide) ?_
      refine lv_icmp_ne (tgt := 37) hx hb dX4_value_30 (by decide) (fun c_6 => ?_) (fun c_6 => ?_)
      · skip
        have c_6' : r_2.toInt ≠ 123 := jb_ne (rfl) ((by decide)) c_6
        refine lv_iconst (v := 0) hx hb dX4_value_37 (by decide) ?_
        refine va_calli (A0 := jA base) (H0 := s.heap) (va_runV (As := [.int z_5, .int 0]) (rest := []) ⟨hx, hb, hml, hown, hts⟩ (ihM (ef - 1) (by omega) G0 H_1 r0 z_5 0 rb n_rb pe pt pv pu wk wi wz jkf jks fk fi fz fa fs) (cwV 2 hts (jgV (jWr_20 _ (List.mem_of_getElem? (i := 5) rfl)) (jWr_20 _ (List.mem_of_getElem? (i := 6) rfl)) (jWr_20 _ (List.mem_of_getElem? (i := 7) rfl)) (jWr_1 _ (List.mem_of_getElem? (i := 22) rfl)) (jWr_23 _ (List.mem_of_getElem? (i := 5) rfl))) rfl rfl rfl (by decide +kernel) ⟨by rw [← hR]; show (2 * (ef - 1) + 9) + 1 ≤ 2 * ef + 8; omega, by rw [← hR]; show 8 + (11 + 11) + (130 * (ef - 1) + 560) ≤ 130 * ef + 500; omega⟩) ⟨fun a U g mk q => by obtain ⟨q0, q1, q2, qK, q10, q11, q12, q13, q14, q15, q16, q17, q18, q19, q20⟩ := q; exact ⟨q0, q1, q2, jG.calling g mk a qK, q10, q11, q12, q13, q14, q15, q16, q17, q18, q19, q20⟩, hh_1.recv (C := RX4) (T := TX4) (N := 12) hB6 rfl (by decide) hg_r0 hK, fun U hU hW => ⟨rfl, hU, hh_1.2.1, hG.step hW hU hh_1.1, hg_r0, (Or.inl rfl), hg_rb, hg_wk, hg_wi, hg_wz, hg_jkf, hg_jks, (hh_1.2.2.1.sub (L1 := [(r0, 6, 9, .ref rb), (r0, 6, 10, .int pe), (r0, 6, 11, .int pt), (r0, 6, 7, .int pv), (r0, 6, 8, .int pu), (r0, 6, 0, .ref wk), (r0, 6, 1, .ref wi), (r0, 6, 2, .ref wz), (r0, 6, 4, .ref jkf), (r0, 6, 5, .ref jks)]) [0, 1, 2, 3, 4, 5, 6, 7, 8, 9] rfl), (hh_1.2.2.2.2.2.2.2.1.sub (L1 := [(wk, 140, 1502, ca 1, fk), (wi, 141, 1502, ca 1, fi), (wz, 142, 1502, ca 1, fz), (jkf, 144, 1502, ca 1, fa), (jks, 145, 1502, ca 1, fs)]) [0, 1, 2, 3, 4] rfl), by first | omega | (refine ⟨?_, ?_, ?_, ?_, ?_, ?_, ?_, ?_, ?_, ?_, ?_, ?_⟩ <;> (first | omega | rfl | assumption | decide | exact Or.inl rfl | exact Or.inr rfl | (simp only; omega)))⟩⟩ rfl rfl hl.1 rfl (lv_room (Nat.le_of_ble_eq_true rfl)) dX4_value_38 ⟨Nat.zero_le _, Nat.zero_le _⟩) hh_1.1 (fun q _ h => h) (fun q h => h) (fun r_8 u_7 t_7 H_7 locs_7 ht_7 hvm_7 hr_8 hb_7 hz_7 hk_7 hS_7 => ?_)
        obtain ⟨qt_7, qv_7, qu_7, gk_7, gi_7, gz_7, ga_7, gs_7⟩ := u_7
        rw [ht_7] at hb_7
        obtain ⟨⟨hb_71, hb_72, hb_73, hb_74, hb_75⟩, hb_76⟩ := hb_7
        have hh_7 : jSt (dC, dI) B base G0 G0 EX4_valueP s.heap 0 0 [(r0, 6, 11, .int qt_7), (r0, 6, 7, .int qv_7), (r0, 6, 8, .int qu_7), (r0, 6, 9, .ref rb), (r0, 6, 10, .int pe), (r0, 6, 0, .ref wk), (r0, 6, 1, .ref wi), (r0, 6, 2, .ref wz), (r0, 6, 4, .ref jkf), (r0, 6, 5, .ref jks)] [(wk, 140, 1502, ca 1, gk_7), (wi, 141, 1502, ca 1, gi_7), (wz, 142, 1502, ca 1, gz_7), (jkf, 144, 1502, ca 1, ga_7), (jks, 145, 1502, ca 1, gs_7)] [] H_7 locs_7 := ((hh_1.call hb_71 hb_72 hb_73 hb_74 hS_7 rfl (L1 := [(r0, 6, 9, .ref rb), (r0, 6, 10, .int pe), (r0, 6, 0, .ref wk), (r0, 6, 1, .ref wi), (r0, 6, 2, .ref wz), (r0, 6, 4, .ref jkf), (r0, 6, 5, .ref jks)]) [0, 1, 5, 6, 7, 8, 9] rfl rfl (M1 := []) [] rfl rfl (I1 := []) [] rfl rfl).more hb_75).moreM hb_76
        clear hh_1 ht_7 hvm_7 hz_7 hk_7 hS_7 hb_71 hb_72 hb_73 hb_74 hb_75
        clear hb_76
        try simp only at hr_8
        obtain ⟨hr_8_0, hr_8_1, hr_8_2, hr_8_3, hr_8_4, hr_8_5, hr_8_6, hr_8_7⟩ := hr_8
        refine lv_goto (tgt := 45) hx hb dX4_value_41 (by decide) ?_
        rw [hQ]
        exact W.iret (v := r_8) hx hb hr (fun t ht hW => ⟨⟨r_8, (qt_7, qv_7, qu_7, gk_7, gi_7, gz_7, ga_7, gs_7), rfl, by (try dsimp only); refine ⟨by omega, by omega, by omega, by omega, by omega, by omega, by omega, ?_⟩; exact hr_8_7, ⟨hh_7.rt (M1 := [(r0, 6, 11, .int qt_7), (r0, 6, 7, .int qv_7), (r0, 6, 8, .int qu_7)]) [0, 1, 2] rfl ht, by rw [ht]; exact hh_7.2.2.2.2.2.2.2.1.sub [0, 1, 2, 3, 4] rfl⟩⟩, by rw [ht]; try exact hh_7.1.1, fun q h9 hq => by rw [ht]; try exact hh_7.1.2.1 q h9 hq⟩) hh_7.1.2.2 dX4_value_45
      · skip
        have c_6' : r_2.toInt = 123 := jb_ne_n (rfl) ((by decide)) c_6
        first | (have hr_2_2q := hr_2_2.resolve_left (by omega); clear hr_2_2) | (have hr_2_2q := hr_2_2.resolve_right (by omega); clear hr_2_2) | skip
        refine lv_iconst (v := 1) hx hb dX4_value_33 (by decide) ?_
        refine lv_goto (tgt := 38) hx hb dX4_value_34 (by decide) ?_
        refine va_calli (A0 := jA base) (H0 := s.heap) (va_runV (As := [.int z_5, .int 1]) (rest := []) ⟨hx, hb, hml, hown, hts⟩ (ihM (ef - 1) (by omega) G0 H_1 r0 z_5 1 rb n_rb pe pt pv pu wk wi wz jkf jks fk fi fz fa fs) (cwV 2 hts (jgV (jWr_20 _ (List.mem_of_getElem? (i := 5) rfl)) (jWr_20 _ (List.mem_of_getElem? (i := 6) rfl)) (jWr_20 _ (List.mem_of_getElem? (i := 7) rfl)) (jWr_1 _ (List.mem_of_getElem? (i := 22) rfl)) (jWr_23 _ (List.mem_of_getElem? (i := 5) rfl))) rfl rfl rfl (by decide +kernel) ⟨by rw [← hR]; show (2 * (ef - 1) + 9) + 1 ≤ 2 * ef + 8; omega, by rw [← hR]; show 8 + (11 + 11) + (130 * (ef - 1) + 560) ≤ 130 * ef + 500; omega⟩) ⟨fun a U g mk q => by obtain ⟨q0, q1, q2, qK, q10, q11, q12, q13, q14, q15, q16, q17, q18, q19, q20⟩ := q; exact ⟨q0, q1, q2, jG.calling g mk a qK, q10, q11, q12, q13, q14, q15, q16, q17, q18, q19, q20⟩, hh_1.recv (C := RX4) (T := TX4) (N := 12) hB6 rfl (by decide) hg_r0 hK, fun U hU hW => ⟨rfl, hU, hh_1.2.1, hG.step hW hU hh_1.1, hg_r0, (Or.inr rfl), hg_rb, hg_wk, hg_wi, hg_wz, hg_jkf, hg_jks, (hh_1.2.2.1.sub (L1 := [(r0, 6, 9, .ref rb), (r0, 6, 10, .int pe), (r0, 6, 11, .int pt), (r0, 6, 7, .int pv), (r0, 6, 8, .int pu), (r0, 6, 0, .ref wk), (r0, 6, 1, .ref wi), (r0, 6, 2, .ref wz), (r0, 6, 4, .ref jkf), (r0, 6, 5, .ref jks)]) [0, 1, 2, 3, 4, 5, 6, 7, 8, 9] rfl), (hh_1.2.2.2.2.2.2.2.1.sub (L1 := [(wk, 140, 1502, ca 1, fk), (wi, 141, 1502, ca 1, fi), (wz, 142, 1502, ca 1, fz), (jkf, 144, 1502, ca 1, fa), (jks, 145, 1502, ca 1, fs)]) [0, 1, 2, 3, 4] rfl), by first | omega | (refine ⟨?_, ?_, ?_, ?_, ?_, ?_, ?_, ?_, ?_, ?_, ?_, ?_⟩ <;> (first | omega | rfl | assumption | decide | exact Or.inl rfl | exact Or.inr rfl | (simp only; omega)))⟩⟩ rfl rfl hl.1 rfl (lv_room (Nat.le_of_ble_eq_true rfl)) dX4_value_38 ⟨Nat.zero_le _, Nat.zero_le _⟩) hh_1.1 (fun q _ h => h) (fun q h => h) (fun r_10 u_9 t_9 H_9 locs_9 ht_9 hvm_9 hr_10 hb_9 hz_9 hk_9 hS_9 => ?_)
        obtain ⟨qt_9, qv_9, qu_9, gk_9, gi_9, gz_9, ga_9, gs_9⟩ := u_9
        rw [ht_9] at hb_9
        obtain ⟨⟨hb_91, hb_92, hb_93, hb_94, hb_95⟩, hb_96⟩ := hb_9
        have hh_9 : jSt (dC, dI) B base G0 G0 EX4_valueP s.heap 0 0 [(r0, 6, 11, .int qt_9), (r0, 6, 7, .int qv_9), (r0, 6, 8, .int qu_9), (r0, 6, 9, .ref rb), (r0, 6, 10, .int pe), (r0, 6, 0, .ref wk), (r0, 6, 1, .ref wi), (r0, 6, 2, .ref wz), (r0, 6, 4, .ref jkf), (r0, 6, 5, .ref jks)] [(wk, 140, 1502, ca 1, gk_9), (wi, 141, 1502, ca 1, gi_9), (wz, 142, 1502, ca 1, gz_9), (jkf, 144, 1502, ca 1, ga_9), (jks, 145, 1502, ca 1, gs_9)] [] H_9 locs_9 := ((hh_1.call hb_91 hb_92 hb_93 hb_94 hS_9 rfl (L1 := [(r0, 6, 9, .ref rb), (r0, 6, 10, .int pe), (r0, 6, 0, .ref wk), (r0, 6, 1, .ref wi), (r0, 6, 2, .ref wz), (r0, 6, 4, .ref jkf), (r0, 6, 5, .ref jks)]) [0, 1, 5, 6, 7, 8, 9] rfl rfl (M1 := []) [] rfl rfl (I1 := []) [] rfl rfl).more hb_95).moreM hb_96
        clear hh_1 ht_9 hvm_9 hz_9 hk_9 hS_9 hb_91 hb_92 hb_93 hb_94 hb_95
        clear hb_96
        try simp only at hr_10
        obtain ⟨hr_10_0, hr_10_1, hr_10_2, hr_10_3, hr_10_4, hr_10_5, hr_10_6, hr_10_7⟩ := hr_10
        refine lv_goto (tgt := 45) hx hb dX4_value_41 (by decide) ?_
        rw [hQ]
        exact W.iret (v := r_10) hx hb hr (fun t ht hW => ⟨⟨r_10, (qt_9, qv_9, qu_9, gk_9, gi_9, gz_9, ga_9, gs_9), rfl, by (try dsimp only); refine ⟨by omega, by omega, by omega, by omega, by omega, by omega, by omega, ?_⟩; exact hr_10_7, ⟨hh_9.rt (M1 := [(r0, 6, 11, .int qt_9), (r0, 6, 7, .int qv_9), (r0, 6, 8, .int qu_9)]) [0, 1, 2] rfl ht, by rw [ht]; exact hh_9.2.2.2.2.2.2.2.1.sub [0, 1, 2, 3, 4] rfl⟩⟩, by rw [ht]; try exact hh_9.1.1, fun q h9 hq => by rw [ht]; try exact hh_9.1.2.1 q h9 hq⟩) hh_9.1.2.2 dX4_value_45
  · skip
    have c_3' : r_2.toInt ≠ 123 := jb_eq_n (rfl) ((by decide)) c_3
    refine lv_iload_n hx hb dX4_value_11 rfl (lv_at hl 0 rfl) ?_
    refine lv_bipush (v := 91) hx hb dX4_value_12 (by decide) ?_
    refine lv_icmp_ne (tgt := 46) hx hb dX4_value_14 (by decide) (fun c_11 => ?_) (fun c_11 => ?_)
    · skip
      have c_11' : r_2.toInt ≠ 91 := jb_ne (rfl) ((by decide)) c_11
      refine lv_iload_n hx hb dX4_value_46 rfl (lv_at hl 0 rfl) ?_
      refine lv_bipush (v := 34) hx hb dX4_value_47 (by decide) ?_
      refine lv_icmp_ne (tgt := 81) hx hb dX4_value_49 (by decide) (fun c_12 => ?_) (fun c_12 => ?_)
      · skip
        have c_12' : r_2.toInt ≠ 34 := jb_ne (rfl) ((by decide)) c_12
        refine lv_iload_n hx hb dX4_value_81 rfl (lv_at hl 0 rfl) ?_
        refine lv_bipush (v := 45) hx hb dX4_value_82 (by decide) ?_
        refine lv_icmp_eq (tgt := 94) hx hb dX4_value_84 (by decide) (fun c_13 => ?_) (fun c_13 => ?_)
        · skip
          have c_13' : r_2.toInt = 45 := jb_eq (rfl) ((by decide)) c_13
          first | (have hr_2_2q := hr_2_2.resolve_left (by omega); clear hr_2_2) | (have hr_2_2q := hr_2_2.resolve_right (by omega); clear hr_2_2) | skip
          refine lv_aload_n hx hb dX4_value_94 rfl (lv_at hl 1 rfl) ?_
          refine va_calli (A0 := jA base) (H0 := s.heap) (va_runV (As := []) (rest := []) ⟨hx, hb, hml, hown, hts⟩ (uX4_numberP l dC dI ca base B hB hAp hB6 hB100 hB140 hB141 hB142 hB143 hB144 hB145 G0 H_1 r0 rb n_rb pe pt pv pu wk wi wz jkf jks fk fi fz fa fs) (cwV 0 hts (jgV (jWr_22 _ (List.mem_of_getElem? (i := 16) rfl)) (jWr_22 _ (List.mem_of_getElem? (i := 17) rfl)) (jWr_22 _ (List.mem_of_getElem? (i := 18) rfl)) (jWr_1 _ (List.mem_of_getElem? (i := 22) rfl)) (jWr_22 _ (List.mem_of_getElem? (i := 19) rfl))) rfl rfl rfl (by decide +kernel) ⟨by rw [← hR]; show (2) + 1 ≤ 2 * ef + 8; omega, by rw [← hR]; show 8 + (8 + 11) + (41) ≤ 130 * ef + 500; omega⟩) ⟨fun a U g mk q => by obtain ⟨q0, q1, q2, qK, q10, q11, q12, q13, q14, q15, q16, q17, q18, q19⟩ := q; exact ⟨q0, q1, q2, jG.calling g mk a qK, q10, q11, q12, q13, q14, q15, q16, q17, q18, q19⟩, hh_1.recv (C := RX4) (T := TX4) (N := 12) hB6 rfl (by decide) hg_r0 hK, fun U hU hW => ⟨rfl, hU, hh_1.2.1, hG.step hW hU hh_1.1, hg_r0, hg_rb, hg_wk, hg_wi, hg_wz, hg_jkf, hg_jks, (hh_1.2.2.1.sub (L1 := [(r0, 6, 9, .ref rb), (r0, 6, 10, .int pe), (r0, 6, 11, .int pt), (r0, 6, 7, .int pv), (r0, 6, 8, .int pu), (r0, 6, 0, .ref wk), (r0, 6, 1, .ref wi), (r0, 6, 2, .ref wz), (r0, 6, 4, .ref jkf), (r0, 6, 5, .ref jks)]) [0, 1, 2, 3, 4, 5, 6, 7, 8, 9] rfl), (hh_1.2.2.2.2.2.2.2.1.sub (L1 := [(wk, 140, 1502, ca 1, fk), (wi, 141, 1502, ca 1, fi), (wz, 142, 1502, ca 1, fz), (jkf, 144, 1502, ca 1, fa), (jks, 145, 1502, ca 1, fs)]) [0, 1, 2, 3, 4] rfl), by first | omega | (refine ⟨?_, ?_, ?_, ?_, ?_, ?_, ?_, ?_, ?_, ?_⟩ <;> (first | omega | rfl | assumption | decide | exact Or.inl rfl | exact Or.inr rfl | (simp only; omega)))⟩⟩ rfl rfl hl.1 rfl (lv_room (Nat.le_of_ble_eq_true rfl)) dX4_value_95 ⟨Nat.zero_le _, Nat.zero_le _⟩) hh_1.1 (fun q _ h => h) (fun q h => h) (fun r_15 u_14 t_14 H_14 locs_14 ht_14 hvm_14 hr_15 hb_14 hz_14 hk_14 hS_14 => ?_)
          obtain ⟨qt_14, qv_14, qu_14, gk_14, gi_14, gz_14, ga_14, gs_14⟩ := u_14
          rw [ht_14] at hb_14
          obtain ⟨⟨hb_141, hb_142, hb_143, hb_144, hb_145⟩, hb_146⟩ := hb_14
          have hh_14 : jSt (dC, dI) B base G0 G0 EX4_valueP s.heap 0 0 [(r0, 6, 11, .int qt_14), (r0, 6, 7, .int qv_14), (r0, 6, 8, .int qu_14), (r0, 6, 9, .ref rb), (r0, 6, 10, .int pe), (r0, 6, 0, .ref wk), (r0, 6, 1, .ref wi), (r0, 6, 2, .ref wz), (r0, 6, 4, .ref jkf), (r0, 6, 5, .ref jks)] [(wk, 140, 1502, ca 1, gk_14), (wi, 141, 1502, ca 1, gi_14), (wz, 142, 1502, ca 1, gz_14), (jkf, 144, 1502, ca 1, ga_14), (jks, 145, 1502, ca 1, gs_14)] [] H_14 locs_14 := ((hh_1.call hb_141 hb_142 hb_143 hb_144 hS_14 rfl (L1 := [(r0, 6, 9, .ref rb), (r0, 6, 10, .int pe), (r0, 6, 0, .ref wk), (r0, 6, 1, .ref wi), (r0, 6, 2, .ref wz), (r0, 6, 4, .ref jkf), (r0, 6, 5, .ref jks)]) [0, 1, 5, 6, 7, 8, 9] rfl rfl (M1 := []) [] rfl rfl (I1 := []) [] rfl rfl).more hb_145).moreM hb_146
          clear hh_1 ht_14 hvm_14 hz_14 hk_14 hS_14 hb_141 hb_142 hb_143 hb_144 hb_145
          clear hb_146
          try simp only at hr_15
          obtain ⟨hr_15_0, hr_15_1, hr_15_2, hr_15_3, hr_15_4, hr_15_5, hr_15_6⟩ := hr_15
          rw [hQ]
          exact W.iret (v := r_15) hx hb hr (fun t ht hW => ⟨⟨r_15, (qt_14, qv_14, qu_14, gk_14, gi_14, gz_14, ga_14, gs_14), rfl, by (try dsimp only); refine ⟨by omega, by omega, by omega, by omega, by omega, by omega, by omega, ?_⟩; exact hr_15_6, ⟨hh_14.rt (M1 := [(r0, 6, 11, .int qt_14), (r0, 6, 7, .int qv_14), (r0, 6, 8, .int qu_14)]) [0, 1, 2] rfl ht, by rw [ht]; exact hh_14.2.2.2.2.2.2.2.1.sub [0, 1, 2, 3, 4] rfl⟩⟩, by rw [ht]; try exact hh_14.1.1, fun q h9 hq => by rw [ht]; try exact hh_14.1.2.1 q h9 hq⟩) hh_14.1.2.2 dX4_value_98
        · skip
          have c_13' : r_2.toInt ≠ 45 := jb_eq_n (rfl) ((by decide)) c_13
          refine lv_iload_n hx hb dX4_value_87 rfl (lv_at hl 0 rfl) ?_
          refine va_calli (A0 := jA base) (H0 := s.heap) (va_runSN (As := [.int r_2]) (rest := []) ⟨hx, hb, hml, hown, hts⟩ (uX11_isDigitB l dC dI ca base B hB hAp G0 H_1 r_2) ⟨va_cnB 1 hts (jgW (jWr_22 _ (List.mem_of_getElem? (i := 15) rfl))) rfl rfl rfl (hG.2.2.1 RX4 108 yX11_isDigit "ProofServer" (List.mem_of_getElem? (i := 711) (by decide +kernel))) (htw (.initialized RX11) (jWr_1 _ (List.mem_of_getElem? (i := 2) rfl))) (by decide +kernel) ⟨by rw [← hR]; show (0) + 1 ≤ 2 * ef + 8; omega, by rw [← hR]; show 8 + (1 + 11) + (0) ≤ 130 * ef + 500; omega⟩, htw (.static yX11_isDigit) (jWr_22 _ (List.mem_of_getElem? (i := 14) rfl)), trivial⟩ ⟨fun a U g mk q => by obtain ⟨q0, q1, q2, qK, q10, q11⟩ := q; exact ⟨q0, q1, q2, jG.calling g mk a qK, q10, q11⟩, fun U hU hW => ⟨rfl, hU, hh_1.2.1, hG.step hW hU hh_1.1, jP.nil, trivial⟩⟩ rfl rfl hl.1 rfl (lv_room (Nat.le_of_ble_eq_true rfl)) dX4_value_88 ⟨Nat.zero_le _, Nat.zero_le _⟩) hh_1.1 (fun q _ h => h) (fun q h => h) (fun r_17 u_16 t_16 H_16 locs_16 ht_16 hvm_16 hr_17 hb_16 hz_16 hk_16 hS_16 => ?_)
          rw [ht_16] at hb_16
          obtain ⟨hb_161, hb_162, hb_163, hb_164, hb_165⟩ := hb_16
          have hh_16 : jSt (dC, dI) B base G0 G0 EX4_valueP s.heap 0 0 [(r0, 6, 9, .ref rb), (r0, 6, 10, .int pe), (r0, 6, 11, .int pt), (r0, 6, 7, .int pv), (r0, 6, 8, .int pu), (r0, 6, 0, .ref wk), (r0, 6, 1, .ref wi), (r0, 6, 2, .ref wz), (r0, 6, 4, .ref jkf), (r0, 6, 5, .ref jks)] [(wk, 140, 1502, ca 1, fk), (wi, 141, 1502, ca 1, fi), (wz, 142, 1502, ca 1, fz), (jkf, 144, 1502, ca 1, fa), (jks, 145, 1502, ca 1, fs)] [] H_16 locs_16 := ((hh_1.call hb_161 hb_162 hb_163 hb_164 hS_16 rfl (L1 := [(r0, 6, 9, .ref rb), (r0, 6, 10, .int pe), (r0, 6, 11, .int pt), (r0, 6, 7, .int pv), (r0, 6, 8, .int pu), (r0, 6, 0, .ref wk), (r0, 6, 1, .ref wi), (r0, 6, 2, .ref wz), (r0, 6, 4, .ref jkf), (r0, 6, 5, .ref jks)]) [0, 1, 2, 3, 4, 5, 6, 7, 8, 9] rfl rfl (M1 := [(wk, 140, 1502, ca 1, fk), (wi, 141, 1502, ca 1, fi), (wz, 142, 1502, ca 1, fz), (jkf, 144, 1502, ca 1, fa), (jks, 145, 1502, ca 1, fs)]) [0, 1, 2, 3, 4] rfl rfl (I1 := []) [] rfl rfl).more hb_165)
          clear hh_1 ht_16 hvm_16 hz_16 hk_16 hS_16 hb_161 hb_162 hb_163 hb_164 hb_165
          obtain ⟨hr_17b, hr_17p⟩ := hr_17
          have hr_17' := jb_01 hr_17b
          refine lv_if_eq (tgt := 99) hx hb dX4_value_91 (by decide) (fun c_18 => ?_) (fun c_18 => ?_)
          · skip
            have c_18' : r_17.toInt = 0 := jb_eq (rfl) ((by decide)) c_18
            first | (have hr_2_2q := hr_2_2.resolve_left (by omega); clear hr_2_2) | (have hr_2_2q := hr_2_2.resolve_right (by omega); clear hr_2_2) | skip
            first | (have hr_17pq := hr_17p.resolve_left (by omega); clear hr_17p) | (have hr_17pq := hr_17p.resolve_right (by omega); clear hr_17p) | try clear hr_17p
            refine lv_aload_n hx hb dX4_value_99 rfl (lv_at hl 1 rfl) ?_
            refine va_ldcS hx hb hown rstr114 dX4_value_100 ?_
            refine va_calli (A0 := jA base) (H0 := s.heap) (va_runV (As := [.ref str114]) (rest := []) ⟨hx, hb, hml, hown, hts⟩ (uX4_isWord l dC dI ca base B hB hAp hB6 hB100 G0 H_16 r0 str114 4 rb n_rb pe pt) (cwV 1 hts (jgV (jWr_20 _ (List.mem_of_getElem? (i := 19) rfl)) (jWr_20 _ (List.mem_of_getElem? (i := 20) rfl)) (jWr_20 _ (List.mem_of_getElem? (i := 21) rfl)) (jWr_1 _ (List.mem_of_getElem? (i := 22) rfl)) (jWr_20 _ (List.mem_of_getElem? (i := 22) rfl))) rfl rfl rfl (by decide +kernel) ⟨by rw [← hR]; show (4) + 1 ≤ 2 * ef + 8; omega, by rw [← hR]; show 8 + (3 + 11) + (141) ≤ 130 * ef + 500; omega⟩) ⟨fun a U g mk q => by obtain ⟨q0, q1, q2, qK, q10, q11, q12, q13, q14⟩ := q; exact ⟨q0, q1, q2, jG.calling g mk a qK, (q10.moved (Vm.Alike.refl U.vm)), q11, q12, q13, q14⟩, hh_16.recv (C := RX4) (T := TX4) (N := 12) hB6 rfl (by decide) hg_r0 hK, fun U hU hW => ⟨rfl, hU, hh_16.2.1, hG.step hW hU hh_16.1, (hstr114.moved hW.alike).kept hh_16.1.2.1, hg_r0, hg_rb, (hh_16.2.2.1.sub (L1 := [(r0, 6, 9, .ref rb), (r0, 6, 10, .int pe), (r0, 6, 11, .int pt)]) [0, 1, 2] rfl), by first | omega | (refine ⟨?_, ?_, ?_, ?_, ?_, ?_, ?_, ?_⟩ <;> (first | omega | rfl | assumption | decide | exact Or.inl rfl | exact Or.inr rfl | (simp only; omega)))⟩⟩ rfl rfl hl.1 rfl (lv_room (Nat.le_of_ble_eq_true rfl)) dX4_value_102 ⟨Nat.zero_le _, Nat.zero_le _⟩) hh_16.1 (fun q _ h => h) (fun q h => h) (fun r_20 u_19 t_19 H_19 locs_19 ht_19 hvm_19 hr_20 hb_19 hz_19 hk_19 hS_19 => ?_)
            obtain ⟨qt_19, rfl⟩ : ∃ z, z = u_19 := ⟨_, rfl⟩
            rw [ht_19] at hb_19
            obtain ⟨hb_191, hb_192, hb_193, hb_194, hb_195⟩ := hb_19
            have hh_19 : jSt (dC, dI) B base G0 G0 EX4_valueP s.heap 0 0 [(r0, 6, 11, .int qt_19), (r0, 6, 9, .ref rb), (r0, 6, 10, .int pe), (r0, 6, 7, .int pv), (r0, 6, 8, .int pu), (r0, 6, 0, .ref wk), (r0, 6, 1, .ref wi), (r0, 6, 2, .ref wz), (r0, 6, 4, .ref jkf), (r0, 6, 5, .ref jks)] [(wk, 140, 1502, ca 1, fk), (wi, 141, 1502, ca 1, fi), (wz, 142, 1502, ca 1, fz), (jkf, 144, 1502, ca 1, fa), (jks, 145, 1502, ca 1, fs)] [] H_19 locs_19 := ((hh_16.call hb_191 hb_192 hb_193 hb_194 hS_19 rfl (L1 := [(r0, 6, 9, .ref rb), (r0, 6, 10, .int pe), (r0, 6, 7, .int pv), (r0, 6, 8, .int pu), (r0, 6, 0, .ref wk), (r0, 6, 1, .ref wi), (r0, 6, 2, .ref wz), (r0, 6, 4, .ref jkf), (r0, 6, 5, .ref jks)]) [0, 1, 3, 4, 5, 6, 7, 8, 9] rfl rfl (M1 := [(wk, 140, 1502, ca 1, fk), (wi, 141, 1502, ca 1, fi), (wz, 142, 1502, ca 1, fz), (jkf, 144, 1502, ca 1, fa), (jks, 145, 1502, ca 1, fs)]) [0, 1, 2, 3, 4] rfl rfl (I1 := []) [] rfl rfl).more hb_195)
            clear hh_16 ht_19 hvm_19 hz_19 hk_19 hS_19 hb_191 hb_192 hb_193 hb_194 hb_195
            obtain ⟨hr_20b, hr_20p⟩ := hr_20
            obtain ⟨hr_20p_0, hr_20p_1, hr_20p_2⟩ := hr_20p
            have hr_20' := jb_01 hr_20b
            refine lv_if_ne (tgt := 126) hx hb dX4_value_105 (by decide) (fun c_21 => ?_) (fun c_21 => ?_)
            · skip
              have c_21' : r_20.toInt ≠ 0 := jb_ne (rfl) ((by decide)) c_21
              refine lv_iconst (v := 1) hx hb dX4_value_126 (by decide) ?_
              refine lv_goto (tgt := 131) hx hb dX4_value_127 (by decide) ?_
              refine lv_istore_n (lv' := [(3, .int 1), (2, .int r_2), (0, .ref r0), (1, .int a1)]) hx hb dX4_value_131 rfl hl (by decide) rfl (fun ls hl => ?_)
              refine lv_iload_n hx hb dX4_value_132 rfl (lv_at hl 0 rfl) ?_
              refine lv_if_eq (tgt := 146) hx hb dX4_value_133 (by decide) (fun c_22 => ?_) (fun c_22 => ?_)
              · skip
                exact absurd c_22 (by decide)
              · skip
                refine lv_aload_n hx hb dX4_value_136 rfl (lv_at hl 2 rfl) ?_
                refine lv_iconst (v := 5) hx hb dX4_value_137 (by decide) ?_
                refine lv_iconst (v := 0) hx hb dX4_value_138 (by decide) ?_
                refine lv_iconst (v := 0) hx hb dX4_value_139 (by decide) ?_
                refine va_calli (A0 := jA base) (H0 := s.heap) (va_runV (As := [.int 5, .int 0, .int 0]) (rest := []) ⟨hx, hb, hml, hown, hts⟩ (uX4_makeP l dC dI ca base B hB hAp hB6 hB140 hB141 hB142 hB143 hB144 hB145 G0 H_19 r0 5 0 0 pv wk wi wz jkf jks fk fi fz fa fs) (cwV 3 hts (jgV (jWr_22 _ (List.mem_of_getElem? (i := 10) rfl)) (jWr_22 _ (List.mem_of_getElem? (i := 11) rfl)) (jWr_22 _ (List.mem_of_getElem? (i := 12) rfl)) (jWr_1 _ (List.mem_of_getElem? (i := 22) rfl)) (jWr_22 _ (List.mem_of_getElem? (i := 13) rfl))) rfl rfl rfl (by decide +kernel) ⟨by rw [← hR]; show (0) + 1 ≤ 2 * ef + 8; omega, by rw [← hR]; show 8 + (4 + 11) + (0) ≤ 130 * ef + 500; omega⟩) ⟨fun a U g mk q => by obtain ⟨q0, q1, q2, qK, q10, q11, q12, q13, q14, q15, q16, q17, q18⟩ := q; exact ⟨q0, q1, q2, jG.calling g mk a qK, q10, q11, q12, q13, q14, q15, q16, q17, q18⟩, hh_19.recv (C := RX4) (T := TX4) (N := 12) hB6 rfl (by decide) hg_r0 hK, fun U hU hW => ⟨rfl, hU, hh_19.2.1, hG.step hW hU hh_19.1, hg_r0, hg_wk, hg_wi, hg_wz, hg_jkf, hg_jks, (hh_19.2.2.1.sub (L1 := [(r0, 6, 7, .int pv), (r0, 6, 0, .ref wk), (r0, 6, 1, .ref wi), (r0, 6, 2, .ref wz), (r0, 6, 4, .ref jkf), (r0, 6, 5, .ref jks)]) [3, 5, 6, 7, 8, 9] rfl), (hh_19.2.2.2.2.2.2.2.1.sub (L1 := [(wk, 140, 1502, ca 1, fk), (wi, 141, 1502, ca 1, fi), (wz, 142, 1502, ca 1, fz), (jkf, 144, 1502, ca 1, fa), (jks, 145, 1502, ca 1, fs)]) [0, 1, 2, 3, 4] rfl), by first | omega | (refine ⟨?_, ?_⟩ <;> (first | omega | rfl | assumption | decide | exact Or.inl rfl | exact Or.inr rfl | (simp only; omega)))⟩⟩ rfl rfl hl.1 rfl (lv_room (Nat.le_of_ble_eq_true rfl)) dX4_value_140 ⟨Nat.zero_le _, Nat.zero_le _⟩) hh_19.1 (fun q _ h => h) (fun q h => h) (fun r_24 u_23 t_23 H_23 locs_23 ht_23 hvm_23 hr_24 hb_23 hz_23 hk_23 hS_23 => ?_)
                obtain ⟨qv_23, gk_23, gi_23, gz_23, ga_23, gs_23⟩ := u_23
                rw [ht_23] at hb_23
                obtain ⟨⟨hb_231, hb_232, hb_233, hb_234, hb_235⟩, hb_236⟩ := hb_23
                have hh_23 : jSt (dC, dI) B base G0 G0 EX4_valueP s.heap 0 0 [(r0, 6, 7, .int qv_23), (r0, 6, 11, .int qt_19), (r0, 6, 9, .ref rb), (r0, 6, 10, .int pe), (r0, 6, 8, .int pu), (r0, 6, 0, .ref wk), (r0, 6, 1, .ref wi), (r0, 6, 2, .ref wz), (r0, 6, 4, .ref jkf), (r0, 6, 5, .ref jks)] [(wk, 140, 1502, ca 1, gk_23), (wi, 141, 1502, ca 1, gi_23), (wz, 142, 1502, ca 1, gz_23), (jkf, 144, 1502, ca 1, ga_23), (jks, 145, 1502, ca 1, gs_23)] [] H_23 locs_23 := ((hh_19.call hb_231 hb_232 hb_233 hb_234 hS_23 rfl (L1 := [(r0, 6, 11, .int qt_19), (r0, 6, 9, .ref rb), (r0, 6, 10, .int pe), (r0, 6, 8, .int pu), (r0, 6, 0, .ref wk), (r0, 6, 1, .ref wi), (r0, 6, 2, .ref wz), (r0, 6, 4, .ref jkf), (r0, 6, 5, .ref jks)]) [0, 1, 2, 4, 5, 6, 7, 8, 9] rfl rfl (M1 := []) [] rfl rfl (I1 := []) [] rfl rfl).more hb_235).moreM hb_236
                clear hh_19 ht_23 hvm_23 hz_23 hk_23 hS_23 hb_231 hb_232 hb_233 hb_234 hb_235
                clear hb_236
                try simp only at hr_24
                obtain ⟨hr_24_0, hr_24_1, hr_24_2, hr_24_3⟩ := hr_24
                refine lv_goto (tgt := 147) hx hb dX4_value_143 (by decide) ?_
                rw [hQ]
                exact W.iret (v := r_24) hx hb hr (fun t ht hW => ⟨⟨r_24, (qt_19, qv_23, pu, gk_23, gi_23, gz_23, ga_23, gs_23), rfl, by (try dsimp only); refine ⟨by omega, by omega, by omega, by omega, by omega, by omega, by omega, ?_⟩; exact jVr.mk hr_24_2 hr_24_0 hr_24_3 (by omega) (by omega) (by omega) (fun h9 => by omega) (by omega), ⟨hh_23.rt (M1 := [(r0, 6, 11, .int qt_19), (r0, 6, 7, .int qv_23), (r0, 6, 8, .int pu)]) [1, 0, 4] rfl ht, by rw [ht]; exact hh_23.2.2.2.2.2.2.2.1.sub [0, 1, 2, 3, 4] rfl⟩⟩, by rw [ht]; try exact hh_23.1.1, fun q h9 hq => by rw [ht]; try exact hh_23.1.2.1 q h9 hq⟩) hh_23.1.2.2 dX4_value_147
            · skip
              have c_21' : r_20.toInt = 0 := jb_ne_n (rfl) ((by decide)) c_21
              refine lv_aload_n hx hb dX4_value_108 rfl (lv_at hl 1 rfl) ?_
              refine va_ldcS hx hb hown rstr120 dX4_value_109 ?_
              refine va_calli (A0 := jA base) (H0 := s.heap) (va_runV (As := [.ref str120]) (rest := []) ⟨hx, hb, hml, hown, hts⟩ (uX4_isWord l dC dI ca base B hB hAp hB6 hB100 G0 H_19 r0 str120 5 rb n_rb pe qt_19) (cwV 1 hts (jgV (jWr_20 _ (List.mem_of_getElem? (i := 19) rfl)) (jWr_20 _ (List.mem_of_getElem? (i := 20) rfl)) (jWr_20 _ (List.mem_of_getElem? (i := 21) rfl)) (jWr_1 _ (List.mem_of_getElem? (i := 22) rfl)) (jWr_20 _ (List.mem_of_getElem? (i := 22) rfl))) rfl rfl rfl (by decide +kernel) ⟨by rw [← hR]; show (4) + 1 ≤ 2 * ef + 8; omega, by rw [← hR]; show 8 + (3 + 11) + (141) ≤ 130 * ef + 500; omega⟩) ⟨fun a U g mk q => by obtain ⟨q0, q1, q2, qK, q10, q11, q12, q13, q14⟩ := q; exact ⟨q0, q1, q2, jG.calling g mk a qK, (q10.moved (Vm.Alike.refl U.vm)), q11, q12, q13, q14⟩, hh_19.recv (C := RX4) (T := TX4) (N := 12) hB6 rfl (by decide) hg_r0 hK, fun U hU hW => ⟨rfl, hU, hh_19.2.1, hG.step hW hU hh_19.1, (hstr120.moved hW.alike).kept hh_19.1.2.1, hg_r0, hg_rb, (hh_19.2.2.1.sub (L1 := [(r0, 6, 9, .ref rb), (r0, 6, 10, .int pe), (r0, 6, 11, .int qt_19)]) [1, 2, 0] rfl), by first | omega | (refine ⟨?_, ?_, ?_, ?_, ?_, ?_, ?_, ?_⟩ <;> (first | omega | rfl | assumption | decide | exact Or.inl rfl | exact Or.inr rfl | (simp only; omega)))⟩⟩ rfl rfl hl.1 rfl (lv_room (Nat.le_of_ble_eq_true rfl)) dX4_value_111 ⟨Nat.zero_le _, Nat.zero_le _⟩) hh_19.1 (fun q _ h => h) (fun q h => h) (fun r_26 u_25 t_25 H_25 locs_25 ht_25 hvm_25 hr_26 hb_25 hz_25 hk_25 hS_25 => ?_)
              obtain ⟨qt_25, rfl⟩ : ∃ z, z = u_25 := ⟨_, rfl⟩
              rw [ht_25] at hb_25
              obtain ⟨hb_251, hb_252, hb_253, hb_254, hb_255⟩ := hb_25
              have hh_25 : jSt (dC, dI) B base G0 G0 EX4_valueP s.heap 0 0 [(r0, 6, 11, .int qt_25), (r0, 6, 9, .ref rb), (r0, 6, 10, .int pe), (r0, 6, 7, .int pv), (r0, 6, 8, .int pu), (r0, 6, 0, .ref wk), (r0, 6, 1, .ref wi), (r0, 6, 2, .ref wz), (r0, 6, 4, .ref jkf), (r0, 6, 5, .ref jks)] [(wk, 140, 1502, ca 1, fk), (wi, 141, 1502, ca 1, fi), (wz, 142, 1502, ca 1, fz), (jkf, 144, 1502, ca 1, fa), (jks, 145, 1502, ca 1, fs)] [] H_25 locs_25 := ((hh_19.call hb_251 hb_252 hb_253 hb_254 hS_25 rfl (L1 := [(r0, 6, 9, .ref rb), (r0, 6, 10, .int pe), (r0, 6, 7, .int pv), (r0, 6, 8, .int pu), (r0, 6, 0, .ref wk), (r0, 6, 1, .ref wi), (r0, 6, 2, .ref wz), (r0, 6, 4, .ref jkf), (r0, 6, 5, .ref jks)]) [1, 2, 3, 4, 5, 6, 7, 8, 9] rfl rfl (M1 := [(wk, 140, 1502, ca 1, fk), (wi, 141, 1502, ca 1, fi), (wz, 142, 1502, ca 1, fz), (jkf, 144, 1502, ca 1, fa), (jks, 145, 1502, ca 1, fs)]) [0, 1, 2, 3, 4] rfl rfl (I1 := []) [] rfl rfl).more hb_255)
              clear hh_19 ht_25 hvm_25 hz_25 hk_25 hS_25 hb_251 hb_252 hb_253 hb_254 hb_255
              obtain ⟨hr_26b, hr_26p⟩ := hr_26
              obtain ⟨hr_26p_0, hr_26p_1, hr_26p_2⟩ := hr_26p
              have hr_26' := jb_01 hr_26b
              refine lv_if_ne (tgt := 126) hx hb dX4_value_114 (by decide) (fun c_27 => ?_) (fun c_27 => ?_)
              · skip
                have c_27' : r_26.toInt ≠ 0 := jb_ne (rfl) ((by decide)) c_27
                refine lv_iconst (v := 1) hx hb dX4_value_126 (by decide) ?_
                refine lv_goto (tgt := 131) hx hb dX4_value_127 (by decide) ?_
                refine lv_istore_n (lv' := [(3, .int 1), (2, .int r_2), (0, .ref r0), (1, .int a1)]) hx hb dX4_value_131 rfl hl (by decide) rfl (fun ls hl => ?_)
                refine lv_iload_n hx hb dX4_value_132 rfl (lv_at hl 0 rfl) ?_
                refine lv_if_eq (tgt := 146) hx hb dX4_value_133 (by decide) (fun c_28 => ?_) (fun c_28 => ?_)
                · skip
                  exact absurd c_28 (by decide)
                · skip
                  refine lv_aload_n hx hb dX4_value_136 rfl (lv_at hl 2 rfl) ?_
                  refine lv_iconst (v := 5) hx hb dX4_value_137 (by decide) ?_
                  refine lv_iconst (v := 0) hx hb dX4_value_138 (by decide) ?_
                  refine lv_iconst (v := 0) hx hb dX4_value_139 (by decide) ?_
                  refine va_calli (A0 := jA base) (H0 := s.heap) (va_runV (As := [.int 5, .int 0, .int 0]) (rest := []) ⟨hx, hb, hml, hown, hts⟩ (uX4_makeP l dC dI ca base B hB hAp hB6 hB140 hB141 hB142 hB143 hB144 hB145 G0 H_25 r0 5 0 0 pv wk wi wz jkf jks fk fi fz fa fs) (cwV 3 hts (jgV (jWr_22 _ (List.mem_of_getElem? (i := 10) rfl)) (jWr_22 _ (List.mem_of_getElem? (i := 11) rfl)) (jWr_22 _ (List.mem_of_getElem? (i := 12) rfl)) (jWr_1 _ (List.mem_of_getElem? (i := 22) rfl)) (jWr_22 _ (List.mem_of_getElem? (i := 13) rfl))) rfl rfl rfl (by decide +kernel) ⟨by rw [← hR]; show (0) + 1 ≤ 2 * ef + 8; omega, by rw [← hR]; show 8 + (4 + 11) + (0) ≤ 130 * ef + 500; omega⟩) ⟨fun a U g mk q => by obtain ⟨q0, q1, q2, qK, q10, q11, q12, q13, q14, q15, q16, q17, q18⟩ := q; exact ⟨q0, q1, q2, jG.calling g mk a qK, q10, q11, q12, q13, q14, q15, q16, q17, q18⟩, hh_25.recv (C := RX4) (T := TX4) (N := 12) hB6 rfl (by decide) hg_r0 hK, fun U hU hW => ⟨rfl, hU, hh_25.2.1, hG.step hW hU hh_25.1, hg_r0, hg_wk, hg_wi, hg_wz, hg_jkf, hg_jks, (hh_25.2.2.1.sub (L1 := [(r0, 6, 7, .int pv), (r0, 6, 0, .ref wk), (r0, 6, 1, .ref wi), (r0, 6, 2, .ref wz), (r0, 6, 4, .ref jkf), (r0, 6, 5, .ref jks)]) [3, 5, 6, 7, 8, 9] rfl), (hh_25.2.2.2.2.2.2.2.1.sub (L1 := [(wk, 140, 1502, ca 1, fk), (wi, 141, 1502, ca 1, fi), (wz, 142, 1502, ca 1, fz), (jkf, 144, 1502, ca 1, fa), (jks, 145, 1502, ca 1, fs)]) [0, 1, 2, 3, 4] rfl), by first | omega | (refine ⟨?_, ?_⟩ <;> (first | omega | rfl | assumption | decide | exact Or.inl rfl | exact Or.inr rfl | (simp only; omega)))⟩⟩ rfl rfl hl.1 rfl (lv_room (Nat.le_of_ble_eq_true rfl)) dX4_value_140 ⟨Nat.zero_le _, Nat.zero_le _⟩) hh_25.1 (fun q _ h => h) (fun q h => h) (fun r_30 u_29 t_29 H_29 locs_29 ht_29 hvm_29 hr_30 hb_29 hz_29 hk_29 hS_29 => ?_)
                  obtain ⟨qv_29, gk_29, gi_29, gz_29, ga_29, gs_29⟩ := u_29
                  rw [ht_29] at hb_29
                  obtain ⟨⟨hb_291, hb_292, hb_293, hb_294, hb_295⟩, hb_296⟩ := hb_29
                  have hh_29 : jSt (dC, dI) B base G0 G0 EX4_valueP s.heap 0 0 [(r0, 6, 7, .int qv_29), (r0, 6, 11, .int qt_25), (r0, 6, 9, .ref rb), (r0, 6, 10, .int pe), (r0, 6, 8, .int pu), (r0, 6, 0, .ref wk), (r0, 6, 1, .ref wi), (r0, 6, 2, .ref wz), (r0, 6, 4, .ref jkf), (r0, 6, 5, .ref jks)] [(wk, 140, 1502, ca 1, gk_29), (wi, 141, 1502, ca 1, gi_29), (wz, 142, 1502, ca 1, gz_29), (jkf, 144, 1502, ca 1, ga_29), (jks, 145, 1502, ca 1, gs_29)] [] H_29 locs_29 := ((hh_25.call hb_291 hb_292 hb_293 hb_294 hS_29 rfl (L1 := [(r0, 6, 11, .int qt_25), (r0, 6, 9, .ref rb), (r0, 6, 10, .int pe), (r0, 6, 8, .int pu), (r0, 6, 0, .ref wk), (r0, 6, 1, .ref wi), (r0, 6, 2, .ref wz), (r0, 6, 4, .ref jkf), (r0, 6, 5, .ref jks)]) [0, 1, 2, 4, 5, 6, 7, 8, 9] rfl rfl (M1 := []) [] rfl rfl (I1 := []) [] rfl rfl).more hb_295).moreM hb_296
                  clear hh_25 ht_29 hvm_29 hz_29 hk_29 hS_29 hb_291 hb_292 hb_293 hb_294 hb_295
                  clear hb_296
                  try simp only at hr_30
                  obtain ⟨hr_30_0, hr_30_1, hr_30_2, hr_30_3⟩ := hr_30
                  refine lv_goto (tgt := 147) hx hb dX4_value_143 (by decide) ?_
                  rw [hQ]
                  exact W.iret (v := r_30) hx hb hr (fun t ht hW => ⟨⟨r_30, (qt_25, qv_29, pu, gk_29, gi_29, gz_29, ga_29, gs_29), rfl, by (try dsimp only); refine ⟨by omega, by omega, by omega, by omega, by omega, by omega, by omega, ?_⟩; exact jVr.mk hr_30_2 hr_30_0 hr_30_3 (by omega) (by omega) (by omega) (fun h9 => by omega) (by omega), ⟨hh_29.rt (M1 := [(r0, 6, 11, .int qt_25), (r0, 6, 7, .int qv_29), (r0, 6, 8, .int pu)]) [1, 0, 4] rfl ht, by rw [ht]; exact hh_29.2.2.2.2.2.2.2.1.sub [0, 1, 2, 3, 4] rfl⟩⟩, by rw [ht]; try exact hh_29.1.1, fun q h9 hq => by rw [ht]; try exact hh_29.1.2.1 q h9 hq⟩) hh_29.1.2.2 dX4_value_147
              · skip
                have c_27' : r_26.toInt = 0 := jb_ne_n (rfl) ((by decide)) c_27
                refine lv_aload_n hx hb dX4_value_117 rfl (lv_at hl 1 rfl) ?_
                refine va_ldcS hx hb hown rstr122 dX4_value_118 ?_
                refine va_calli (A0 := jA base) (H0 := s.heap) (va_runV (As := [.ref str122]) (rest := []) ⟨hx, hb, hml, hown, hts⟩ (uX4_isWord l dC dI ca base B hB hAp hB6 hB100 G0 H_25 r0 str122 4 rb n_rb pe qt_25) (cwV 1 hts (jgV (jWr_20 _ (List.mem_of_getElem? (i := 19) rfl)) (jWr_20 _ (List.mem_of_getElem? (i := 20) rfl)) (jWr_20 _ (List.mem_of_getElem? (i := 21) rfl)) (jWr_1 _ (List.mem_of_getElem? (i := 22) rfl)) (jWr_20 _ (List.mem_of_getElem? (i := 22) rfl))) rfl rfl rfl (by decide +kernel) ⟨by rw [← hR]; show (4) + 1 ≤ 2 * ef + 8; omega, by rw [← hR]; show 8 + (3 + 11) + (141) ≤ 130 * ef + 500; omega⟩) ⟨fun a U g mk q => by obtain ⟨q0, q1, q2, qK, q10, q11, q12, q13, q14⟩ := q; exact ⟨q0, q1, q2, jG.calling g mk a qK, (q10.moved (Vm.Alike.refl U.vm)), q11, q12, q13, q14⟩, hh_25.recv (C := RX4) (T := TX4) (N := 12) hB6 rfl (by decide) hg_r0 hK, fun U hU hW => ⟨rfl, hU, hh_25.2.1, hG.step hW hU hh_25.1, (hstr122.moved hW.alike).kept hh_25.1.2.1, hg_r0, hg_rb, (hh_25.2.2.1.sub (L1 := [(r0, 6, 9, .ref rb), (r0, 6, 10, .int pe), (r0, 6, 11, .int qt_25)]) [1, 2, 0] rfl), by first | omega | (refine ⟨?_, ?_, ?_, ?_, ?_, ?_, ?_, ?_⟩ <;> (first | omega | rfl | assumption | decide | exact Or.inl rfl | exact Or.inr rfl | (simp only; omega)))⟩⟩ rfl rfl hl.1 rfl (lv_room (Nat.le_of_ble_eq_true rfl)) dX4_value_120 ⟨Nat.zero_le _, Nat.zero_le _⟩) hh_25.1 (fun q _ h => h) (fun q h => h) (fun r_32 u_31 t_31 H_31 locs_31 ht_31 hvm_31 hr_32 hb_31 hz_31 hk_31 hS_31 => ?_)
                obtain ⟨qt_31, rfl⟩ : ∃ z, z = u_31 := ⟨_, rfl⟩
                rw [ht_31] at hb_31
                obtain ⟨hb_311, hb_312, hb_313, hb_314, hb_315⟩ := hb_31
                have hh_31 : jSt (dC, dI) B base G0 G0 EX4_valueP s.heap 0 0 [(r0, 6, 11, .int qt_31), (r0, 6, 9, .ref rb), (r0, 6, 10, .int pe), (r0, 6, 7, .int pv), (r0, 6, 8, .int pu), (r0, 6, 0, .ref wk), (r0, 6, 1, .ref wi), (r0, 6, 2, .ref wz), (r0, 6, 4, .ref jkf), (r0, 6, 5, .ref jks)] [(wk, 140, 1502, ca 1, fk), (wi, 141, 1502, ca 1, fi), (wz, 142, 1502, ca 1, fz), (jkf, 144, 1502, ca 1, fa), (jks, 145, 1502, ca 1, fs)] [] H_31 locs_31 := ((hh_25.call hb_311 hb_312 hb_313 hb_314 hS_31 rfl (L1 := [(r0, 6, 9, .ref rb), (r0, 6, 10, .int pe), (r0, 6, 7, .int pv), (r0, 6, 8, .int pu), (r0, 6, 0, .ref wk), (r0, 6, 1, .ref wi), (r0, 6, 2, .ref wz), (r0, 6, 4, .ref jkf), (r0, 6, 5, .ref jks)]) [1, 2, 3, 4, 5, 6, 7, 8, 9] rfl rfl (M1 := [(wk, 140, 1502, ca 1, fk), (wi, 141, 1502, ca 1, fi), (wz, 142, 1502, ca 1, fz), (jkf, 144, 1502, ca 1, fa), (jks, 145, 1502, ca 1, fs)]) [0, 1, 2, 3, 4] rfl rfl (I1 := []) [] rfl rfl).more hb_315)
                clear hh_25 ht_31 hvm_31 hz_31 hk_31 hS_31 hb_311 hb_312 hb_313 hb_314 hb_315
                obtain ⟨hr_32b, hr_32p⟩ := hr_32
                obtain ⟨hr_32p_0, hr_32p_1, hr_32p_2⟩ := hr_32p
                have hr_32' := jb_01 hr_32b
                refine lv_if_eq (tgt := 130) hx hb dX4_value_123 (by decide) (fun c_33 => ?_) (fun c_33 => ?_)
                · skip
                  have c_33' : r_32.toInt = 0 := jb_eq (rfl) ((by decide)) c_33
                  refine lv_iconst (v := 0) hx hb dX4_value_130 (by decide) ?_
                  refine lv_istore_n (lv' := [(3, .int 0), (2, .int r_2), (0, .ref r0), (1, .int a1)]) hx hb dX4_value_131 rfl hl (by decide) rfl (fun ls hl => ?_)
                  refine lv_iload_n hx hb dX4_value_132 rfl (lv_at hl 0 rfl) ?_
                  refine lv_if_eq (tgt := 146) hx hb dX4_value_133 (by decide) (fun c_34 => ?_) (fun c_34 => ?_)
                  · skip
                    refine lv_iconst (v := (-1)) hx hb dX4_value_146 (by decide) ?_
                    rw [hQ]
                    exact W.iret (v := (-1)) hx hb hr (fun t ht hW => ⟨⟨(-1), (qt_31, pv, pu, fk, fi, fz, fa, fs), rfl, by (try dsimp only); refine ⟨by omega, by omega, by omega, by omega, by omega, by omega, by omega, ?_⟩; exact jVr.no (by omega) (by omega) (by omega) (by omega), ⟨hh_31.rt (M1 := [(r0, 6, 11, .int qt_31), (r0, 6, 7, .int pv), (r0, 6, 8, .int pu)]) [0, 3, 4] rfl ht, by rw [ht]; exact hh_31.2.2.2.2.2.2.2.1.sub [0, 1, 2, 3, 4] rfl⟩⟩, by rw [ht]; try exact hh_31.1.1, fun q h9 hq => by rw [ht]; try exact hh_31.1.2.1 q h9 hq⟩) hh_31.1.2.2 dX4_value_147
                  · skip
                    exact absurd c_34 (by decide)
                · skip
                  have c_33' : r_32.toInt ≠ 0 := jb_eq_n (rfl) ((by decide)) c_33
                  refine lv_iconst (v := 1) hx hb dX4_value_126 (by decide) ?_
                  refine lv_goto (tgt := 131) hx hb dX4_value_127 (by decide) ?_
                  refine lv_istore_n (lv' := [(3, .int 1), (2, .int r_2), (0, .ref r0), (1, .int a1)]) hx hb dX4_value_131 rfl hl (by decide) rfl (fun ls hl => ?_)
                  refine lv_iload_n hx hb dX4_value_132 rfl (lv_at hl 0 rfl) ?_
                  refine lv_if_eq (tgt := 146) hx hb dX4_value_133 (by decide) (fun c_35 => ?_) (fun c_35 => ?_)
                  · skip
                    exact absurd c_35 (by decide)
                  · skip
                    refine lv_aload_n hx hb dX4_value_136 rfl (lv_at hl 2 rfl) ?_
                    refine lv_iconst (v := 5) hx hb dX4_value_137 (by decide) ?_
                    refine lv_iconst (v := 0) hx hb dX4_value_138 (by decide) ?_
                    refine lv_iconst (v := 0) hx hb dX4_value_139 (by decide) ?_
                    refine va_calli (A0 := jA base) (H0 := s.heap) (va_runV (As := [.int 5, .int 0, .int 0]) (rest := []) ⟨hx, hb, hml, hown, hts⟩ (uX4_makeP l dC dI ca base B hB hAp hB6 hB140 hB141 hB142 hB143 hB144 hB145 G0 H_31 r0 5 0 0 pv wk wi wz jkf jks fk fi fz fa fs) (cwV 3 hts (jgV (jWr_22 _ (List.mem_of_getElem? (i := 10) rfl)) (jWr_22 _ (List.mem_of_getElem? (i := 11) rfl)) (jWr_22 _ (List.mem_of_getElem? (i := 12) rfl)) (jWr_1 _ (List.mem_of_getElem? (i := 22) rfl)) (jWr_22 _ (List.mem_of_getElem? (i := 13) rfl))) rfl rfl rfl (by decide +kernel) ⟨by rw [← hR]; show (0) + 1 ≤ 2 * ef + 8; omega, by rw [← hR]; show 8 + (4 + 11) + (0) ≤ 130 * ef + 500; omega⟩) ⟨fun a U g mk q => by obtain ⟨q0, q1, q2, qK, q10, q11, q12, q13, q14, q15, q16, q17, q18⟩ := q; exact ⟨q0, q1, q2, jG.calling g mk a qK, q10, q11, q12, q13, q14, q15, q16, q17, q18⟩, hh_31.recv (C := RX4) (T := TX4) (N := 12) hB6 rfl (by decide) hg_r0 hK, fun U hU hW => ⟨rfl, hU, hh_31.2.1, hG.step hW hU hh_31.1, hg_r0, hg_wk, hg_wi, hg_wz, hg_jkf, hg_jks, (hh_31.2.2.1.sub (L1 := [(r0, 6, 7, .int pv), (r0, 6, 0, .ref wk), (r0, 6, 1, .ref wi), (r0, 6, 2, .ref wz), (r0, 6, 4, .ref jkf), (r0, 6, 5, .ref jks)]) [3, 5, 6, 7, 8, 9] rfl), (hh_31.2.2.2.2.2.2.2.1.sub (L1 := [(wk, 140, 1502, ca 1, fk), (wi, 141, 1502, ca 1, fi), (wz, 142, 1502, ca 1, fz), (jkf, 144, 1502, ca 1, fa), (jks, 145, 1502, ca 1, fs)]) [0, 1, 2, 3, 4] rfl), by first | omega | (refine ⟨?_, ?_⟩ <;> (first | omega | rfl | assumption | decide | exact Or.inl rfl | exact Or.inr rfl | (simp only; omega)))⟩⟩ rfl rfl hl.1 rfl (lv_room (Nat.le_of_ble_eq_true rfl)) dX4_value_140 ⟨Nat.zero_le _, Nat.zero_le _⟩) hh_31.1 (fun q _ h => h) (fun q h => h) (fun r_37 u_36 t_36 H_36 locs_36 ht_36 hvm_36 hr_37 hb_36 hz_36 hk_36 hS_36 => ?_)
                    obtain ⟨qv_36, gk_36, gi_36, gz_36, ga_36, gs_36⟩ := u_36
                    rw [ht_36] at hb_36
                    obtain ⟨⟨hb_361, hb_362, hb_363, hb_364, hb_365⟩, hb_366⟩ := hb_36
                    have hh_36 : jSt (dC, dI) B base G0 G0 EX4_valueP s.heap 0 0 [(r0, 6, 7, .int qv_36), (r0, 6, 11, .int qt_31), (r0, 6, 9, .ref rb), (r0, 6, 10, .int pe), (r0, 6, 8, .int pu), (r0, 6, 0, .ref wk), (r0, 6, 1, .ref wi), (r0, 6, 2, .ref wz), (r0, 6, 4, .ref jkf), (r0, 6, 5, .ref jks)] [(wk, 140, 1502, ca 1, gk_36), (wi, 141, 1502, ca 1, gi_36), (wz, 142, 1502, ca 1, gz_36), (jkf, 144, 1502, ca 1, ga_36), (jks, 145, 1502, ca 1, gs_36)] [] H_36 locs_36 := ((hh_31.call hb_361 hb_362 hb_363 hb_364 hS_36 rfl (L1 := [(r0, 6, 11, .int qt_31), (r0, 6, 9, .ref rb), (r0, 6, 10, .int pe), (r0, 6, 8, .int pu), (r0, 6, 0, .ref wk), (r0, 6, 1, .ref wi), (r0, 6, 2, .ref wz), (r0, 6, 4, .ref jkf), (r0, 6, 5, .ref jks)]) [0, 1, 2, 4, 5, 6, 7, 8, 9] rfl rfl (M1 := []) [] rfl rfl (I1 := []) [] rfl rfl).more hb_365).moreM hb_366
                    clear hh_31 ht_36 hvm_36 hz_36 hk_36 hS_36 hb_361 hb_362 hb_363 hb_364 hb_365
                    clear hb_366
                    try simp only at hr_37
                    obtain ⟨hr_37_0, hr_37_1, hr_37_2, hr_37_3⟩ := hr_37
                    refine lv_goto (tgt := 147) hx hb dX4_value_143 (by decide) ?_
                    rw [hQ]
                    exact W.iret (v := r_37) hx hb hr (fun t ht hW => ⟨⟨r_37, (qt_31, qv_36, pu, gk_36, gi_36, gz_36, ga_36, gs_36), rfl, by (try dsimp only); refine ⟨by omega, by omega, by omega, by omega, by omega, by omega, by omega, ?_⟩; exact jVr.mk hr_37_2 hr_37_0 hr_37_3 (by omega) (by omega) (by omega) (fun h9 => by omega) (by omega), ⟨hh_36.rt (M1 := [(r0, 6, 11, .int qt_31), (r0, 6, 7, .int qv_36), (r0, 6, 8, .int pu)]) [1, 0, 4] rfl ht, by rw [ht]; exact hh_36.2.2.2.2.2.2.2.1.sub [0, 1, 2, 3, 4] rfl⟩⟩, by rw [ht]; try exact hh_36.1.1, fun q h9 hq => by rw [ht]; try exact hh_36.1.2.1 q h9 hq⟩) hh_36.1.2.2 dX4_value_147
          · skip
            have c_18' : r_17.toInt ≠ 0 := jb_eq_n (rfl) ((by decide)) c_18
            first | (have hr_2_2q := hr_2_2.resolve_left (by omega); clear hr_2_2) | (have hr_2_2q := hr_2_2.resolve_right (by omega); clear hr_2_2) | skip
            first | (have hr_17pq := hr_17p.resolve_left (by omega); clear hr_17p) | (have hr_17pq := hr_17p.resolve_right (by omega); clear hr_17p) | try clear hr_17p
            refine lv_aload_n hx hb dX4_value_94 rfl (lv_at hl 1 rfl) ?_
            refine va_calli (A0 := jA base) (H0 := s.heap) (va_runV (As := []) (rest := []) ⟨hx, hb, hml, hown, hts⟩ (uX4_numberP l dC dI ca base B hB hAp hB6 hB100 hB140 hB141 hB142 hB143 hB144 hB145 G0 H_16 r0 rb n_rb pe pt pv pu wk wi wz jkf jks fk fi fz fa fs) (cwV 0 hts (jgV (jWr_22 _ (List.mem_of_getElem? (i := 16) rfl)) (jWr_22 _ (List.mem_of_getElem? (i := 17) rfl)) (jWr_22 _ (List.mem_of_getElem? (i := 18) rfl)) (jWr_1 _ (List.mem_of_getElem? (i := 22) rfl)) (jWr_22 _ (List.mem_of_getElem? (i := 19) rfl))) rfl rfl rfl (by decide +kernel) ⟨by rw [← hR]; show (2) + 1 ≤ 2 * ef + 8; omega, by rw [← hR]; show 8 + (8 + 11) + (41) ≤ 130 * ef + 500; omega⟩) ⟨fun a U g mk q => by obtain ⟨q0, q1, q2, qK, q10, q11, q12, q13, q14, q15, q16, q17, q18, q19⟩ := q; exact ⟨q0, q1, q2, jG.calling g mk a qK, q10, q11, q12, q13, q14, q15, q16, q17, q18, q19⟩, hh_16.recv (C := RX4) (T := TX4) (N := 12) hB6 rfl (by decide) hg_r0 hK, fun U hU hW => ⟨rfl, hU, hh_16.2.1, hG.step hW hU hh_16.1, hg_r0, hg_rb, hg_wk, hg_wi, hg_wz, hg_jkf, hg_jks, (hh_16.2.2.1.sub (L1 := [(r0, 6, 9, .ref rb), (r0, 6, 10, .int pe), (r0, 6, 11, .int pt), (r0, 6, 7, .int pv), (r0, 6, 8, .int pu), (r0, 6, 0, .ref wk), (r0, 6, 1, .ref wi), (r0, 6, 2, .ref wz), (r0, 6, 4, .ref jkf), (r0, 6, 5, .ref jks)]) [0, 1, 2, 3, 4, 5, 6, 7, 8, 9] rfl), (hh_16.2.2.2.2.2.2.2.1.sub (L1 := [(wk, 140, 1502, ca 1, fk), (wi, 141, 1502, ca 1, fi), (wz, 142, 1502, ca 1, fz), (jkf, 144, 1502, ca 1, fa), (jks, 145, 1502, ca 1, fs)]) [0, 1, 2, 3, 4] rfl), by first | omega | (refine ⟨?_, ?_, ?_, ?_, ?_, ?_, ?_, ?_, ?_, ?_⟩ <;> (first | omega | rfl | assumption | decide | exact Or.inl rfl | exact Or.inr rfl | (simp only; omega)))⟩⟩ rfl rfl hl.1 rfl (lv_room (Nat.le_of_ble_eq_true rfl)) dX4_value_95 ⟨Nat.zero_le _, Nat.zero_le _⟩) hh_16.1 (fun q _ h => h) (fun q h => h) (fun r_39 u_38 t_38 H_38 locs_38 ht_38 hvm_38 hr_39 hb_38 hz_38 hk_38 hS_38 => ?_)
            obtain ⟨qt_38, qv_38, qu_38, gk_38, gi_38, gz_38, ga_38, gs_38⟩ := u_38
            rw [ht_38] at hb_38
            obtain ⟨⟨hb_381, hb_382, hb_383, hb_384, hb_385⟩, hb_386⟩ := hb_38
            have hh_38 : jSt (dC, dI) B base G0 G0 EX4_valueP s.heap 0 0 [(r0, 6, 11, .int qt_38), (r0, 6, 7, .int qv_38), (r0, 6, 8, .int qu_38), (r0, 6, 9, .ref rb), (r0, 6, 10, .int pe), (r0, 6, 0, .ref wk), (r0, 6, 1, .ref wi), (r0, 6, 2, .ref wz), (r0, 6, 4, .ref jkf), (r0, 6, 5, .ref jks)] [(wk, 140, 1502, ca 1, gk_38), (wi, 141, 1502, ca 1, gi_38), (wz, 142, 1502, ca 1, gz_38), (jkf, 144, 1502, ca 1, ga_38), (jks, 145, 1502, ca 1, gs_38)] [] H_38 locs_38 := ((hh_16.call hb_381 hb_382 hb_383 hb_384 hS_38 rfl (L1 := [(r0, 6, 9, .ref rb), (r0, 6, 10, .int pe), (r0, 6, 0, .ref wk), (r0, 6, 1, .ref wi), (r0, 6, 2, .ref wz), (r0, 6, 4, .ref jkf), (r0, 6, 5, .ref jks)]) [0, 1, 5, 6, 7, 8, 9] rfl rfl (M1 := []) [] rfl rfl (I1 := []) [] rfl rfl).more hb_385).moreM hb_386
            clear hh_16 ht_38 hvm_38 hz_38 hk_38 hS_38 hb_381 hb_382 hb_383 hb_384 hb_385
            clear hb_386
            try simp only at hr_39
            obtain ⟨hr_39_0, hr_39_1, hr_39_2, hr_39_3, hr_39_4, hr_39_5, hr_39_6⟩ := hr_39
            rw [hQ]
            exact W.iret (v := r_39) hx hb hr (fun t ht hW => ⟨⟨r_39, (qt_38, qv_38, qu_38, gk_38, gi_38, gz_38, ga_38, gs_38), rfl, by (try dsimp only); refine ⟨by omega, by omega, by omega, by omega, by omega, by omega, by omega, ?_⟩; exact hr_39_6, ⟨hh_38.rt (M1 := [(r0, 6, 11, .int qt_38), (r0, 6, 7, .int qv_38), (r0, 6, 8, .int qu_38)]) [0, 1, 2] rfl ht, by rw [ht]; exact hh_38.2.2.2.2.2.2.2.1.sub [0, 1, 2, 3, 4] rfl⟩⟩, by rw [ht]; try exact hh_38.1.1, fun q h9 hq => by rw [ht]; try exact hh_38.1.2.1 q h9 hq⟩) hh_38.1.2.2 dX4_value_98
      · skip
        have c_12' : r_2.toInt = 34 := jb_ne_n (rfl) ((by decide)) c_12
        first | (have hr_2_2q := hr_2_2.resolve_left (by omega); clear hr_2_2) | (have hr_2_2q := hr_2_2.resolve_right (by omega); clear hr_2_2) | skip
        refine lv_aload_n hx hb dX4_value_52 rfl (lv_at hl 1 rfl) ?_
        refine j7_read hx hb hown hK (C := RX4) (T := TX4) (N := 12) rfl hly_6_8 hlk_53 (hh_1.at 4 rfl) dX4_value_53 ?_
        refine lv_istore_n (lv' := [(3, .int pu), (2, .int r_2), (0, .ref r0), (1, .int a1)]) hx hb dX4_value_56 rfl hl (by decide) rfl (fun ls hl => ?_)
        refine lv_aload_n hx hb dX4_value_57 rfl (lv_at hl 2 rfl) ?_
        refine va_calli (A0 := jA base) (H0 := s.heap) (va_runV (As := []) (rest := []) ⟨hx, hb, hml, hown, hts⟩ (uX4_isStringP l dC dI ca base B hB hAp hB6 hB100 hB146 G0 H_1 r0 rb n_rb pe pt pu) (cwV 0 hts (jgV (jWr_20 _ (List.mem_of_getElem? (i := 8) rfl)) (jWr_20 _ (List.mem_of_getElem? (i := 9) rfl)) (jWr_20 _ (List.mem_of_getElem? (i := 10) rfl)) (jWr_1 _ (List.mem_of_getElem? (i := 22) rfl)) (jWr_20 _ (List.mem_of_getElem? (i := 11) rfl))) rfl rfl rfl (by decide +kernel) ⟨by rw [← hR]; show (6) + 1 ≤ 2 * ef + 8; omega, by rw [← hR]; show 8 + (4 + 11) + (185) ≤ 130 * ef + 500; omega⟩) ⟨fun a U g mk q => by obtain ⟨q0, q1, q2, qK, q10, q11, q12, q13⟩ := q; exact ⟨q0, q1, q2, jG.calling g mk a qK, q10, q11, q12, q13⟩, hh_1.recv (C := RX4) (T := TX4) (N := 12) hB6 rfl (by decide) hg_r0 hK, fun U hU hW => ⟨rfl, hU, hh_1.2.1, hG.step hW hU hh_1.1, hg_r0, hg_rb, (hh_1.2.2.1.sub (L1 := [(r0, 6, 9, .ref rb), (r0, 6, 10, .int pe), (r0, 6, 11, .int pt), (r0, 6, 8, .int pu)]) [0, 1, 2, 4] rfl), by first | omega | (refine ⟨?_, ?_, ?_, ?_, ?_, ?_, ?_, ?_⟩ <;> (first | omega | rfl | assumption | decide | exact Or.inl rfl | exact Or.inr rfl | (simp only; omega)))⟩⟩ rfl rfl hl.1 rfl (lv_room (Nat.le_of_ble_eq_true rfl)) dX4_value_58 ⟨Nat.zero_le _, Nat.zero_le _⟩) hh_1.1 (fun q _ h => h) (fun q h => h) (fun r_41 u_40 t_40 H_40 locs_40 ht_40 hvm_40 hr_41 hb_40 hz_40 hk_40 hS_40 => ?_)
        obtain ⟨qt_40, qu_40⟩ := u_40
        rw [ht_40] at hb_40
        obtain ⟨hb_401, hb_402, hb_403, hb_404, hb_405⟩ := hb_40
        have hh_40 : jSt (dC, dI) B base G0 G0 EX4_valueP s.heap 0 0 [(r0, 6, 11, .int qt_40), (r0, 6, 8, .int qu_40), (r0, 6, 9, .ref rb), (r0, 6, 10, .int pe), (r0, 6, 7, .int pv), (r0, 6, 0, .ref wk), (r0, 6, 1, .ref wi), (r0, 6, 2, .ref wz), (r0, 6, 4, .ref jkf), (r0, 6, 5, .ref jks)] [(wk, 140, 1502, ca 1, fk), (wi, 141, 1502, ca 1, fi), (wz, 142, 1502, ca 1, fz), (jkf, 144, 1502, ca 1, fa), (jks, 145, 1502, ca 1, fs)] [] H_40 locs_40 := ((hh_1.call hb_401 hb_402 hb_403 hb_404 hS_40 rfl (L1 := [(r0, 6, 9, .ref rb), (r0, 6, 10, .int pe), (r0, 6, 7, .int pv), (r0, 6, 0, .ref wk), (r0, 6, 1, .ref wi), (r0, 6, 2, .ref wz), (r0, 6, 4, .ref jkf), (r0, 6, 5, .ref jks)]) [0, 1, 3, 5, 6, 7, 8, 9] rfl rfl (M1 := [(wk, 140, 1502, ca 1, fk), (wi, 141, 1502, ca 1, fi), (wz, 142, 1502, ca 1, fz), (jkf, 144, 1502, ca 1, fa), (jks, 145, 1502, ca 1, fs)]) [0, 1, 2, 3, 4] rfl rfl (I1 := []) [] rfl rfl).more hb_405)
        clear hh_1 ht_40 hvm_40 hz_40 hk_40 hS_40 hb_401 hb_402 hb_403 hb_404 hb_405
        try simp only at hr_41
        obtain ⟨hr_41b, hr_41p⟩ := hr_41
        obtain ⟨hr_41p_0, hr_41p_1, hr_41p_2, hr_41p_3, hr_41p_4⟩ := hr_41p
        have hr_41' := jb_01 hr_41b
        refine lv_if_eq (tgt := 79) hx hb dX4_value_61 (by decide) (fun c_42 => ?_) (fun c_42 => ?_)
        · skip
          have c_42' : r_41.toInt = 0 := jb_eq (rfl) ((by decide)) c_42
          first | (have hr_41p_4q := hr_41p_4.resolve_left (by omega); clear hr_41p_4) | (have hr_41p_4q := hr_41p_4.resolve_right (by omega); clear hr_41p_4) | skip
          refine lv_iconst (v := (-1)) hx hb dX4_value_79 (by decide) ?_
          rw [hQ]
          exact W.iret (v := (-1)) hx hb hr (fun t ht hW => ⟨⟨(-1), (qt_40, pv, qu_40, fk, fi, fz, fa, fs), rfl, by (try dsimp only); refine ⟨by omega, by omega, by omega, by omega, by omega, by omega, by omega, ?_⟩; exact jVr.no (by omega) (by omega) (by omega) (by omega), ⟨hh_40.rt (M1 := [(r0, 6, 11, .int qt_40), (r0, 6, 7, .int pv), (r0, 6, 8, .int qu_40)]) [0, 4, 1] rfl ht, by rw [ht]; exact hh_40.2.2.2.2.2.2.2.1.sub [0, 1, 2, 3, 4] rfl⟩⟩, by rw [ht]; try exact hh_40.1.1, fun q h9 hq => by rw [ht]; try exact hh_40.1.2.1 q h9 hq⟩) hh_40.1.2.2 dX4_value_80
        · skip
          have c_42' : r_41.toInt ≠ 0 := jb_eq_n (rfl) ((by decide)) c_42
          first | (have hr_41p_4q := hr_41p_4.resolve_left (by omega); clear hr_41p_4) | (have hr_41p_4q := hr_41p_4.resolve_right (by omega); clear hr_41p_4) | skip
          refine lv_aload_n hx hb dX4_value_64 rfl (lv_at hl 2 rfl) ?_
          refine lv_iconst (v := 3) hx hb dX4_value_65 (by decide) ?_
          refine lv_iload_n hx hb dX4_value_66 rfl (lv_at hl 0 rfl) ?_
          refine lv_aload_n hx hb dX4_value_67 rfl (lv_at hl 2 rfl) ?_
          refine j7_read hx hb hown hK (C := RX4) (T := TX4) (N := 12) rfl hly_6_8 hlk_53 (hh_40.at 1 rfl) dX4_value_68 ?_
          refine lv_iload_n hx hb dX4_value_71 rfl (lv_at hl 0 rfl) ?_
          refine lv_isub hx hb dX4_value_72 ?_
          refine lv_topi (fun z_43 ez_43 => ?_)
          have hz_43 : z_43.toInt = qu_40.toInt - pu.toInt := by rw [ez_43]; exact jb_isub2 (rfl) (rfl) (by omega)
          refine va_calli (A0 := jA base) (H0 := s.heap) (va_runV (As := [.int 3, .int pu, .int z_43]) (rest := []) ⟨hx, hb, hml, hown, hts⟩ (uX4_makeP l dC dI ca base B hB hAp hB6 hB140 hB141 hB142 hB143 hB144 hB145 G0 H_40 r0 3 pu z_43 pv wk wi wz jkf jks fk fi fz fa fs) (cwV 3 hts (jgV (jWr_22 _ (List.mem_of_getElem? (i := 10) rfl)) (jWr_22 _ (List.mem_of_getElem? (i := 11) rfl)) (jWr_22 _ (List.mem_of_getElem? (i := 12) rfl)) (jWr_1 _ (List.mem_of_getElem? (i := 22) rfl)) (jWr_22 _ (List.mem_of_getElem? (i := 13) rfl))) rfl rfl rfl (by decide +kernel) ⟨by rw [← hR]; show (0) + 1 ≤ 2 * ef + 8; omega, by rw [← hR]; show 8 + (4 + 11) + (0) ≤ 130 * ef + 500; omega⟩) ⟨fun a U g mk q => by obtain ⟨q0, q1, q2, qK, q10, q11, q12, q13, q14, q15, q16, q17, q18⟩ := q; exact ⟨q0, q1, q2, jG.calling g mk a qK, q10, q11, q12, q13, q14, q15, q16, q17, q18⟩, hh_40.recv (C := RX4) (T := TX4) (N := 12) hB6 rfl (by decide) hg_r0 hK, fun U hU hW => ⟨rfl, hU, hh_40.2.1, hG.step hW hU hh_40.1, hg_r0, hg_wk, hg_wi, hg_wz, hg_jkf, hg_jks, (hh_40.2.2.1.sub (L1 := [(r0, 6, 7, .int pv), (r0, 6, 0, .ref wk), (r0, 6, 1, .ref wi), (r0, 6, 2, .ref wz), (r0, 6, 4, .ref jkf), (r0, 6, 5, .ref jks)]) [4, 5, 6, 7, 8, 9] rfl), (hh_40.2.2.2.2.2.2.2.1.sub (L1 := [(wk, 140, 1502, ca 1, fk), (wi, 141, 1502, ca 1, fi), (wz, 142, 1502, ca 1, fz), (jkf, 144, 1502, ca 1, fa), (jks, 145, 1502, ca 1, fs)]) [0, 1, 2, 3, 4] rfl), by first | omega | (refine ⟨?_, ?_⟩ <;> (first | omega | rfl | assumption | decide | exact Or.inl rfl | exact Or.inr rfl | (simp only; omega)))⟩⟩ rfl rfl hl.1 rfl (lv_room (Nat.le_of_ble_eq_true rfl)) dX4_value_73 ⟨Nat.zero_le _, Nat.zero_le _⟩) hh_40.1 (fun q _ h => h) (fun q h => h) (fun r_45 u_44 t_44 H_44 locs_44 ht_44 hvm_44 hr_45 hb_44 hz_44 hk_44 hS_44 => ?_)
          obtain ⟨qv_44, gk_44, gi_44, gz_44, ga_44, gs_44⟩ := u_44
          rw [ht_44] at hb_44
          obtain ⟨⟨hb_441, hb_442, hb_443, hb_444, hb_445⟩, hb_446⟩ := hb_44
          have hh_44 : jSt (dC, dI) B base G0 G0 EX4_valueP s.heap 0 0 [(r0, 6, 7, .int qv_44), (r0, 6, 11, .int qt_40), (r0, 6, 8, .int qu_40), (r0, 6, 9, .ref rb), (r0, 6, 10, .int pe), (r0, 6, 0, .ref wk), (r0, 6, 1, .ref wi), (r0, 6, 2, .ref wz), (r0, 6, 4, .ref jkf), (r0, 6, 5, .ref jks)] [(wk, 140, 1502, ca 1, gk_44), (wi, 141, 1502, ca 1, gi_44), (wz, 142, 1502, ca 1, gz_44), (jkf, 144, 1502, ca 1, ga_44), (jks, 145, 1502, ca 1, gs_44)] [] H_44 locs_44 := ((hh_40.call hb_441 hb_442 hb_443 hb_444 hS_44 rfl (L1 := [(r0, 6, 11, .int qt_40), (r0, 6, 8, .int qu_40), (r0, 6, 9, .ref rb), (r0, 6, 10, .int pe), (r0, 6, 0, .ref wk), (r0, 6, 1, .ref wi), (r0, 6, 2, .ref wz), (r0, 6, 4, .ref jkf), (r0, 6, 5, .ref jks)]) [0, 1, 2, 3, 5, 6, 7, 8, 9] rfl rfl (M1 := []) [] rfl rfl (I1 := []) [] rfl rfl).more hb_445).moreM hb_446
          clear hh_40 ht_44 hvm_44 hz_44 hk_44 hS_44 hb_441 hb_442 hb_443 hb_444 hb_445
          clear hb_446
          try simp only at hr_45
          obtain ⟨hr_45_0, hr_45_1, hr_45_2, hr_45_3⟩ := hr_45
          refine lv_goto (tgt := 80) hx hb dX4_value_76 (by decide) ?_
          rw [hQ]
          exact W.iret (v := r_45) hx hb hr (fun t ht hW => ⟨⟨r_45, (qt_40, qv_44, qu_40, gk_44, gi_44, gz_44, ga_44, gs_44), rfl, by (try dsimp only); refine ⟨by omega, by omega, by omega, by omega, by omega, by omega, by omega, ?_⟩; exact jVr.mk hr_45_2 hr_45_0 hr_45_3 (by omega) (by omega) (by omega) (fun h9 => by omega) (by omega), ⟨hh_44.rt (M1 := [(r0, 6, 11, .int qt_40), (r0, 6, 7, .int qv_44), (r0, 6, 8, .int qu_40)]) [1, 0, 2] rfl ht, by rw [ht]; exact hh_44.2.2.2.2.2.2.2.1.sub [0, 1, 2, 3, 4] rfl⟩⟩, by rw [ht]; try exact hh_44.1.1, fun q h9 hq => by rw [ht]; try exact hh_44.1.2.1 q h9 hq⟩) hh_44.1.2.2 dX4_value_80
    · skip
      have c_11' : r_2.toInt = 91 := jb_ne_n (rfl) ((by decide)) c_11
      first | (have hr_2_2q := hr_2_2.resolve_left (by omega); clear hr_2_2) | (have hr_2_2q := hr_2_2.resolve_right (by omega); clear hr_2_2) | skip
      refine lv_iload_n hx hb dX4_value_17 rfl (lv_at hl 2 rfl) ?_
      refine lv_bipush (v := 10) hx hb dX4_value_18 (by decide) ?_
      refine lv_icmp_ge (tgt := 44) hx hb dX4_value_20 (by decide) (fun c_46 => ?_) (fun c_46 => ?_)
      · skip
        have c_46' : a1.toInt ≥ 10 := jb_ge (rfl) ((by decide)) c_46
        refine lv_iconst (v := (-1)) hx hb dX4_value_44 (by decide) ?_
        rw [hQ]
        exact W.iret (v := (-1)) hx hb hr (fun t ht hW => ⟨⟨(-1), (pt, pv, pu, fk, fi, fz, fa, fs), rfl, by (try dsimp only); refine ⟨by omega, by omega, by omega, by omega, by omega, by omega, by omega, ?_⟩; exact jVr.no (by omega) (by omega) (by omega) (by omega), ⟨hh_1.rt (M1 := [(r0, 6, 11, .int pt), (r0, 6, 7, .int pv), (r0, 6, 8, .int pu)]) [2, 3, 4] rfl ht, by rw [ht]; exact hh_1.2.2.2.2.2.2.2.1.sub [0, 1, 2, 3, 4] rfl⟩⟩, by rw [ht]; try exact hh_1.1.1, fun q h9 hq => by rw [ht]; try exact hh_1.1.2.1 q h9 hq⟩) hh_1.1.2.2 dX4_value_45
      · skip
        have c_46' : a1.toInt < 10 := jb_ge_n (rfl) ((by decide)) c_46
        refine lv_aload_n hx hb dX4_value_23 rfl (lv_at hl 1 rfl) ?_
        refine lv_iload_n hx hb dX4_value_24 rfl (lv_at hl 2 rfl) ?_
        refine lv_iconst (v := 1) hx hb dX4_value_25 (by decide) ?_
        refine lv_iadd hx hb dX4_value_26 ?_
        refine lv_topi (fun z_47 ez_47 => ?_)
        have hz_47 : z_47.toInt = a1.toInt + 1 := by rw [ez_47]; exact jb_iadd2 (rfl) ((by decide)) (by omega)
        refine lv_iload_n hx hb dX4_value_27 rfl (lv_at hl 0 rfl) ?_
        refine lv_bipush (v := 123) hx hb dX4_value_28 (by decide) ?_
        refine lv_icmp_ne (tgt := 37) hx hb dX4_value_30 (by decide) (fun c_48 => ?_) (fun c_48 => ?_)
        · skip
          have c_48' : r_2.toInt ≠ 123 := jb_ne (rfl) ((by decide)) c_48
          refine lv_iconst (v := 0) hx hb dX4_value_37 (by decide) ?_
          refine va_calli (A0 := jA base) (H0 := s.heap) (va_runV (As := [.int z_47, .int 0]) (rest := []) ⟨hx, hb, hml, hown, hts⟩ (ihM (ef - 1) (by omega) G0 H_1 r0 z_47 0 rb n_rb pe pt pv pu wk wi wz jkf jks fk fi fz fa fs) (cwV 2 hts (jgV (jWr_20 _ (List.mem_of_getElem? (i := 5) rfl)) (jWr_20 _ (List.mem_of_getElem? (i := 6) rfl)) (jWr_20 _ (List.mem_of_getElem? (i := 7) rfl)) (jWr_1 _ (List.mem_of_getElem? (i := 22) rfl)) (jWr_23 _ (List.mem_of_getElem? (i := 5) rfl))) rfl rfl rfl (by decide +kernel) ⟨by rw [← hR]; show (2 * (ef - 1) + 9) + 1 ≤ 2 * ef + 8; omega, by rw [← hR]; show 8 + (11 + 11) + (130 * (ef - 1) + 560) ≤ 130 * ef + 500; omega⟩) ⟨fun a U g mk q => by obtain ⟨q0, q1, q2, qK, q10, q11, q12, q13, q14, q15, q16, q17, q18, q19, q20⟩ := q; exact ⟨q0, q1, q2, jG.calling g mk a qK, q10, q11, q12, q13, q14, q15, q16, q17, q18, q19, q20⟩, hh_1.recv (C := RX4) (T := TX4) (N := 12) hB6 rfl (by decide) hg_r0 hK, fun U hU hW => ⟨rfl, hU, hh_1.2.1, hG.step hW hU hh_1.1, hg_r0, (Or.inl rfl), hg_rb, hg_wk, hg_wi, hg_wz, hg_jkf, hg_jks, (hh_1.2.2.1.sub (L1 := [(r0, 6, 9, .ref rb), (r0, 6, 10, .int pe), (r0, 6, 11, .int pt), (r0, 6, 7, .int pv), (r0, 6, 8, .int pu), (r0, 6, 0, .ref wk), (r0, 6, 1, .ref wi), (r0, 6, 2, .ref wz), (r0, 6, 4, .ref jkf), (r0, 6, 5, .ref jks)]) [0, 1, 2, 3, 4, 5, 6, 7, 8, 9] rfl), (hh_1.2.2.2.2.2.2.2.1.sub (L1 := [(wk, 140, 1502, ca 1, fk), (wi, 141, 1502, ca 1, fi), (wz, 142, 1502, ca 1, fz), (jkf, 144, 1502, ca 1, fa), (jks, 145, 1502, ca 1, fs)]) [0, 1, 2, 3, 4] rfl), by first | omega | (refine ⟨?_, ?_, ?_, ?_, ?_, ?_, ?_, ?_, ?_, ?_, ?_, ?_⟩ <;> (first | omega | rfl | assumption | decide | exact Or.inl rfl | exact Or.inr rfl | (simp only; omega)))⟩⟩ rfl rfl hl.1 rfl (lv_room (Nat.le_of_ble_eq_true rfl)) dX4_value_38 ⟨Nat.zero_le _, Nat.zero_le _⟩) hh_1.1 (fun q _ h => h) (fun q h => h) (fun r_50 u_49 t_49 H_49 locs_49 ht_49 hvm_49 hr_50 hb_49 hz_49 hk_49 hS_49 => ?_)
          obtain ⟨qt_49, qv_49, qu_49, gk_49, gi_49, gz_49, ga_49, gs_49⟩ := u_49
          rw [ht_49] at hb_49
          obtain ⟨⟨hb_491, hb_492, hb_493, hb_494, hb_495⟩, hb_496⟩ := hb_49
          have hh_49 : jSt (dC, dI) B base G0 G0 EX4_valueP s.heap 0 0 [(r0, 6, 11, .int qt_49), (r0, 6, 7, .int qv_49), (r0, 6, 8, .int qu_49), (r0, 6, 9, .ref rb), (r0, 6, 10, .int pe), (r0, 6, 0, .ref wk), (r0, 6, 1, .ref wi), (r0, 6, 2, .ref wz), (r0, 6, 4, .ref jkf), (r0, 6, 5, .ref jks)] [(wk, 140, 1502, ca 1, gk_49), (wi, 141, 1502, ca 1, gi_49), (wz, 142, 1502, ca 1, gz_49), (jkf, 144, 1502, ca 1, ga_49), (jks, 145, 1502, ca 1, gs_49)] [] H_49 locs_49 := ((hh_1.call hb_491 hb_492 hb_493 hb_494 hS_49 rfl (L1 := [(r0, 6, 9, .ref rb), (r0, 6, 10, .int pe), (r0, 6, 0, .ref wk), (r0, 6, 1, .ref wi), (r0, 6, 2, .ref wz), (r0, 6, 4, .ref jkf), (r0, 6, 5, .ref jks)]) [0, 1, 5, 6, 7, 8, 9] rfl rfl (M1 := []) [] rfl rfl (I1 := []) [] rfl rfl).more hb_495).moreM hb_496
          clear hh_1 ht_49 hvm_49 hz_49 hk_49 hS_49 hb_491 hb_492 hb_493 hb_494 hb_495
          clear hb_496
          try simp only at hr_50
          obtain ⟨hr_50_0, hr_50_1, hr_50_2, hr_50_3, hr_50_4, hr_50_5, hr_50_6, hr_50_7⟩ := hr_50
          refine lv_goto (tgt := 45) hx hb dX4_value_41 (by decide) ?_
          rw [hQ]
          exact W.iret (v := r_50) hx hb hr (fun t ht hW => ⟨⟨r_50, (qt_49, qv_49, qu_49, gk_49, gi_49, gz_49, ga_49, gs_49), rfl, by (try dsimp only); refine ⟨by omega, by omega, by omega, by omega, by omega, by omega, by omega, ?_⟩; exact hr_50_7, ⟨hh_49.rt (M1 := [(r0, 6, 11, .int qt_49), (r0, 6, 7, .int qv_49), (r0, 6, 8, .int qu_49)]) [0, 1, 2] rfl ht, by rw [ht]; exact hh_49.2.2.2.2.2.2.2.1.sub [0, 1, 2, 3, 4] rfl⟩⟩, by rw [ht]; try exact hh_49.1.1, fun q h9 hq => by rw [ht]; try exact hh_49.1.2.1 q h9 hq⟩) hh_49.1.2.2 dX4_value_45
        · skip
          have c_48' : r_2.toInt = 123 := jb_ne_n (rfl) ((by decide)) c_48
          first | (have hr_2_2q := hr_2_2.resolve_left (by omega); clear hr_2_2) | (have hr_2_2q := hr_2_2.resolve_right (by omega); clear hr_2_2) | skip
          refine lv_iconst (v := 1) hx hb dX4_value_33 (by decide) ?_
          refine lv_goto (tgt := 38) hx hb dX4_value_34 (by decide) ?_
          refine va_calli (A0 := jA base) (H0 := s.heap) (va_runV (As := [.int z_47, .int 1]) (rest := []) ⟨hx, hb, hml, hown, hts⟩ (ihM (ef - 1) (by omega) G0 H_1 r0 z_47 1 rb n_rb pe pt pv pu wk wi wz jkf jks fk fi fz fa fs) (cwV 2 hts (jgV (jWr_20 _ (List.mem_of_getElem? (i := 5) rfl)) (jWr_20 _ (List.mem_of_getElem? (i := 6) rfl)) (jWr_20 _ (List.mem_of_getElem? (i := 7) rfl)) (jWr_1 _ (List.mem_of_getElem? (i := 22) rfl)) (jWr_23 _ (List.mem_of_getElem? (i := 5) rfl))) rfl rfl rfl (by decide +kernel) ⟨by rw [← hR]; show (2 * (ef - 1) + 9) + 1 ≤ 2 * ef + 8; omega, by rw [← hR]; show 8 + (11 + 11) + (130 * (ef - 1) + 560) ≤ 130 * ef + 500; omega⟩) ⟨fun a U g mk q => by obtain ⟨q0, q1, q2, qK, q10, q11, q12, q13, q14, q15, q16, q17, q18, q19, q20⟩ := q; exact ⟨q0, q1, q2, jG.calling g mk a qK, q10, q11, q12, q13, q14, q15, q16, q17, q18, q19, q20⟩, hh_1.recv (C := RX4) (T := TX4) (N := 12) hB6 rfl (by decide) hg_r0 hK, fun U hU hW => ⟨rfl, hU, hh_1.2.1, hG.step hW hU hh_1.1, hg_r0, (Or.inr rfl), hg_rb, hg_wk, hg_wi, hg_wz, hg_jkf, hg_jks, (hh_1.2.2.1.sub (L1 := [(r0, 6, 9, .ref rb), (r0, 6, 10, .int pe), (r0, 6, 11, .int pt), (r0, 6, 7, .int pv), (r0, 6, 8, .int pu), (r0, 6, 0, .ref wk), (r0, 6, 1, .ref wi), (r0, 6, 2, .ref wz), (r0, 6, 4, .ref jkf), (r0, 6, 5, .ref jks)]) [0, 1, 2, 3, 4, 5, 6, 7, 8, 9] rfl), (hh_1.2.2.2.2.2.2.2.1.sub (L1 := [(wk, 140, 1502, ca 1, fk), (wi, 141, 1502, ca 1, fi), (wz, 142, 1502, ca 1, fz), (jkf, 144, 1502, ca 1, fa), (jks, 145, 1502, ca 1, fs)]) [0, 1, 2, 3, 4] rfl), by first | omega | (refine ⟨?_, ?_, ?_, ?_, ?_, ?_, ?_, ?_, ?_, ?_, ?_, ?_⟩ <;> (first | omega | rfl | assumption | decide | exact Or.inl rfl | exact Or.inr rfl | (simp only; omega)))⟩⟩ rfl rfl hl.1 rfl (lv_room (Nat.le_of_ble_eq_true rfl)) dX4_value_38 ⟨Nat.zero_le _, Nat.zero_le _⟩) hh_1.1 (fun q _ h => h) (fun q h => h) (fun r_52 u_51 t_51 H_51 locs_51 ht_51 hvm_51 hr_52 hb_51 hz_51 hk_51 hS_51 => ?_)
          obtain ⟨qt_51, qv_51, qu_51, gk_51, gi_51, gz_51, ga_51, gs_51⟩ := u_51
          rw [ht_51] at hb_51
          obtain ⟨⟨hb_511, hb_512, hb_513, hb_514, hb_515⟩, hb_516⟩ := hb_51
          have hh_51 : jSt (dC, dI) B base G0 G0 EX4_valueP s.heap 0 0 [(r0, 6, 11, .int qt_51), (r0, 6, 7, .int qv_51), (r0, 6, 8, .int qu_51), (r0, 6, 9, .ref rb), (r0, 6, 10, .int pe), (r0, 6, 0, .ref wk), (r0, 6, 1, .ref wi), (r0, 6, 2, .ref wz), (r0, 6, 4, .ref jkf), (r0, 6, 5, .ref jks)] [(wk, 140, 1502, ca 1, gk_51), (wi, 141, 1502, ca 1, gi_51), (wz, 142, 1502, ca 1, gz_51), (jkf, 144, 1502, ca 1, ga_51), (jks, 145, 1502, ca 1, gs_51)] [] H_51 locs_51 := ((hh_1.call hb_511 hb_512 hb_513 hb_514 hS_51 rfl (L1 := [(r0, 6, 9, .ref rb), (r0, 6, 10, .int pe), (r0, 6, 0, .ref wk), (r0, 6, 1, .ref wi), (r0, 6, 2, .ref wz), (r0, 6, 4, .ref jkf), (r0, 6, 5, .ref jks)]) [0, 1, 5, 6, 7, 8, 9] rfl rfl (M1 := []) [] rfl rfl (I1 := []) [] rfl rfl).more hb_515).moreM hb_516
          clear hh_1 ht_51 hvm_51 hz_51 hk_51 hS_51 hb_511 hb_512 hb_513 hb_514 hb_515
          clear hb_516
          try simp only at hr_52
          obtain ⟨hr_52_0, hr_52_1, hr_52_2, hr_52_3, hr_52_4, hr_52_5, hr_52_6, hr_52_7⟩ := hr_52
          refine lv_goto (tgt := 45) hx hb dX4_value_41 (by decide) ?_
          rw [hQ]
          exact W.iret (v := r_52) hx hb hr (fun t ht hW => ⟨⟨r_52, (qt_51, qv_51, qu_51, gk_51, gi_51, gz_51, ga_51, gs_51), rfl, by (try dsimp only); refine ⟨by omega, by omega, by omega, by omega, by omega, by omega, by omega, ?_⟩; exact hr_52_7, ⟨hh_51.rt (M1 := [(r0, 6, 11, .int qt_51), (r0, 6, 7, .int qv_51), (r0, 6, 8, .int qu_51)]) [0, 1, 2] rfl ht, by rw [ht]; exact hh_51.2.2.2.2.2.2.2.1.sub [0, 1, 2, 3, 4] rfl⟩⟩, by rw [ht]; try exact hh_51.1.1, fun q h9 hq => by rw [ht]; try exact hh_51.1.2.1 q h9 hq⟩) hh_51.1.2.2 dX4_value_45
set_option maxHeartbeats 4000000 in
set_option maxRecDepth 20000 in
theorem uX4_holderP (l : Launch) (dC : Nat → ClassId) (dI : Nat → Nat → Nat) (ca : Nat → ClassId) (base : Nat) (B : jF) (hB : jBok B) (hAp : jAp (dC, dI)) (hB6 : ∀ n G a H, B 6 n G a H ↔ jOb (dC, dI) 6 12 (F6 n G) a H) (hB100 : ∀ n G a H, B 100 n G a H ↔ jAr (dC, dI) (ca 0) (fun j z => True) n a H) (hB140 : ∀ n G a H, B 140 n G a H ↔ jAr (dC, dI) (ca 1) (fun j z => True) n a H) (hB141 : ∀ n G a H, B 141 n G a H ↔ jAr (dC, dI) (ca 1) (fun j z => True) n a H) (hB142 : ∀ n G a H, B 142 n G a H ↔ jAr (dC, dI) (ca 1) (fun j z => True) n a H) (hB143 : ∀ n G a H, B 143 n G a H ↔ jAr (dC, dI) (ca 1) (fun j z => True) n a H) (hB144 : ∀ n G a H, B 144 n G a H ↔ jAr (dC, dI) (ca 1) (fun j z => 0 ≤ z.toInt ∧ z.toInt ≤ 3000) n a H) (hB145 : ∀ n G a H, B 145 n G a H ↔ jAr (dC, dI) (ca 1) (fun j z => True) n a H) (hB146 : ∀ n G a H, B 146 n G a H ↔ jAr (dC, dI) (ca 1) (fun j z => True) n a H) (ef : Nat) (hV : qX4_valueP l dC dI ca base B ef) (G0 : jT) (H0 : Heap) (r0 : Nat) (a1 : Int32) (a2 : Int32) (rb : Nat) (n_rb : Nat) (pe : Int32) (pt : Int32) (pv : Int32) (pu : Int32) (wk : Nat) (wi : Nat) (wz : Nat) (jkf : Nat) (jks : Nat) (fk : Nat → Int32) (fi : Nat → Int32) (fz : Nat → Int32) (fa : Nat → Int32) (fs : Nat → Int32) : Met l yX4_holder (jw yX4_holder cX4_holder 11 (some .int)) ({ frames := 2 * ef + 9, cells := 0, slots := 0, locals := 130 * ef + 560 }) (va_Pc [.ref r0, .int a1, .int a2] (fun U => U.heap = H0 ∧ jX B base G0 [] H0 ∧ jG dC dI ca base U ∧ G0 r0 = some (6, 0) ∧ (a2 = 0 ∨ a2 = 1) ∧ G0 rb = some (100, n_rb) ∧ G0 wk = some (140, 1502) ∧ G0 wi = some (141, 1502) ∧ G0 wz = some (142, 1502) ∧ G0 jkf = some (144, 1502) ∧ G0 jks = some (145, 1502) ∧ jP (dC, dI) G0 H0 [(r0, 6, 9, .ref rb), (r0, 6, 10, .int pe), (r0, 6, 11, .int pt), (r0, 6, 7, .int pv), (r0, 6, 8, .int pu), (r0, 6, 0, .ref wk), (r0, 6, 1, .ref wi), (r0, 6, 2, .ref wz), (r0, 6, 4, .ref jkf), (r0, 6, 5, .ref jks)] ∧ jMc (dC, dI) G0 H0 [(wk, 140, 1502, ca 1, fk), (wi, 141, 1502, ca 1, fi), (wz, 142, 1502, ca 1, fz), (jkf, 144, 1502, ca 1, fa), (jks, 145, 1502, ca 1, fs)] ∧ 0 ≤ pe.toInt ∧ pe.toInt ≤ n_rb ∧ n_rb ≤ 3000 ∧ 0 ≤ pt.toInt ∧ pt.toInt ≤ 19000 ∧ pt.toInt < pe.toInt ∧ 0 ≤ pv.toInt ∧ pv.toInt ≤ 1502 ∧ 0 ≤ pu.toInt ∧ pu.toInt ≤ 3000 ∧ a1.toInt = 10 - ef ∧ ef ≤ 10)) (va_Qi (S := Int32 × Int32 × Int32 × (Nat → Int32) × (Nat → Int32) × (Nat → Int32) × (Nat → Int32) × (Nat → Int32)) (fun r u => (-1 ≤ r.toInt ∧ r.toInt ≤ 1501 ∧ pt.toInt ≤ u.1.toInt ∧ u.1.toInt ≤ pe.toInt + 4 ∧ (r.toInt = -1 ∨ u.1.toInt ≤ pe.toInt) ∧ u.2.1.toInt ≤ 1502 ∧ u.2.2.1.toInt ≤ 3000 ∧ jVr (fk, fi, fz, fa, fs) pv.toInt pu.toInt pt.toInt (u.2.2.2.1, u.2.2.2.2.1, u.2.2.2.2.2.1, u.2.2.2.2.2.2.1, u.2.2.2.2.2.2.2) u.2.1.toInt u.2.2.1.toInt u.1.toInt r.toInt)) (fun u t => jRt (dC, dI) B base G0 EX4_holderP H0 [(r0, 6, 11, .int u.1), (r0, 6, 7, .int u.2.1), (r0, 6, 8, .int u.2.2.1)] t.heap ∧ jMc (dC, dI) G0 t.heap [(wk, 140, 1502, ca 1, u.2.2.2.1), (wi, 141, 1502, ca 1, u.2.2.2.2.1), (wz, 142, 1502, ca 1, u.2.2.2.2.2.1), (jkf, 144, 1502, ca 1, u.2.2.2.2.2.2.1), (jks, 145, 1502, ca 1, u.2.2.2.2.2.2.2)]) (jA base)) 0 0 (jA base) := by
  refine Met.ofW (cc := cX4_holder) (maxL := 11) (ret := (some .int)) (by decide) rfl ?_
  intro p e s m args below meth c s₁ Bd hml hv
  obtain ⟨rfl, hH0, hX, hG, hg_r0, hz_a2, hg_rb, hg_wk, hg_wi, hg_wz, hg_jkf, hg_jks, hP0, hM0, hp0, hp1, hp2, hp3, hp4, hp5, hp6, hp7, hp8, hp9, hp10, hp11⟩ := hv
  have hK := hG.1
  have hx := Bd.exec
  have hb := Bd.bytes
  have hr := Bd.returns
  have hts := atoms_spec (ws := (jw yX4_holder cX4_holder 11 (some .int))) Bd.pre
  have htw : ∀ w ∈ jWl, w.before _ s = true := fun w h => hts w (List.mem_cons_of_mem _ h)
  have hown : s.vm.findClass RX4 = some m.cls := findClass_of_methodNamed Bd.named
  have hlocks := Bd.notSynchronized
  obtain ⟨Q, hQ⟩ : ∃ Q, Q = MQ below (va_Qi (S := Int32 × Int32 × Int32 × (Nat → Int32) × (Nat → Int32) × (Nat → Int32) × (Nat → Int32) × (Nat → Int32)) (fun r u => (-1 ≤ r.toInt ∧ r.toInt ≤ 1501 ∧ pt.toInt ≤ u.1.toInt ∧ u.1.toInt ≤ pe.toInt + 4 ∧ (r.toInt = -1 ∨ u.1.toInt ≤ pe.toInt) ∧ u.2.1.toInt ≤ 1502 ∧ u.2.2.1.toInt ≤ 3000 ∧ jVr (fk, fi, fz, fa, fs) pv.toInt pu.toInt pt.toInt (u.2.2.2.1, u.2.2.2.2.1, u.2.2.2.2.2.1, u.2.2.2.2.2.2.1, u.2.2.2.2.2.2.2) u.2.1.toInt u.2.2.1.toInt u.1.toInt r.toInt)) (fun u t => jRt (dC, dI) B base G0 EX4_holderP H0 [(r0, 6, 11, .int u.1), (r0, 6, 7, .int u.2.1), (r0, 6, 8, .int u.2.2.1)] t.heap ∧ jMc (dC, dI) G0 t.heap [(wk, 140, 1502, ca 1, u.2.2.2.1), (wi, 141, 1502, ca 1, u.2.2.2.2.1), (wz, 142, 1502, ca 1, u.2.2.2.2.2.1), (jkf, 144, 1502, ca 1, u.2.2.2.2.2.2.1), (jks, 145, 1502, ca 1, u.2.2.2.2.2.2.2)]) (jA base)) ([.ref r0, .int a1, .int a2] : List Value).toArray s 0 0 (jA base) := ⟨_, rfl⟩
  rw [← hQ]
  have hl := lv_entry ([.ref r0, .int a1, .int a2]) (n := 11) (Nat.le_of_ble_eq_true rfl)
  rw [lg_entry_eq]
  generalize (lg_sl ([.ref r0, .int a1, .int a2]) ++ List.replicate (11 - (lg_sl ([.ref r0, .int a1, .int a2])).length) Slot.unset).toArray = ls at hl ⊢
  have hl : lv_has ls 11 [(0, .ref r0), (1, .int a1), (2, .int a2)] := hl
  generalize hR : (headSpec (jw yX4_holder cX4_holder 11 (some .int)) ({ frames := 2 * ef + 9, cells := 0, slots := 0, locals := 130 * ef + 560 })).room = R
  subst hH0
  have hh : jSt (dC, dI) B base G0 G0 EX4_holderP s.heap 0 0 [(r0, 6, 9, .ref rb), (r0, 6, 10, .int pe), (r0, 6, 11, .int pt), (r0, 6, 7, .int pv), (r0, 6, 8, .int pu), (r0, 6, 0, .ref wk), (r0, 6, 1, .ref wi), (r0, 6, 2, .ref wz), (r0, 6, 4, .ref jkf), (r0, 6, 5, .ref jks)] [(wk, 140, 1502, ca 1, fk), (wi, 141, 1502, ca 1, fi), (wz, 142, 1502, ca 1, fz), (jkf, 144, 1502, ca 1, fa), (jks, 145, 1502, ca 1, fs)] [] s.heap [] := jSt.start hX hP0 hM0 jIs.nil
  clear hX hP0
  have hkm1 : ((-1) : Int32).toInt = (-1) := by decide
  have hk0 : (0 : Int32).toInt = 0 := by decide
  have hk1 : (1 : Int32).toInt = 1 := by decide
  have hk2 : (2 : Int32).toInt = 2 := by decide
  have hk44 : (44 : Int32).toInt = 44 := by decide
  have hk93 : (93 : Int32).toInt = 93 := by decide
  have hk125 : (125 : Int32).toInt = 125 := by decide
  have hk1502 : (1502 : Int32).toInt = 1502 := by decide
  have hly_6_1 := htw (u_lay RX4 TX4 1) (jWc_wsX40 _ (u_in_lay (by decide)))
  have hly_6_2 := htw (u_lay RX4 TX4 2) (jWc_wsX40 _ (u_in_lay (by decide)))
  have hly_6_3 := htw (u_lay RX4 TX4 3) (jWc_wsX40 _ (u_in_lay (by decide)))
  have hly_6_4 := htw (u_lay RX4 TX4 4) (jWc_wsX40 _ (u_in_lay (by decide)))
  have hly_6_5 := htw (u_lay RX4 TX4 5) (jWc_wsX40 _ (u_in_lay (by decide)))
  have hly_6_8 := htw (u_lay RX4 TX4 8) (jWc_wsX40 _ (u_in_lay (by decide)))
  have hly_6_11 := htw (u_lay RX4 TX4 11) (jWc_wsX40 _ (u_in_lay (by decide)))
  have hlk_47 := (htw (.fieldLink RX4 47 "ProofServer$Json" "at" "I") (jWr_19 _ (List.mem_of_getElem? (i := 12) rfl)))
  have hlk_53 := (htw (.fieldLink RX4 53 "ProofServer$Json" "unitCount" "I") (jWr_19 _ (List.mem_of_getElem? (i := 14) rfl)))
  have hlk_24 := (htw (.fieldLink RX4 24 "ProofServer$Json" "keyFirsts" "[I") (jWr_4 _ (List.mem_of_getElem? (i := 1) rfl)))
  have hlk_27 := (htw (.fieldLink RX4 27 "ProofServer$Json" "keySizes" "[I") (jWr_4 _ (List.mem_of_getElem? (i := 2) rfl)))
  have hlk_15 := (htw (.fieldLink RX4 15 "ProofServer$Json" "firsts" "[I") (jWr_3 _ (List.mem_of_getElem? (i := 22) rfl)))
  have hlk_21 := (htw (.fieldLink RX4 21 "ProofServer$Json" "nexts" "[I") (jWr_4 _ (List.mem_of_getElem? (i := 0) rfl)))
  have hlk_18 := (htw (.fieldLink RX4 18 "ProofServer$Json" "sizes" "[I") (jWr_3 _ (List.mem_of_getElem? (i := 23) rfl)))
  have hrg_a1 := jb_rng a1
  have hrg_a2 := jb_rng a2
  obtain ⟨CZ, hCZ⟩ : ∃ q : jC, q = (fk, fi, fz, fa, fs) := ⟨_, rfl⟩
  have hza2 := jb_01 hz_a2
  refine lv_aload_n hx hb dX4_holder_0 rfl (lv_at hl 0 rfl) ?_
  refine lv_iload_n hx hb dX4_holder_1 rfl (lv_at hl 2 rfl) ?_
  have C10 : ∀ (w0_1 : Int32) (H_1 : Heap) (locs_1 : List Loc), jSt (dC, dI) B base G0 G0 EX4_holderP s.heap 0 0 [(r0, 6, 9, .ref rb), (r0, 6, 10, .int pe), (r0, 6, 11, .int pt), (r0, 6, 7, .int pv), (r0, 6, 8, .int pu), (r0, 6, 0, .ref wk), (r0, 6, 1, .ref wi), (r0, 6, 2, .ref wz), (r0, 6, 4, .ref jkf), (r0, 6, 5, .ref jks)] [(wk, 140, 1502, ca 1, fk), (wi, 141, 1502, ca 1, fi), (wz, 142, 1502, ca 1, fz), (jkf, 144, 1502, ca 1, fa), (jks, 145, 1502, ca 1, fs)] [] H_1 locs_1 → (1 ≤ w0_1.toInt ∧ w0_1.toInt ≤ 2) → ∀ ls : Array Slot, lv_has ls 11 [(0, .ref r0), (1, .int a1), (2, .int a2)] → W p l e R s m ([.ref r0, .int a1, .int a2] : List Value).toArray below meth c H_1 locs_1 0 0 Q (F0 m 10 ls [.int w0_1, .ref r0]) := by
    intro w0_1 H_1 locs_1 hh_1  hi_1 ls hl
    obtain ⟨hi_1_0, hi_1_1⟩ := hi_1
    refine lv_iconst (v := (-1)) hx hb dX4_holder_10 (by decide) ?_
    refine lv_iconst (v := 0) hx hb dX4_holder_11 (by decide) ?_
    refine va_calli (A0 := jA base) (H0 := s.heap) (va_runV (As := [.int w0_1, .int (-1), .int 0]) (rest := []) ⟨hx, hb, hml, hown, hts⟩ (uX4_makeP l dC dI ca base B hB hAp hB6 hB140 hB141 hB142 hB143 hB144 hB145 G0 H_1 r0 w0_1 (-1) 0 pv wk wi wz jkf jks fk fi fz fa fs) (cwV 3 hts (jgV (jWr_22 _ (List.mem_of_getElem? (i := 10) rfl)) (jWr_22 _ (List.mem_of_getElem? (i := 11) rfl)) (jWr_22 _ (List.mem_of_getElem? (i := 12) rfl)) (jWr_1 _ (List.mem_of_getElem? (i := 22) rfl)) (jWr_22 _ (List.mem_of_getElem? (i := 13) rfl))) rfl rfl rfl (by decide +kernel) ⟨by rw [← hR]; show (0) + 1 ≤ 2 * ef + 9; omega, by rw [← hR]; show 8 + (4 + 11) + (0) ≤ 130 * ef + 560; omega⟩) ⟨fun a U g mk q => by obtain ⟨q0, q1, q2, qK, q10, q11, q12, q13, q14, q15, q16, q17, q18⟩ := q; exact ⟨q0, q1, q2, jG.calling g mk a qK, q10, q11, q12, q13, q14, q15, q16, q17, q18⟩, hh_1.recv (C := RX4) (T := TX4) (N := 12) hB6 rfl (by decide) hg_r0 hK, fun U hU hW => ⟨rfl, hU, hh_1.2.1, hG.step hW hU hh_1.1, hg_r0, hg_wk, hg_wi, hg_wz, hg_jkf, hg_jks, (hh_1.2.2.1.sub (L1 := [(r0, 6, 7, .int pv), (r0, 6, 0, .ref wk), (r0, 6, 1, .ref wi), (r0, 6, 2, .ref wz), (r0, 6, 4, .ref jkf), (r0, 6, 5, .ref jks)]) [3, 5, 6, 7, 8, 9] rfl), (hh_1.2.2.2.2.2.2.2.1.sub (L1 := [(wk, 140, 1502, ca 1, fk), (wi, 141, 1502, ca 1, fi), (wz, 142, 1502, ca 1, fz), (jkf, 144, 1502, ca 1, fa), (jks, 145, 1502, ca 1, fs)]) [0, 1, 2, 3, 4] rfl), by first | omega | (refine ⟨?_, ?_⟩ <;> (first | omega | rfl | assumption | decide | exact Or.inl rfl | exact Or.inr rfl | (simp only; omega)))⟩⟩ rfl rfl hl.1 rfl (lv_room (Nat.le_of_ble_eq_true rfl)) dX4_holder_12 ⟨Nat.zero_le _, Nat.zero_le _⟩) hh_1.1 (fun q _ h => h) (fun q h => h) (fun r_3 u_2 t_2 H_2 locs_2 ht_2 hvm_2 hr_3 hb_2 hz_2 hk_2 hS_2 => ?_)
    obtain ⟨qv_2, gk_2, gi_2, gz_2, ga_2, gs_2⟩ := u_2
    rw [ht_2] at hb_2
    obtain ⟨⟨hb_21, hb_22, hb_23, hb_24, hb_25⟩, hb_26⟩ := hb_2
    have hh_2 : jSt (dC, dI) B base G0 G0 EX4_holderP s.heap 0 0 [(r0, 6, 7, .int qv_2), (r0, 6, 9, .ref rb), (r0, 6, 10, .int pe), (r0, 6, 11, .int pt), (r0, 6, 8, .int pu), (r0, 6, 0, .ref wk), (r0, 6, 1, .ref wi), (r0, 6, 2, .ref wz), (r0, 6, 4, .ref jkf), (r0, 6, 5, .ref jks)] [(wk, 140, 1502, ca 1, gk_2), (wi, 141, 1502, ca 1, gi_2), (wz, 142, 1502, ca 1, gz_2), (jkf, 144, 1502, ca 1, ga_2), (jks, 145, 1502, ca 1, gs_2)] [] H_2 locs_2 := ((hh_1.call hb_21 hb_22 hb_23 hb_24 hS_2 rfl (L1 := [(r0, 6, 9, .ref rb), (r0, 6, 10, .int pe), (r0, 6, 11, .int pt), (r0, 6, 8, .int pu), (r0, 6, 0, .ref wk), (r0, 6, 1, .ref wi), (r0, 6, 2, .ref wz), (r0, 6, 4, .ref jkf), (r0, 6, 5, .ref jks)]) [0, 1, 2, 4, 5, 6, 7, 8, 9] rfl rfl (M1 := []) [] rfl rfl (I1 := []) [] rfl rfl).more hb_25).moreM hb_26
    clear hh_1 ht_2 hvm_2 hz_2 hk_2 hS_2 hb_21 hb_22 hb_23 hb_24 hb_25
    clear hb_26
    try simp only at hr_3
    obtain ⟨hr_3_0, hr_3_1, hr_3_2, hr_3_3⟩ := hr_3
    refine lv_istore_n (lv' := [(3, .int r_3), (0, .ref r0), (1, .int a1), (2, .int a2)]) hx hb dX4_holder_15 rfl hl (by decide) rfl (fun ls hl => ?_)
    refine lv_iload_n hx hb dX4_holder_16 rfl (lv_at hl 3 rfl) ?_
    have C27 : ∀ (w0_4 : Int32) (H_4 : Heap) (locs_4 : List Loc), jSt (dC, dI) B base G0 G0 EX4_holderP s.heap 0 0 [(r0, 6, 7, .int qv_2), (r0, 6, 9, .ref rb), (r0, 6, 10, .int pe), (r0, 6, 11, .int pt), (r0, 6, 8, .int pu), (r0, 6, 0, .ref wk), (r0, 6, 1, .ref wi), (r0, 6, 2, .ref wz), (r0, 6, 4, .ref jkf), (r0, 6, 5, .ref jks)] [(wk, 140, 1502, ca 1, gk_2), (wi, 141, 1502, ca 1, gi_2), (wz, 142, 1502, ca 1, gz_2), (jkf, 144, 1502, ca 1, ga_2), (jks, 145, 1502, ca 1, gs_2)] [] H_4 locs_4 → (93 ≤ w0_4.toInt ∧ w0_4.toInt ≤ 125) → ∀ ls : Array Slot, lv_has ls 11 [(0, .ref r0), (1, .int a1), (2, .int a2), (3, .int r_3)] → W p l e R s m ([.ref r0, .int a1, .int a2] : List Value).toArray below meth c H_4 locs_4 0 0 Q (F0 m 27 ls [.int w0_4]) := by
      intro w0_4 H_4 locs_4 hh_4  hi_4 ls hl
      obtain ⟨hi_4_0, hi_4_1⟩ := hi_4
      refine lv_istore (lv' := [(4, .int w0_4), (0, .ref r0), (1, .int a1), (2, .int a2), (3, .int r_3)]) hx hb dX4_holder_27 hl (by decide) rfl (fun ls hl => ?_)
      refine lv_aload_n hx hb dX4_holder_29 rfl (lv_at hl 1 rfl) ?_
      refine lv_dup hx hb dX4_holder_30 rfl ?_
      refine j7_read hx hb hown hK (C := RX4) (T := TX4) (N := 12) rfl hly_6_11 hlk_47 (hh_4.at 3 rfl) dX4_holder_31 ?_
      refine lv_iconst (v := 1) hx hb dX4_holder_34 (by decide) ?_
      refine lv_iadd hx hb dX4_holder_35 ?_
      refine lv_topi (fun z_5 ez_5 => ?_)
      have hz_5 : z_5.toInt = pt.toInt + 1 := by rw [ez_5]; exact jb_iadd2 (rfl) ((by decide)) (by omega)
      refine j7_put hx hb hown hK hh_4 hB hAp hB6 (C := RX4) (T := TX4) (N := 12) rfl (by decide) hg_r0 (i := 11) (by decide) hly_6_11 rfl hlk_47 rfl (ty := .int) (v := .int z_5) (by decide +kernel) rfl rfl (⟨_, rfl, by omega, by omega⟩) rfl (L1 := [(r0, 6, 7, .int qv_2), (r0, 6, 9, .ref rb), (r0, 6, 10, .int pe), (r0, 6, 8, .int pu), (r0, 6, 0, .ref wk), (r0, 6, 1, .ref wi), (r0, 6, 2, .ref wz), (r0, 6, 4, .ref jkf), (r0, 6, 5, .ref jks)]) [0, 1, 2, 4, 5, 6, 7, 8, 9] rfl rfl rfl dX4_holder_36 (fun H_6 locs_6 hh_6 => ?_)
      clear hh_4
      refine lv_aload_n hx hb dX4_holder_39 rfl (lv_at hl 1 rfl) ?_
      refine va_callv (A0 := jA base) (H0 := s.heap) (va_runV (As := []) (rest := []) ⟨hx, hb, hml, hown, hts⟩ (uX4_skipBlanks l dC dI ca base B hB hAp hB6 hB100 G0 H_6 r0 rb n_rb pe z_5 pe.toInt) (cwV 0 hts (jgV (jWr_19 _ (List.mem_of_getElem? (i := 15) rfl)) (jWr_19 _ (List.mem_of_getElem? (i := 16) rfl)) (jWr_19 _ (List.mem_of_getElem? (i := 17) rfl)) (jWr_1 _ (List.mem_of_getElem? (i := 22) rfl)) (jWr_19 _ (List.mem_of_getElem? (i := 18) rfl))) rfl rfl rfl (by decide +kernel) ⟨by rw [← hR]; show (1) + 1 ≤ 2 * ef + 9; omega, by rw [← hR]; show 8 + (1 + 11) + (20) ≤ 130 * ef + 560; omega⟩) ⟨fun a U g mk q => by obtain ⟨q0, q1, q2, qK, q10, q11, q12, q13⟩ := q; exact ⟨q0, q1, q2, jG.calling g mk a qK, q10, q11, q12, q13⟩, hh_6.recv (C := RX4) (T := TX4) (N := 12) hB6 rfl (by decide) hg_r0 hK, fun U hU hW => ⟨rfl, hU, hh_6.2.1, hG.step hW hU hh_6.1, hg_r0, hg_rb, (hh_6.2.2.1.sub (L1 := [(r0, 6, 9, .ref rb), (r0, 6, 10, .int pe), (r0, 6, 11, .int z_5)]) [2, 3, 0] rfl), by first | omega | (refine ⟨?_, ?_, ?_, ?_, ?_, ?_, ?_, ?_⟩ <;> (first | omega | rfl | assumption | decide | exact Or.inl rfl | exact Or.inr rfl | (simp only; omega)))⟩⟩ rfl rfl hl.1 rfl (lv_room (Nat.le_of_ble_eq_true rfl)) dX4_holder_40 ⟨Nat.zero_le _, Nat.zero_le _⟩) hh_6.1 (fun q _ h => h) (fun q h => h) (fun u_7 t_7 H_7 locs_7 ht_7 hvm_7 hr_8 hb_7 hz_7 hk_7 hS_7 => ?_)
      obtain ⟨qt_7, rfl⟩ : ∃ z, z = u_7 := ⟨_, rfl⟩
      rw [ht_7] at hb_7
      obtain ⟨hb_71, hb_72, hb_73, hb_74, hb_75⟩ := hb_7
      have hh_7 : jSt (dC, dI) B base G0 G0 EX4_holderP s.heap 0 0 [(r0, 6, 11, .int qt_7), (r0, 6, 7, .int qv_2), (r0, 6, 9, .ref rb), (r0, 6, 10, .int pe), (r0, 6, 8, .int pu), (r0, 6, 0, .ref wk), (r0, 6, 1, .ref wi), (r0, 6, 2, .ref wz), (r0, 6, 4, .ref jkf), (r0, 6, 5, .ref jks)] [(wk, 140, 1502, ca 1, gk_2), (wi, 141, 1502, ca 1, gi_2), (wz, 142, 1502, ca 1, gz_2), (jkf, 144, 1502, ca 1, ga_2), (jks, 145, 1502, ca 1, gs_2)] [] H_7 locs_7 := ((hh_6.call hb_71 hb_72 hb_73 hb_74 hS_7 rfl (L1 := [(r0, 6, 7, .int qv_2), (r0, 6, 9, .ref rb), (r0, 6, 10, .int pe), (r0, 6, 8, .int pu), (r0, 6, 0, .ref wk), (r0, 6, 1, .ref wi), (r0, 6, 2, .ref wz), (r0, 6, 4, .ref jkf), (r0, 6, 5, .ref jks)]) [1, 2, 3, 4, 5, 6, 7, 8, 9] rfl rfl (M1 := [(wk, 140, 1502, ca 1, gk_2), (wi, 141, 1502, ca 1, gi_2), (wz, 142, 1502, ca 1, gz_2), (jkf, 144, 1502, ca 1, ga_2), (jks, 145, 1502, ca 1, gs_2)]) [0, 1, 2, 3, 4] rfl rfl (I1 := []) [] rfl rfl).more hb_75)
      clear hh_6 ht_7 hvm_7 hz_7 hk_7 hS_7 hb_71 hb_72 hb_73 hb_74 hb_75
      obtain ⟨hr_8_0, hr_8_1⟩ := hr_8
      refine lv_aload_n hx hb dX4_holder_43 rfl (lv_at hl 1 rfl) ?_
      refine va_calli (A0 := jA base) (H0 := s.heap) (va_runV (As := []) (rest := []) ⟨hx, hb, hml, hown, hts⟩ (uX4_peek l dC dI ca base B hB hAp hB6 hB100 G0 H_7 r0 rb n_rb pe qt_7) (cwV 0 hts (jgV (jWr_19 _ (List.mem_of_getElem? (i := 19) rfl)) (jWr_19 _ (List.mem_of_getElem? (i := 20) rfl)) (jWr_19 _ (List.mem_of_getElem? (i := 21) rfl)) (jWr_1 _ (List.mem_of_getElem? (i := 22) rfl)) (jWr_19 _ (List.mem_of_getElem? (i := 22) rfl))) rfl rfl rfl (by decide +kernel) ⟨by rw [← hR]; show (0) + 1 ≤ 2 * ef + 9; omega, by rw [← hR]; show 8 + (1 + 11) + (0) ≤ 130 * ef + 560; omega⟩) ⟨fun a U g mk q => by obtain ⟨q0, q1, q2, qK, q10, q11, q12, q13⟩ := q; exact ⟨q0, q1, q2, jG.calling g mk a qK, q10, q11, q12, q13⟩, hh_7.recv (C := RX4) (T := TX4) (N := 12) hB6 rfl (by decide) hg_r0 hK, fun U hU hW => ⟨rfl, hU, hh_7.2.1, hG.step hW hU hh_7.1, hg_r0, hg_rb, (hh_7.2.2.1.sub (L1 := [(r0, 6, 9, .ref rb), (r0, 6, 10, .int pe), (r0, 6, 11, .int qt_7)]) [2, 3, 0] rfl), by first | omega | (refine ⟨?_, ?_, ?_, ?_, ?_⟩ <;> (first | omega | rfl | assumption | decide | exact Or.inl rfl | exact Or.inr rfl | (simp only; omega)))⟩⟩ rfl rfl hl.1 rfl (lv_room (Nat.le_of_ble_eq_true rfl)) dX4_holder_44 ⟨Nat.zero_le _, Nat.zero_le _⟩) hh_7.1 (fun q _ h => h) (fun q h => h) (fun r_10 u_9 t_9 H_9 locs_9 ht_9 hvm_9 hr_10 hb_9 hz_9 hk_9 hS_9 => ?_)
      rw [ht_9] at hb_9
      obtain ⟨hb_91, hb_92, hb_93, hb_94, hb_95⟩ := hb_9
      have hh_9 : jSt (dC, dI) B base G0 G0 EX4_holderP s.heap 0 0 [(r0, 6, 11, .int qt_7), (r0, 6, 7, .int qv_2), (r0, 6, 9, .ref rb), (r0, 6, 10, .int pe), (r0, 6, 8, .int pu), (r0, 6, 0, .ref wk), (r0, 6, 1, .ref wi), (r0, 6, 2, .ref wz), (r0, 6, 4, .ref jkf), (r0, 6, 5, .ref jks)] [(wk, 140, 1502, ca 1, gk_2), (wi, 141, 1502, ca 1, gi_2), (wz, 142, 1502, ca 1, gz_2), (jkf, 144, 1502, ca 1, ga_2), (jks, 145, 1502, ca 1, gs_2)] [] H_9 locs_9 := ((hh_7.call hb_91 hb_92 hb_93 hb_94 hS_9 rfl (L1 := [(r0, 6, 11, .int qt_7), (r0, 6, 7, .int qv_2), (r0, 6, 9, .ref rb), (r0, 6, 10, .int pe), (r0, 6, 8, .int pu), (r0, 6, 0, .ref wk), (r0, 6, 1, .ref wi), (r0, 6, 2, .ref wz), (r0, 6, 4, .ref jkf), (r0, 6, 5, .ref jks)]) [0, 1, 2, 3, 4, 5, 6, 7, 8, 9] rfl rfl (M1 := [(wk, 140, 1502, ca 1, gk_2), (wi, 141, 1502, ca 1, gi_2), (wz, 142, 1502, ca 1, gz_2), (jkf, 144, 1502, ca 1, ga_2), (jks, 145, 1502, ca 1, gs_2)]) [0, 1, 2, 3, 4] rfl rfl (I1 := []) [] rfl rfl).more hb_95)
      clear hh_7 ht_9 hvm_9 hz_9 hk_9 hS_9 hb_91 hb_92 hb_93 hb_94 hb_95
      obtain ⟨hr_10_0, hr_10_1, hr_10_2⟩ := hr_10
      refine lv_iload hx hb dX4_holder_47 (lv_at hl 0 rfl) ?_
      refine lv_icmp_ne (tgt := 64) hx hb dX4_holder_49 (by decide) (fun c_11 => ?_) (fun c_11 => ?_)
      · skip
        have c_11' : r_10.toInt ≠ w0_4.toInt := jb_ne (rfl) (rfl) c_11
        try clear hr_10_2
        refine lv_iconst (v := (-1)) hx hb dX4_holder_64 (by decide) ?_
        refine lv_istore (lv' := [(5, .int (-1)), (4, .int w0_4), (0, .ref r0), (1, .int a1), (2, .int a2), (3, .int r_3)]) hx hb dX4_holder_65 hl (by decide) rfl (fun ls hl => ?_)
        refine lv_iconst (v := 0) hx hb dX4_holder_67 (by decide) ?_
        refine lv_istore (lv' := [(6, .int 0), (5, .int (-1)), (4, .int w0_4), (0, .ref r0), (1, .int a1), (2, .int a2), (3, .int r_3)]) hx hb dX4_holder_68 hl (by decide) rfl (fun ls hl => ?_)
        have L70 : ∀ (N : Nat) (v5_12 : Int32) (v6_12 : Int32) (wt_12 : Int32) (wv_12 : Int32) (wu_12 : Int32) (fk_12 : Nat → Int32) (fi_12 : Nat → Int32) (fz_12 : Nat → Int32) (fa_12 : Nat → Int32) (fs_12 : Nat → Int32) (H_12 : Heap) (locs_12 : List Loc), jSt (dC, dI) B base G0 G0 EX4_holderP s.heap 0 0 [(r0, 6, 11, .int wt_12), (r0, 6, 7, .int wv_12), (r0, 6, 8, .int wu_12), (r0, 6, 9, .ref rb), (r0, 6, 10, .int pe), (r0, 6, 0, .ref wk), (r0, 6, 1, .ref wi), (r0, 6, 2, .ref wz), (r0, 6, 4, .ref jkf), (r0, 6, 5, .ref jks)] [(jks, 145, 1502, ca 1, fs_12), (jkf, 144, 1502, ca 1, fa_12), (wz, 142, 1502, ca 1, fz_12), (wi, 141, 1502, ca 1, fi_12), (wk, 140, 1502, ca 1, fk_12)] [] H_12 locs_12 → (-1 ≤ v5_12.toInt ∧ v5_12.toInt ≤ 1501 ∧ 0 ≤ v6_12.toInt ∧ v6_12.toInt ≤ 1502 ∧ pt.toInt ≤ wt_12.toInt ∧ wt_12.toInt ≤ pe.toInt ∧ pv.toInt ≤ wv_12.toInt ∧ wv_12.toInt ≤ 1502 ∧ wu_12.toInt ≤ 3000 ∧ jJr CZ pv.toInt pu.toInt (fk_12, fi_12, fz_12, fa_12, fs_12) wv_12.toInt wu_12.toInt ∧ jHv CZ pv.toInt pu.toInt pt.toInt (fk_12, fi_12, fz_12, fa_12, fs_12) wv_12.toInt wu_12.toInt wt_12.toInt r_3.toInt 0 ∧ pu.toInt ≤ wu_12.toInt ∧ (r_3.toInt < 0 ∨ (r_3.toInt = pv.toInt ∧ pv.toInt < wv_12.toInt))) → (1502 - v6_12.toInt : Int) < N → ∀ ls : Array Slot, lv_has ls 11 [(0, .ref r0), (1, .int a1), (2, .int a2), (3, .int r_3), (4, .int w0_4), (5, .int v5_12), (6, .int v6_12)] → W p l e R s m ([.ref r0, .int a1, .int a2] : List Value).toArray below meth c H_12 locs_12 0 0 Q (F0 m 70 ls []) := by
          intro N
          induction N with
          | zero => intro v5_12 v6_12 wt_12 wv_12 wu_12 fk_12 fi_12 fz_12 fa_12 fs_12 H_12 locs_12 hh_12  hi_12 hm; exact absurd hm (by omega)
          | succ N L70 =>
            intro v5_12 v6_12 wt_12 wv_12 wu_12 fk_12 fi_12 fz_12 fa_12 fs_12 H_12 locs_12 hh_12  hi_12 hm_12 ls hl
            obtain ⟨hi_12_0, hi_12_1, hi_12_2, hi_12_3, hi_12_4, hi_12_5, hi_12_6, hi_12_7, hi_12_8, hi_12_9, hi_12_10, hi_12_11, hi_12_12⟩ := hi_12
            try clear hr_3_0; try clear hr_3_3
            refine lv_iload hx hb dX4_holder_70 (lv_at hl 6 rfl) ?_
            refine lv_sipush (v := 1502) hx hb dX4_holder_72 (by decide) ?_
            refine lv_icmp_ge (tgt := 244) hx hb dX4_holder_75 (by decide) (fun c_13 => ?_) (fun c_13 => ?_)
            · skip
              have c_13' : v6_12.toInt ≥ 1502 := jb_ge (rfl) ((by decide)) c_13
              refine lv_iconst (v := (-1)) hx hb dX4_holder_244 (by decide) ?_
              rw [hQ]
              exact W.iret (v := (-1)) hx hb hr (fun t ht hW => ⟨⟨(-1), (wt_12, wv_12, wu_12, fk_12, fi_12, fz_12, fa_12, fs_12), rfl, by (try dsimp only); refine ⟨by omega, by omega, by omega, by omega, by omega, by omega, by omega, ?_⟩; exact jVr.cg hCZ ⟨hi_12_9.up (by omega), Or.inl (by omega)⟩, ⟨hh_12.rt (M1 := [(r0, 6, 11, .int wt_12), (r0, 6, 7, .int wv_12), (r0, 6, 8, .int wu_12)]) [0, 1, 2] rfl ht, by rw [ht]; exact hh_12.2.2.2.2.2.2.2.1.sub [4, 3, 2, 1, 0] rfl⟩⟩, by rw [ht]; try exact hh_12.1.1, fun q h9 hq => by rw [ht]; try exact hh_12.1.2.1 q h9 hq⟩) hh_12.1.2.2 dX4_holder_245
            · skip
              have c_13' : v6_12.toInt < 1502 := jb_ge_n (rfl) ((by decide)) c_13
              refine lv_iload_n hx hb dX4_holder_78 rfl (lv_at hl 3 rfl) ?_
              refine lv_if_lt (tgt := 244) hx hb dX4_holder_79 (by decide) (fun c_14 => ?_) (fun c_14 => ?_)
              · skip
                have c_14' : r_3.toInt < 0 := jb_lt (rfl) ((by decide)) c_14
                refine lv_iconst (v := (-1)) hx hb dX4_holder_244 (by decide) ?_
                rw [hQ]
                exact W.iret (v := (-1)) hx hb hr (fun t ht hW => ⟨⟨(-1), (wt_12, wv_12, wu_12, fk_12, fi_12, fz_12, fa_12, fs_12), rfl, by (try dsimp only); refine ⟨by omega, by omega, by omega, by omega, by omega, by omega, by omega, ?_⟩; exact jVr.cg hCZ ⟨hi_12_9.up (by omega), Or.inl (by omega)⟩, ⟨hh_12.rt (M1 := [(r0, 6, 11, .int wt_12), (r0, 6, 7, .int wv_12), (r0, 6, 8, .int wu_12)]) [0, 1, 2] rfl ht, by rw [ht]; exact hh_12.2.2.2.2.2.2.2.1.sub [4, 3, 2, 1, 0] rfl⟩⟩, by rw [ht]; try exact hh_12.1.1, fun q h9 hq => by rw [ht]; try exact hh_12.1.2.1 q h9 hq⟩) hh_12.1.2.2 dX4_holder_245
              · skip
                have c_14' : r_3.toInt ≥ 0 := jb_lt_n (rfl) ((by decide)) c_14
                refine lv_aload_n hx hb dX4_holder_82 rfl (lv_at hl 0 rfl) ?_
                refine j7_read hx hb hown hK (C := RX4) (T := TX4) (N := 12) rfl hly_6_8 hlk_53 (hh_12.at 2 rfl) dX4_holder_83 ?_
                refine lv_istore (lv' := [(7, .int wu_12), (0, .ref r0), (1, .int a1), (2, .int a2), (3, .int r_3), (4, .int w0_4), (5, .int v5_12), (6, .int v6_12)]) hx hb dX4_holder_86 hl (by decide) rfl (fun ls hl => ?_)
                refine lv_iload_n hx hb dX4_holder_88 rfl (lv_at hl 3 rfl) ?_
                have C101 : ∀ (wt_15 : Int32) (wu_15 : Int32) (H_15 : Heap) (locs_15 : List Loc), jSt (dC, dI) B base G0 G0 EX4_holderP s.heap 0 0 [(r0, 6, 11, .int wt_15), (r0, 6, 8, .int wu_15), (r0, 6, 7, .int wv_12), (r0, 6, 9, .ref rb), (r0, 6, 10, .int pe), (r0, 6, 0, .ref wk), (r0, 6, 1, .ref wi), (r0, 6, 2, .ref wz), (r0, 6, 4, .ref jkf), (r0, 6, 5, .ref jks)] [(jks, 145, 1502, ca 1, fs_12), (jkf, 144, 1502, ca 1, fa_12), (wz, 142, 1502, ca 1, fz_12), (wi, 141, 1502, ca 1, fi_12), (wk, 140, 1502, ca 1, fk_12)] [] H_15 locs_15 → (pt.toInt ≤ wt_15.toInt ∧ wt_15.toInt ≤ pe.toInt ∧ wu_12.toInt ≤ wu_15.toInt ∧ wu_15.toInt ≤ 3000 ∧ (a2.toInt = 1 ∨ wu_15.toInt = wu_12.toInt) ∧ jHv CZ pv.toInt pu.toInt pt.toInt (fk_12, fi_12, fz_12, fa_12, fs_12) wv_12.toInt wu_15.toInt wt_15.toInt r_3.toInt (2 * a2.toInt)) → ∀ ls : Array Slot, lv_has ls 11 [(0, .ref r0), (1, .int a1), (2, .int a2), (3, .int r_3), (4, .int w0_4), (5, .int v5_12), (6, .int v6_12), (7, .int wu_12)] → W p l e R s m ([.ref r0, .int a1, .int a2] : List Value).toArray below meth c H_15 locs_15 0 0 Q (F0 m 101 ls []) := by
                  intro wt_15 wu_15 H_15 locs_15 hh_15  hi_15 ls hl
                  obtain ⟨hi_15_0, hi_15_1, hi_15_2, hi_15_3, hi_15_4, hi_15_5⟩ := hi_15
                  refine lv_aload_n hx hb dX4_holder_101 rfl (lv_at hl 0 rfl) ?_
                  refine j7_read hx hb hown hK (C := RX4) (T := TX4) (N := 12) rfl hly_6_8 hlk_53 (hh_15.at 1 rfl) dX4_holder_102 ?_
                  refine lv_iload hx hb dX4_holder_105 (lv_at hl 7 rfl) ?_
                  refine lv_isub hx hb dX4_holder_107 ?_
                  refine lv_topi (fun z_16 ez_16 => ?_)
                  have hz_16 : z_16.toInt = wu_15.toInt - wu_12.toInt := by rw [ez_16]; exact jb_isub2 (rfl) (rfl) (by omega)
                  refine lv_istore (lv' := [(8, .int z_16), (0, .ref r0), (1, .int a1), (2, .int a2), (3, .int r_3), (4, .int w0_4), (5, .int v5_12), (6, .int v6_12), (7, .int wu_12)]) hx hb dX4_holder_108 hl (by decide) rfl (fun ls hl => ?_)
                  refine lv_iload_n hx hb dX4_holder_110 rfl (lv_at hl 3 rfl) ?_
                  have C123 : ∀ (wt_17 : Int32) (wu_17 : Int32) (H_17 : Heap) (locs_17 : List Loc), jSt (dC, dI) B base G0 G0 EX4_holderP s.heap 0 0 [(r0, 6, 11, .int wt_17), (r0, 6, 8, .int wu_17), (r0, 6, 7, .int wv_12), (r0, 6, 9, .ref rb), (r0, 6, 10, .int pe), (r0, 6, 0, .ref wk), (r0, 6, 1, .ref wi), (r0, 6, 2, .ref wz), (r0, 6, 4, .ref jkf), (r0, 6, 5, .ref jks)] [(jks, 145, 1502, ca 1, fs_12), (jkf, 144, 1502, ca 1, fa_12), (wz, 142, 1502, ca 1, fz_12), (wi, 141, 1502, ca 1, fi_12), (wk, 140, 1502, ca 1, fk_12)] [] H_17 locs_17 → (pt.toInt ≤ wt_17.toInt ∧ wt_17.toInt ≤ pe.toInt ∧ wu_12.toInt ≤ wu_17.toInt ∧ wu_17.toInt ≤ 3000 ∧ (a2.toInt = 1 ∨ wu_17.toInt = wu_12.toInt) ∧ jHv CZ pv.toInt pu.toInt pt.toInt (fk_12, fi_12, fz_12, fa_12, fs_12) wv_12.toInt wu_17.toInt wt_17.toInt r_3.toInt (3 * a2.toInt) ∧ z_16.toInt = wu_17.toInt - wu_12.toInt) → ∀ ls : Array Slot, lv_has ls 11 [(0, .ref r0), (1, .int a1), (2, .int a2), (3, .int r_3), (4, .int w0_4), (5, .int v5_12), (6, .int v6_12), (7, .int wu_12), (8, .int z_16)] → W p l e R s m ([.ref r0, .int a1, .int a2] : List Value).toArray below meth c H_17 locs_17 0 0 Q (F0 m 123 ls []) := by
                    intro wt_17 wu_17 H_17 locs_17 hh_17  hi_17 ls hl
                    obtain ⟨hi_17_0, hi_17_1, hi_17_2, hi_17_3, hi_17_4, hi_17_5, hi_17_6⟩ := hi_17
                    refine lv_aload_n hx hb dX4_holder_123 rfl (lv_at hl 0 rfl) ?_
                    refine lv_iload_n hx hb dX4_holder_124 rfl (lv_at hl 1 rfl) ?_
                    refine va_calli (A0 := jA base) (H0 := s.heap) (va_runV (As := [.int a1]) (rest := []) ⟨hx, hb, hml, hown, hts⟩ (hV G0 H_17 r0 a1 rb n_rb pe wt_17 wv_12 wu_17 wk wi wz jkf jks fk_12 fi_12 fz_12 fa_12 fs_12) (cwV 1 hts (jgV (jWr_20 _ (List.mem_of_getElem? (i := 1) rfl)) (jWr_20 _ (List.mem_of_getElem? (i := 2) rfl)) (jWr_20 _ (List.mem_of_getElem? (i := 3) rfl)) (jWr_1 _ (List.mem_of_getElem? (i := 22) rfl)) (jWr_20 _ (List.mem_of_getElem? (i := 4) rfl))) rfl rfl rfl (by decide +kernel) ⟨by rw [← hR]; show (2 * ef + 8) + 1 ≤ 2 * ef + 9; omega, by rw [← hR]; show 8 + (4 + 11) + (130 * ef + 500) ≤ 130 * ef + 560; omega⟩) ⟨fun a U g mk q => by obtain ⟨q0, q1, q2, qK, q10, q11, q12, q13, q14, q15, q16, q17, q18, q19⟩ := q; exact ⟨q0, q1, q2, jG.calling g mk a qK, q10, q11, q12, q13, q14, q15, q16, q17, q18, q19⟩, hh_17.recv (C := RX4) (T := TX4) (N := 12) hB6 rfl (by decide) hg_r0 hK, fun U hU hW => ⟨rfl, hU, hh_17.2.1, hG.step hW hU hh_17.1, hg_r0, hg_rb, hg_wk, hg_wi, hg_wz, hg_jkf, hg_jks, (hh_17.2.2.1.sub (L1 := [(r0, 6, 9, .ref rb), (r0, 6, 10, .int pe), (r0, 6, 11, .int wt_17), (r0, 6, 7, .int wv_12), (r0, 6, 8, .int wu_17), (r0, 6, 0, .ref wk), (r0, 6, 1, .ref wi), (r0, 6, 2, .ref wz), (r0, 6, 4, .ref jkf), (r0, 6, 5, .ref jks)]) [3, 4, 0, 2, 1, 5, 6, 7, 8, 9] rfl), (hh_17.2.2.2.2.2.2.2.1.sub (L1 := [(wk, 140, 1502, ca 1, fk_12), (wi, 141, 1502, ca 1, fi_12), (wz, 142, 1502, ca 1, fz_12), (jkf, 144, 1502, ca 1, fa_12), (jks, 145, 1502, ca 1, fs_12)]) [4, 3, 2, 1, 0] rfl), by first | omega | (refine ⟨?_, ?_, ?_, ?_, ?_, ?_, ?_, ?_, ?_, ?_, ?_, ?_⟩ <;> (first | omega | rfl | assumption | decide | exact Or.inl rfl | exact Or.inr rfl | (simp only; omega)))⟩⟩ rfl rfl hl.1 rfl (lv_room (Nat.le_of_ble_eq_true rfl)) dX4_holder_125 ⟨Nat.zero_le _, Nat.zero_le _⟩) hh_17.1 (fun q _ h => h) (fun q h => h) (fun r_19 u_18 t_18 H_18 locs_18 ht_18 hvm_18 hr_19 hb_18 hz_18 hk_18 hS_18 => ?_)
                    obtain ⟨qt_18, qv_18, qu_18, gk_18, gi_18, gz_18, ga_18, gs_18⟩ := u_18
                    rw [ht_18] at hb_18
                    obtain ⟨⟨hb_181, hb_182, hb_183, hb_184, hb_185⟩, hb_186⟩ := hb_18
                    have hh_18 : jSt (dC, dI) B base G0 G0 EX4_holderP s.heap 0 0 [(r0, 6, 11, .int qt_18), (r0, 6, 7, .int qv_18), (r0, 6, 8, .int qu_18), (r0, 6, 9, .ref rb), (r0, 6, 10, .int pe), (r0, 6, 0, .ref wk), (r0, 6, 1, .ref wi), (r0, 6, 2, .ref wz), (r0, 6, 4, .ref jkf), (r0, 6, 5, .ref jks)] [(wk, 140, 1502, ca 1, gk_18), (wi, 141, 1502, ca 1, gi_18), (wz, 142, 1502, ca 1, gz_18), (jkf, 144, 1502, ca 1, ga_18), (jks, 145, 1502, ca 1, gs_18)] [] H_18 locs_18 := ((hh_17.call hb_181 hb_182 hb_183 hb_184 hS_18 rfl (L1 := [(r0, 6, 9, .ref rb), (r0, 6, 10, .int pe), (r0, 6, 0, .ref wk), (r0, 6, 1, .ref wi), (r0, 6, 2, .ref wz), (r0, 6, 4, .ref jkf), (r0, 6, 5, .ref jks)]) [3, 4, 5, 6, 7, 8, 9] rfl rfl (M1 := []) [] rfl rfl (I1 := []) [] rfl rfl).more hb_185).moreM hb_186
                    clear hh_17 ht_18 hvm_18 hz_18 hk_18 hS_18 hb_181 hb_182 hb_183 hb_184 hb_185
                    clear hb_186
                    try simp only at hr_19
                    obtain ⟨hr_19_0, hr_19_1, hr_19_2, hr_19_3, hr_19_4, hr_19_5, hr_19_6, hr_19_7⟩ := hr_19
                    have h125a := hr_19_7.1.1
                    have h125b := hr_19_7.2
                    refine lv_istore (lv' := [(9, .int r_19), (0, .ref r0), (1, .int a1), (2, .int a2), (3, .int r_3), (4, .int w0_4), (5, .int v5_12), (6, .int v6_12), (7, .int wu_12), (8, .int z_16)]) hx hb dX4_holder_128 hl (by decide) rfl (fun ls hl => ?_)
                    refine lv_iload hx hb dX4_holder_130 (lv_at hl 0 rfl) ?_
                    refine lv_if_ge (tgt := 137) hx hb dX4_holder_132 (by decide) (fun c_20 => ?_) (fun c_20 => ?_)
                    · skip
                      have c_20' : r_19.toInt ≥ 0 := jb_ge (rfl) ((by decide)) c_20
                      first | (have hr_19_4q := hr_19_4.resolve_left (by omega); clear hr_19_4) | (have hr_19_4q := hr_19_4.resolve_right (by omega); clear hr_19_4) | skip
                      refine lv_aload_n hx hb dX4_holder_137 rfl (lv_at hl 1 rfl) ?_
                      refine j7_read hx hb hown hK (C := RX4) (T := TX4) (N := 12) rfl hly_6_4 hlk_24 (hh_18.at 8 rfl) dX4_holder_138 ?_
                      refine lv_iload hx hb dX4_holder_141 (lv_at hl 0 rfl) ?_
                      refine lv_iload hx hb dX4_holder_143 (lv_at hl 8 rfl) ?_
                      refine j7_iastU hx hb hK hh_18 hB hB144 1 rfl (by decide) (by decide) rfl 3 rfl (M1 := [(wk, 140, 1502, ca 1, gk_18), (wi, 141, 1502, ca 1, gi_18), (wz, 142, 1502, ca 1, gz_18), (jks, 145, 1502, ca 1, gs_18)]) [0, 1, 2, 4] rfl rfl rfl hg_jkf (x := r_19.toInt) (rfl) (by omega) (by first | omega | (refine ⟨?_, ?_⟩ <;> (first | omega | rfl | assumption | decide | exact Or.inl rfl | exact Or.inr rfl | (simp only; omega)))) dX4_holder_145 (fun H_21 locs_21 fs_22 hv_21 ho_21 hh_21 => ?_)
                      have hv_21 : jSo fs_22 (r_19.toInt) = wu_12.toInt := by unfold jSo; rw [hv_21]; try exact rfl
                      clear hh_18
                      refine lv_aload_n hx hb dX4_holder_146 rfl (lv_at hl 1 rfl) ?_
                      refine j7_read hx hb hown hK (C := RX4) (T := TX4) (N := 12) rfl hly_6_5 hlk_27 (hh_21.at 9 rfl) dX4_holder_147 ?_
                      refine lv_iload hx hb dX4_holder_150 (lv_at hl 0 rfl) ?_
                      refine lv_iload hx hb dX4_holder_152 (lv_at hl 9 rfl) ?_
                      refine j7_iastU hx hb hK hh_21 hB hB145 1 rfl (by decide) (by decide) rfl 4 rfl (M1 := [(jkf, 144, 1502, ca 1, fs_22), (wk, 140, 1502, ca 1, gk_18), (wi, 141, 1502, ca 1, gi_18), (wz, 142, 1502, ca 1, gz_18)]) [0, 1, 2, 3] rfl rfl rfl hg_jks (x := r_19.toInt) (rfl) (by omega) (trivial) dX4_holder_154 (fun H_23 locs_23 fs_24 hv_23 ho_23 hh_23 => ?_)
                      have hv_23 : jSo fs_24 (r_19.toInt) = z_16.toInt := by unfold jSo; rw [hv_23]; try exact rfl
                      clear hh_21
                      refine lv_iload hx hb dX4_holder_155 (lv_at hl 6 rfl) ?_
                      refine lv_if_ge (tgt := 171) hx hb dX4_holder_157 (by decide) (fun c_25 => ?_) (fun c_25 => ?_)
                      · skip
                        have c_25' : v5_12.toInt ≥ 0 := jb_ge (rfl) ((by decide)) c_25
                        refine lv_aload_n hx hb dX4_holder_171 rfl (lv_at hl 1 rfl) ?_
                        obtain ⟨v_26, hv_26, hh_27⟩ := hh_23.pin (C := RX4) (T := TX4) (N := 12) hB6 rfl (by decide) hg_r0 (i := 3) (by decide) rfl
                        clear hh_23
                        obtain ⟨nexts_28, rfl, hg_nexts_28⟩ := hv_26
                        refine j7_read hx hb hown hK (C := RX4) (T := TX4) (N := 12) rfl hly_6_3 hlk_21 (hh_27.at 0 rfl) dX4_holder_172 ?_
                        refine lv_iload hx hb dX4_holder_175 (lv_at hl 6 rfl) ?_
                        refine lv_iload hx hb dX4_holder_177 (lv_at hl 0 rfl) ?_
                        refine j7_iast hx hb hK hh_27 hB hB143 1 rfl (by decide) (by decide) rfl rfl rfl hg_nexts_28 (x := v5_12.toInt) (rfl) (by omega) (trivial) dX4_holder_179 (fun H_29 locs_29 hh_29 => ?_)
                        clear hh_27
                        refine lv_iload hx hb dX4_holder_180 (lv_at hl 0 rfl) ?_
                        refine lv_istore (lv' := [(5, .int r_19), (9, .int r_19), (0, .ref r0), (1, .int a1), (2, .int a2), (3, .int r_3), (4, .int w0_4), (6, .int v6_12), (7, .int wu_12), (8, .int z_16)]) hx hb dX4_holder_182 hl (by decide) rfl (fun ls hl => ?_)
                        refine lv_aload_n hx hb dX4_holder_184 rfl (lv_at hl 2 rfl) ?_
                        refine j7_read hx hb hown hK (C := RX4) (T := TX4) (N := 12) rfl hly_6_2 hlk_18 (hh_29.at 8 rfl) dX4_holder_185 ?_
                        refine lv_iload_n hx hb dX4_holder_188 rfl (lv_at hl 5 rfl) ?_
                        refine lv_dup2_11 hx hb dX4_holder_189 rfl rfl ?_
                        refine j7_ialdM hx hb hK hh_29 hB142 1 rfl (by decide) hg_wz (x := r_3.toInt) (rfl) (by omega) (j := 4) rfl dX4_holder_190 (fun z_30 ez_30 (hz_30 : True) => ?_)
                        have hqz_30 : z_30.toInt = jSo gz_18 (r_3.toInt) := by unfold jSo; rw [ez_30]
                        refine lv_iconst (v := 1) hx hb dX4_holder_191 (by decide) ?_
                        refine lv_iadd hx hb dX4_holder_192 ?_
                        refine lv_topi (fun z_31 ez_31 => ?_)
                        refine j7_iastU hx hb hK hh_29 hB hB142 1 rfl (by decide) (by decide) rfl 4 rfl (M1 := [(jks, 145, 1502, ca 1, fs_24), (jkf, 144, 1502, ca 1, fs_22), (wk, 140, 1502, ca 1, gk_18), (wi, 141, 1502, ca 1, gi_18)]) [0, 1, 2, 3] rfl rfl rfl hg_wz (x := r_3.toInt) (rfl) (by omega) (trivial) dX4_holder_193 (fun H_32 locs_32 fs_33 hv_32 ho_32 hh_32 => ?_)
                        have hv_32 : jSo fs_33 (r_3.toInt) = z_31.toInt := by unfold jSo; rw [hv_32]; try exact rfl
                        clear hh_29
                        refine lv_aload_n hx hb dX4_holder_194 rfl (lv_at hl 2 rfl) ?_
                        refine va_callv (A0 := jA base) (H0 := s.heap) (va_runV (As := []) (rest := []) ⟨hx, hb, hml, hown, hts⟩ (uX4_skipBlanks l dC dI ca base B hB hAp hB6 hB100 G0 H_32 r0 rb n_rb pe qt_18 pe.toInt) (cwV 0 hts (jgV (jWr_19 _ (List.mem_of_getElem? (i := 15) rfl)) (jWr_19 _ (List.mem_of_getElem? (i := 16) rfl)) (jWr_19 _ (List.mem_of_getElem? (i := 17) rfl)) (jWr_1 _ (List.mem_of_getElem? (i := 22) rfl)) (jWr_19 _ (List.mem_of_getElem? (i := 18) rfl))) rfl rfl rfl (by decide +kernel) ⟨by rw [← hR]; show (1) + 1 ≤ 2 * ef + 9; omega, by rw [← hR]; show 8 + (1 + 11) + (20) ≤ 130 * ef + 560; omega⟩) ⟨fun a U g mk q => by obtain ⟨q0, q1, q2, qK, q10, q11, q12, q13⟩ := q; exact ⟨q0, q1, q2, jG.calling g mk a qK, q10, q11, q12, q13⟩, hh_32.recv (C := RX4) (T := TX4) (N := 12) hB6 rfl (by decide) hg_r0 hK, fun U hU hW => ⟨rfl, hU, hh_32.2.1, hG.step hW hU hh_32.1, hg_r0, hg_rb, (hh_32.2.2.1.sub (L1 := [(r0, 6, 9, .ref rb), (r0, 6, 10, .int pe), (r0, 6, 11, .int qt_18)]) [4, 5, 1] rfl), by first | omega | (refine ⟨?_, ?_, ?_, ?_, ?_, ?_, ?_, ?_⟩ <;> (first | omega | rfl | assumption | decide | exact Or.inl rfl | exact Or.inr rfl | (simp only; omega)))⟩⟩ rfl rfl hl.1 rfl (lv_room (Nat.le_of_ble_eq_true rfl)) dX4_holder_195 ⟨Nat.zero_le _, Nat.zero_le _⟩) hh_32.1 (fun q _ h => h) (fun q h => h) (fun u_34 t_34 H_34 locs_34 ht_34 hvm_34 hr_35 hb_34 hz_34 hk_34 hS_34 => ?_)
                        obtain ⟨qt_34, rfl⟩ : ∃ z, z = u_34 := ⟨_, rfl⟩
                        rw [ht_34] at hb_34
                        obtain ⟨hb_341, hb_342, hb_343, hb_344, hb_345⟩ := hb_34
                        have hh_34 : jSt (dC, dI) B base G0 G0 EX4_holderP s.heap 0 0 [(r0, 6, 11, .int qt_34), (r0, 6, 3, .ref nexts_28), (r0, 6, 7, .int qv_18), (r0, 6, 8, .int qu_18), (r0, 6, 9, .ref rb), (r0, 6, 10, .int pe), (r0, 6, 0, .ref wk), (r0, 6, 1, .ref wi), (r0, 6, 2, .ref wz), (r0, 6, 4, .ref jkf), (r0, 6, 5, .ref jks)] [(wz, 142, 1502, ca 1, fs_33), (jks, 145, 1502, ca 1, fs_24), (jkf, 144, 1502, ca 1, fs_22), (wk, 140, 1502, ca 1, gk_18), (wi, 141, 1502, ca 1, gi_18)] [] H_34 locs_34 := ((hh_32.call hb_341 hb_342 hb_343 hb_344 hS_34 rfl (L1 := [(r0, 6, 3, .ref nexts_28), (r0, 6, 7, .int qv_18), (r0, 6, 8, .int qu_18), (r0, 6, 9, .ref rb), (r0, 6, 10, .int pe), (r0, 6, 0, .ref wk), (r0, 6, 1, .ref wi), (r0, 6, 2, .ref wz), (r0, 6, 4, .ref jkf), (r0, 6, 5, .ref jks)]) [0, 2, 3, 4, 5, 6, 7, 8, 9, 10] rfl rfl (M1 := [(wz, 142, 1502, ca 1, fs_33), (jks, 145, 1502, ca 1, fs_24), (jkf, 144, 1502, ca 1, fs_22), (wk, 140, 1502, ca 1, gk_18), (wi, 141, 1502, ca 1, gi_18)]) [0, 1, 2, 3, 4] rfl rfl (I1 := []) [] rfl rfl).more hb_345)
                        clear hh_32 ht_34 hvm_34 hz_34 hk_34 hS_34 hb_341 hb_342 hb_343 hb_344 hb_345
                        obtain ⟨hr_35_0, hr_35_1⟩ := hr_35
                        refine lv_aload_n hx hb dX4_holder_198 rfl (lv_at hl 2 rfl) ?_
                        refine va_calli (A0 := jA base) (H0 := s.heap) (va_runV (As := []) (rest := []) ⟨hx, hb, hml, hown, hts⟩ (uX4_peek l dC dI ca base B hB hAp hB6 hB100 G0 H_34 r0 rb n_rb pe qt_34) (cwV 0 hts (jgV (jWr_19 _ (List.mem_of_getElem? (i := 19) rfl)) (jWr_19 _ (List.mem_of_getElem? (i := 20) rfl)) (jWr_19 _ (List.mem_of_getElem? (i := 21) rfl)) (jWr_1 _ (List.mem_of_getElem? (i := 22) rfl)) (jWr_19 _ (List.mem_of_getElem? (i := 22) rfl))) rfl rfl rfl (by decide +kernel) ⟨by rw [← hR]; show (0) + 1 ≤ 2 * ef + 9; omega, by rw [← hR]; show 8 + (1 + 11) + (0) ≤ 130 * ef + 560; omega⟩) ⟨fun a U g mk q => by obtain ⟨q0, q1, q2, qK, q10, q11, q12, q13⟩ := q; exact ⟨q0, q1, q2, jG.calling g mk a qK, q10, q11, q12, q13⟩, hh_34.recv (C := RX4) (T := TX4) (N := 12) hB6 rfl (by decide) hg_r0 hK, fun U hU hW => ⟨rfl, hU, hh_34.2.1, hG.step hW hU hh_34.1, hg_r0, hg_rb, (hh_34.2.2.1.sub (L1 := [(r0, 6, 9, .ref rb), (r0, 6, 10, .int pe), (r0, 6, 11, .int qt_34)]) [4, 5, 0] rfl), by first | omega | (refine ⟨?_, ?_, ?_, ?_, ?_⟩ <;> (first | omega | rfl | assumption | decide | exact Or.inl rfl | exact Or.inr rfl | (simp only; omega)))⟩⟩ rfl rfl hl.1 rfl (lv_room (Nat.le_of_ble_eq_true rfl)) dX4_holder_199 ⟨Nat.zero_le _, Nat.zero_le _⟩) hh_34.1 (fun q _ h => h) (fun q h => h) (fun r_37 u_36 t_36 H_36 locs_36 ht_36 hvm_36 hr_37 hb_36 hz_36 hk_36 hS_36 => ?_)
                        rw [ht_36] at hb_36
                        obtain ⟨hb_361, hb_362, hb_363, hb_364, hb_365⟩ := hb_36
                        have hh_36 : jSt (dC, dI) B base G0 G0 EX4_holderP s.heap 0 0 [(r0, 6, 11, .int qt_34), (r0, 6, 3, .ref nexts_28), (r0, 6, 7, .int qv_18), (r0, 6, 8, .int qu_18), (r0, 6, 9, .ref rb), (r0, 6, 10, .int pe), (r0, 6, 0, .ref wk), (r0, 6, 1, .ref wi), (r0, 6, 2, .ref wz), (r0, 6, 4, .ref jkf), (r0, 6, 5, .ref jks)] [(wz, 142, 1502, ca 1, fs_33), (jks, 145, 1502, ca 1, fs_24), (jkf, 144, 1502, ca 1, fs_22), (wk, 140, 1502, ca 1, gk_18), (wi, 141, 1502, ca 1, gi_18)] [] H_36 locs_36 := ((hh_34.call hb_361 hb_362 hb_363 hb_364 hS_36 rfl (L1 := [(r0, 6, 11, .int qt_34), (r0, 6, 3, .ref nexts_28), (r0, 6, 7, .int qv_18), (r0, 6, 8, .int qu_18), (r0, 6, 9, .ref rb), (r0, 6, 10, .int pe), (r0, 6, 0, .ref wk), (r0, 6, 1, .ref wi), (r0, 6, 2, .ref wz), (r0, 6, 4, .ref jkf), (r0, 6, 5, .ref jks)]) [0, 1, 2, 3, 4, 5, 6, 7, 8, 9, 10] rfl rfl (M1 := [(wz, 142, 1502, ca 1, fs_33), (jks, 145, 1502, ca 1, fs_24), (jkf, 144, 1502, ca 1, fs_22), (wk, 140, 1502, ca 1, gk_18), (wi, 141, 1502, ca 1, gi_18)]) [0, 1, 2, 3, 4] rfl rfl (I1 := []) [] rfl rfl).more hb_365)
                        clear hh_34 ht_36 hvm_36 hz_36 hk_36 hS_36 hb_361 hb_362 hb_363 hb_364 hb_365
                        obtain ⟨hr_37_0, hr_37_1, hr_37_2⟩ := hr_37
                        refine lv_istore (lv' := [(10, .int r_37), (5, .int r_19), (9, .int r_19), (0, .ref r0), (1, .int a1), (2, .int a2), (3, .int r_3), (4, .int w0_4), (6, .int v6_12), (7, .int wu_12), (8, .int z_16)]) hx hb dX4_holder_202 hl (by decide) rfl (fun ls hl => ?_)
                        refine lv_aload_n hx hb dX4_holder_204 rfl (lv_at hl 3 rfl) ?_
                        refine lv_dup hx hb dX4_holder_205 rfl ?_
                        refine j7_read hx hb hown hK (C := RX4) (T := TX4) (N := 12) rfl hly_6_11 hlk_47 (hh_36.at 0 rfl) dX4_holder_206 ?_
                        refine lv_iconst (v := 1) hx hb dX4_holder_209 (by decide) ?_
                        refine lv_iadd hx hb dX4_holder_210 ?_
                        refine lv_topi (fun z_38 ez_38 => ?_)
                        have hz_38 : z_38.toInt = qt_34.toInt + 1 := by rw [ez_38]; exact jb_iadd2 (rfl) ((by decide)) (by omega)
                        refine j7_put hx hb hown hK hh_36 hB hAp hB6 (C := RX4) (T := TX4) (N := 12) rfl (by decide) hg_r0 (i := 11) (by decide) hly_6_11 rfl hlk_47 rfl (ty := .int) (v := .int z_38) (by decide +kernel) rfl rfl (⟨_, rfl, by omega, by omega⟩) rfl (L1 := [(r0, 6, 3, .ref nexts_28), (r0, 6, 7, .int qv_18), (r0, 6, 8, .int qu_18), (r0, 6, 9, .ref rb), (r0, 6, 10, .int pe), (r0, 6, 0, .ref wk), (r0, 6, 1, .ref wi), (r0, 6, 2, .ref wz), (r0, 6, 4, .ref jkf), (r0, 6, 5, .ref jks)]) [1, 2, 3, 4, 5, 6, 7, 8, 9, 10] rfl rfl rfl dX4_holder_211 (fun H_39 locs_39 hh_39 => ?_)
                        clear hh_36
                        refine lv_iload hx hb dX4_holder_214 (lv_at hl 0 rfl) ?_
                        refine lv_bipush (v := 44) hx hb dX4_holder_216 (by decide) ?_
                        refine lv_icmp_eq (tgt := 234) hx hb dX4_holder_218 (by decide) (fun c_40 => ?_) (fun c_40 => ?_)
                        · skip
                          have c_40' : r_37.toInt = 44 := jb_eq (rfl) ((by decide)) c_40
                          first | (have hr_37_2q := hr_37_2.resolve_left (by omega); clear hr_37_2) | (have hr_37_2q := hr_37_2.resolve_right (by omega); clear hr_37_2) | skip
                          refine lv_aload_n hx hb dX4_holder_234 rfl (lv_at hl 3 rfl) ?_
                          refine va_callv (A0 := jA base) (H0 := s.heap) (va_runV (As := []) (rest := []) ⟨hx, hb, hml, hown, hts⟩ (uX4_skipBlanks l dC dI ca base B hB hAp hB6 hB100 G0 H_39 r0 rb n_rb pe z_38 pe.toInt) (cwV 0 hts (jgV (jWr_19 _ (List.mem_of_getElem? (i := 15) rfl)) (jWr_19 _ (List.mem_of_getElem? (i := 16) rfl)) (jWr_19 _ (List.mem_of_getElem? (i := 17) rfl)) (jWr_1 _ (List.mem_of_getElem? (i := 22) rfl)) (jWr_19 _ (List.mem_of_getElem? (i := 18) rfl))) rfl rfl rfl (by decide +kernel) ⟨by rw [← hR]; show (1) + 1 ≤ 2 * ef + 9; omega, by rw [← hR]; show 8 + (1 + 11) + (20) ≤ 130 * ef + 560; omega⟩) ⟨fun a U g mk q => by obtain ⟨q0, q1, q2, qK, q10, q11, q12, q13⟩ := q; exact ⟨q0, q1, q2, jG.calling g mk a qK, q10, q11, q12, q13⟩, hh_39.recv (C := RX4) (T := TX4) (N := 12) hB6 rfl (by decide) hg_r0 hK, fun U hU hW => ⟨rfl, hU, hh_39.2.1, hG.step hW hU hh_39.1, hg_r0, hg_rb, (hh_39.2.2.1.sub (L1 := [(r0, 6, 9, .ref rb), (r0, 6, 10, .int pe), (r0, 6, 11, .int z_38)]) [4, 5, 0] rfl), by first | omega | (refine ⟨?_, ?_, ?_, ?_, ?_, ?_, ?_, ?_⟩ <;> (first | omega | rfl | assumption | decide | exact Or.inl rfl | exact Or.inr rfl | (simp only; omega)))⟩⟩ rfl rfl hl.1 rfl (lv_room (Nat.le_of_ble_eq_true rfl)) dX4_holder_235 ⟨Nat.zero_le _, Nat.zero_le _⟩) hh_39.1 (fun q _ h => h) (fun q h => h) (fun u_41 t_41 H_41 locs_41 ht_41 hvm_41 hr_42 hb_41 hz_41 hk_41 hS_41 => ?_)
                          obtain ⟨qt_41, rfl⟩ : ∃ z, z = u_41 := ⟨_, rfl⟩
                          rw [ht_41] at hb_41
                          obtain ⟨hb_411, hb_412, hb_413, hb_414, hb_415⟩ := hb_41
                          have hh_41 : jSt (dC, dI) B base G0 G0 EX4_holderP s.heap 0 0 [(r0, 6, 11, .int qt_41), (r0, 6, 3, .ref nexts_28), (r0, 6, 7, .int qv_18), (r0, 6, 8, .int qu_18), (r0, 6, 9, .ref rb), (r0, 6, 10, .int pe), (r0, 6, 0, .ref wk), (r0, 6, 1, .ref wi), (r0, 6, 2, .ref wz), (r0, 6, 4, .ref jkf), (r0, 6, 5, .ref jks)] [(wz, 142, 1502, ca 1, fs_33), (jks, 145, 1502, ca 1, fs_24), (jkf, 144, 1502, ca 1, fs_22), (wk, 140, 1502, ca 1, gk_18), (wi, 141, 1502, ca 1, gi_18)] [] H_41 locs_41 := ((hh_39.call hb_411 hb_412 hb_413 hb_414 hS_41 rfl (L1 := [(r0, 6, 3, .ref nexts_28), (r0, 6, 7, .int qv_18), (r0, 6, 8, .int qu_18), (r0, 6, 9, .ref rb), (r0, 6, 10, .int pe), (r0, 6, 0, .ref wk), (r0, 6, 1, .ref wi), (r0, 6, 2, .ref wz), (r0, 6, 4, .ref jkf), (r0, 6, 5, .ref jks)]) [1, 2, 3, 4, 5, 6, 7, 8, 9, 10] rfl rfl (M1 := [(wz, 142, 1502, ca 1, fs_33), (jks, 145, 1502, ca 1, fs_24), (jkf, 144, 1502, ca 1, fs_22), (wk, 140, 1502, ca 1, gk_18), (wi, 141, 1502, ca 1, gi_18)]) [0, 1, 2, 3, 4] rfl rfl (I1 := []) [] rfl rfl).more hb_415)
                          clear hh_39 ht_41 hvm_41 hz_41 hk_41 hS_41 hb_411 hb_412 hb_413 hb_414 hb_415
                          obtain ⟨hr_42_0, hr_42_1⟩ := hr_42
                          obtain ⟨z_43, ez_43⟩ : ∃ y : Int32, y = v6_12 + 1 := ⟨_, rfl⟩
                          refine lv_iinc (v := z_43) (lv' := [(6, .int z_43), (10, .int r_37), (5, .int r_19), (9, .int r_19), (0, .ref r0), (1, .int a1), (2, .int a2), (3, .int r_3), (4, .int w0_4), (7, .int wu_12), (8, .int z_16)]) hx hb dX4_holder_238 hl (k := 8) rfl (by rw [ez_43]; rfl) (by decide) rfl (fun ls hl => ?_)
                          have hz_43 : z_43.toInt = v6_12.toInt + 1 := by rw [ez_43]; exact jb_iadd2 (rfl) (by decide) (by omega)
                          refine lv_goto (tgt := 70) hx hb dX4_holder_241 (by decide) ?_
                          exact L70 r_19 z_43 qt_41 qv_18 qu_18 gk_18 gi_18 fs_33 fs_22 fs_24 _ _ (hh_41.sub (L1 := [(r0, 6, 11, .int qt_41), (r0, 6, 7, .int qv_18), (r0, 6, 8, .int qu_18), (r0, 6, 9, .ref rb), (r0, 6, 10, .int pe), (r0, 6, 0, .ref wk), (r0, 6, 1, .ref wi), (r0, 6, 2, .ref wz), (r0, 6, 4, .ref jkf), (r0, 6, 5, .ref jks)]) [0, 2, 3, 4, 5, 6, 7, 8, 9, 10] rfl (M1 := [(jks, 145, 1502, ca 1, fs_24), (jkf, 144, 1502, ca 1, fs_22), (wz, 142, 1502, ca 1, fs_33), (wi, 141, 1502, ca 1, gi_18), (wk, 140, 1502, ca 1, gk_18)]) [1, 2, 0, 4, 3] rfl (I1 := []) [] rfl) (by refine ⟨by omega, by omega, by omega, by omega, by omega, by omega, by omega, by omega, by omega, ?_, ?_, by omega, by omega⟩; exact (jHs hi_12_9 hi_17_5 (by omega) (by omega) hr_19_7 (by omega) (by omega) (by omega) rfl hv_21 ho_21 (hv_23.trans (by omega)) ho_23 (fun _ _ _ => rfl) ho_32 (Int.le_refl _)).1; exact (jHs hi_12_9 hi_17_5 (by omega) (by omega) hr_19_7 (by omega) (by omega) (by omega) rfl hv_21 ho_21 (hv_23.trans (by omega)) ho_23 (fun _ _ _ => rfl) ho_32 (by omega)).2) (by omega) _ (lv_sub hl [4, 5, 6, 7, 8, 2, 0] rfl)
                        · skip
                          have c_40' : r_37.toInt ≠ 44 := jb_eq_n (rfl) ((by decide)) c_40
                          refine lv_iload hx hb dX4_holder_221 (lv_at hl 0 rfl) ?_
                          refine lv_iload hx hb dX4_holder_223 (lv_at hl 7 rfl) ?_
                          refine lv_icmp_ne (tgt := 232) hx hb dX4_holder_225 (by decide) (fun c_44 => ?_) (fun c_44 => ?_)
                          · skip
                            have c_44' : r_37.toInt ≠ w0_4.toInt := jb_ne (rfl) (rfl) c_44
                            refine lv_iconst (v := (-1)) hx hb dX4_holder_232 (by decide) ?_
                            rw [hQ]
                            exact W.iret (v := (-1)) hx hb hr (fun t ht hW => ⟨⟨(-1), (z_38, qv_18, qu_18, gk_18, gi_18, fs_33, fs_22, fs_24), rfl, by (try dsimp only); refine ⟨by omega, by omega, by omega, by omega, by omega, by omega, by omega, ?_⟩; exact jVr.cg hCZ (⟨(jHs hi_12_9 hi_17_5 (by omega) (by omega) hr_19_7 (by omega) (by omega) (by omega) rfl hv_21 ho_21 (hv_23.trans (by omega)) ho_23 (fun _ _ _ => rfl) ho_32 (Int.le_refl _)).1, Or.inl (by omega)⟩), ⟨hh_39.rt (M1 := [(r0, 6, 11, .int z_38), (r0, 6, 7, .int qv_18), (r0, 6, 8, .int qu_18)]) [0, 2, 3] rfl ht, by rw [ht]; exact hh_39.2.2.2.2.2.2.2.1.sub [3, 4, 0, 2, 1] rfl⟩⟩, by rw [ht]; try exact hh_39.1.1, fun q h9 hq => by rw [ht]; try exact hh_39.1.2.1 q h9 hq⟩) hh_39.1.2.2 dX4_holder_233
                          · skip
                            have c_44' : r_37.toInt = w0_4.toInt := jb_ne_n (rfl) (rfl) c_44
                            first | (have hr_37_2q := hr_37_2.resolve_left (by omega); clear hr_37_2) | (have hr_37_2q := hr_37_2.resolve_right (by omega); clear hr_37_2) | skip
                            refine lv_iload_n hx hb dX4_holder_228 rfl (lv_at hl 6 rfl) ?_
                            refine lv_goto (tgt := 233) hx hb dX4_holder_229 (by decide) ?_
                            rw [hQ]
                            exact W.iret (v := r_3) hx hb hr (fun t ht hW => ⟨⟨r_3, (z_38, qv_18, qu_18, gk_18, gi_18, fs_33, fs_22, fs_24), rfl, by (try dsimp only); refine ⟨by omega, by omega, by omega, by omega, by omega, by omega, by omega, ?_⟩; exact jVr.cg hCZ (jHv.end (jHs hi_12_9 hi_17_5 (by omega) (by omega) hr_19_7 (by omega) (by omega) (by omega) rfl hv_21 ho_21 (hv_23.trans (by omega)) ho_23 (fun _ _ _ => rfl) ho_32 (by omega))), ⟨hh_39.rt (M1 := [(r0, 6, 11, .int z_38), (r0, 6, 7, .int qv_18), (r0, 6, 8, .int qu_18)]) [0, 2, 3] rfl ht, by rw [ht]; exact hh_39.2.2.2.2.2.2.2.1.sub [3, 4, 0, 2, 1] rfl⟩⟩, by rw [ht]; try exact hh_39.1.1, fun q h9 hq => by rw [ht]; try exact hh_39.1.2.1 q h9 hq⟩) hh_39.1.2.2 dX4_holder_233
                      · skip
                        have c_25' : v5_12.toInt < 0 := jb_ge_n (rfl) ((by decide)) c_25
                        refine lv_aload_n hx hb dX4_holder_160 rfl (lv_at hl 1 rfl) ?_
                        refine j7_read hx hb hown hK (C := RX4) (T := TX4) (N := 12) rfl hly_6_1 hlk_15 (hh_23.at 6 rfl) dX4_holder_161 ?_
                        refine lv_iload_n hx hb dX4_holder_164 rfl (lv_at hl 4 rfl) ?_
                        refine lv_iload hx hb dX4_holder_165 (lv_at hl 0 rfl) ?_
                        refine j7_iastU hx hb hK hh_23 hB hB141 1 rfl (by decide) (by decide) rfl 3 rfl (M1 := [(jks, 145, 1502, ca 1, fs_24), (jkf, 144, 1502, ca 1, fs_22), (wk, 140, 1502, ca 1, gk_18), (wz, 142, 1502, ca 1, gz_18)]) [0, 1, 2, 4] rfl rfl rfl hg_wi (x := r_3.toInt) (rfl) (by omega) (trivial) dX4_holder_167 (fun H_45 locs_45 fs_46 hv_45 ho_45 hh_45 => ?_)
                        have hv_45 : jSo fs_46 (r_3.toInt) = r_19.toInt := by unfold jSo; rw [hv_45]; try exact rfl
                        clear hh_23
                        refine lv_goto (tgt := 180) hx hb dX4_holder_168 (by decide) ?_
                        refine lv_iload hx hb dX4_holder_180 (lv_at hl 0 rfl) ?_
                        refine lv_istore (lv' := [(5, .int r_19), (9, .int r_19), (0, .ref r0), (1, .int a1), (2, .int a2), (3, .int r_3), (4, .int w0_4), (6, .int v6_12), (7, .int wu_12), (8, .int z_16)]) hx hb dX4_holder_182 hl (by decide) rfl (fun ls hl => ?_)
                        refine lv_aload_n hx hb dX4_holder_184 rfl (lv_at hl 2 rfl) ?_
                        refine j7_read hx hb hown hK (C := RX4) (T := TX4) (N := 12) rfl hly_6_2 hlk_18 (hh_45.at 7 rfl) dX4_holder_185 ?_
                        refine lv_iload_n hx hb dX4_holder_188 rfl (lv_at hl 5 rfl) ?_
                        refine lv_dup2_11 hx hb dX4_holder_189 rfl rfl ?_
                        refine j7_ialdM hx hb hK hh_45 hB142 1 rfl (by decide) hg_wz (x := r_3.toInt) (rfl) (by omega) (j := 4) rfl dX4_holder_190 (fun z_47 ez_47 (hz_47 : True) => ?_)
                        have hqz_47 : z_47.toInt = jSo gz_18 (r_3.toInt) := by unfold jSo; rw [ez_47]
                        refine lv_iconst (v := 1) hx hb dX4_holder_191 (by decide) ?_
                        refine lv_iadd hx hb dX4_holder_192 ?_
                        refine lv_topi (fun z_48 ez_48 => ?_)
                        refine j7_iastU hx hb hK hh_45 hB hB142 1 rfl (by decide) (by decide) rfl 4 rfl (M1 := [(wi, 141, 1502, ca 1, fs_46), (jks, 145, 1502, ca 1, fs_24), (jkf, 144, 1502, ca 1, fs_22), (wk, 140, 1502, ca 1, gk_18)]) [0, 1, 2, 3] rfl rfl rfl hg_wz (x := r_3.toInt) (rfl) (by omega) (trivial) dX4_holder_193 (fun H_49 locs_49 fs_50 hv_49 ho_49 hh_49 => ?_)
                        have hv_49 : jSo fs_50 (r_3.toInt) = z_48.toInt := by unfold jSo; rw [hv_49]; try exact rfl
                        clear hh_45
                        refine lv_aload_n hx hb dX4_holder_194 rfl (lv_at hl 2 rfl) ?_
                        refine va_callv (A0 := jA base) (H0 := s.heap) (va_runV (As := []) (rest := []) ⟨hx, hb, hml, hown, hts⟩ (uX4_skipBlanks l dC dI ca base B hB hAp hB6 hB100 G0 H_49 r0 rb n_rb pe qt_18 pe.toInt) (cwV 0 hts (jgV (jWr_19 _ (List.mem_of_getElem? (i := 15) rfl)) (jWr_19 _ (List.mem_of_getElem? (i := 16) rfl)) (jWr_19 _ (List.mem_of_getElem? (i := 17) rfl)) (jWr_1 _ (List.mem_of_getElem? (i := 22) rfl)) (jWr_19 _ (List.mem_of_getElem? (i := 18) rfl))) rfl rfl rfl (by decide +kernel) ⟨by rw [← hR]; show (1) + 1 ≤ 2 * ef + 9; omega, by rw [← hR]; show 8 + (1 + 11) + (20) ≤ 130 * ef + 560; omega⟩) ⟨fun a U g mk q => by obtain ⟨q0, q1, q2, qK, q10, q11, q12, q13⟩ := q; exact ⟨q0, q1, q2, jG.calling g mk a qK, q10, q11, q12, q13⟩, hh_49.recv (C := RX4) (T := TX4) (N := 12) hB6 rfl (by decide) hg_r0 hK, fun U hU hW => ⟨rfl, hU, hh_49.2.1, hG.step hW hU hh_49.1, hg_r0, hg_rb, (hh_49.2.2.1.sub (L1 := [(r0, 6, 9, .ref rb), (r0, 6, 10, .int pe), (r0, 6, 11, .int qt_18)]) [3, 4, 0] rfl), by first | omega | (refine ⟨?_, ?_, ?_, ?_, ?_, ?_, ?_, ?_⟩ <;> (first | omega | rfl | assumption | decide | exact Or.inl rfl | exact Or.inr rfl | (simp only; omega)))⟩⟩ rfl rfl hl.1 rfl (lv_room (Nat.le_of_ble_eq_true rfl)) dX4_holder_195 ⟨Nat.zero_le _, Nat.zero_le _⟩) hh_49.1 (fun q _ h => h) (fun q h => h) (fun u_51 t_51 H_51 locs_51 ht_51 hvm_51 hr_52 hb_51 hz_51 hk_51 hS_51 => ?_)
                        obtain ⟨qt_51, rfl⟩ : ∃ z, z = u_51 := ⟨_, rfl⟩
                        rw [ht_51] at hb_51
                        obtain ⟨hb_511, hb_512, hb_513, hb_514, hb_515⟩ := hb_51
                        have hh_51 : jSt (dC, dI) B base G0 G0 EX4_holderP s.heap 0 0 [(r0, 6, 11, .int qt_51), (r0, 6, 7, .int qv_18), (r0, 6, 8, .int qu_18), (r0, 6, 9, .ref rb), (r0, 6, 10, .int pe), (r0, 6, 0, .ref wk), (r0, 6, 1, .ref wi), (r0, 6, 2, .ref wz), (r0, 6, 4, .ref jkf), (r0, 6, 5, .ref jks)] [(wz, 142, 1502, ca 1, fs_50), (wi, 141, 1502, ca 1, fs_46), (jks, 145, 1502, ca 1, fs_24), (jkf, 144, 1502, ca 1, fs_22), (wk, 140, 1502, ca 1, gk_18)] [] H_51 locs_51 := ((hh_49.call hb_511 hb_512 hb_513 hb_514 hS_51 rfl (L1 := [(r0, 6, 7, .int qv_18), (r0, 6, 8, .int qu_18), (r0, 6, 9, .ref rb), (r0, 6, 10, .int pe), (r0, 6, 0, .ref wk), (r0, 6, 1, .ref wi), (r0, 6, 2, .ref wz), (r0, 6, 4, .ref jkf), (r0, 6, 5, .ref jks)]) [1, 2, 3, 4, 5, 6, 7, 8, 9] rfl rfl (M1 := [(wz, 142, 1502, ca 1, fs_50), (wi, 141, 1502, ca 1, fs_46), (jks, 145, 1502, ca 1, fs_24), (jkf, 144, 1502, ca 1, fs_22), (wk, 140, 1502, ca 1, gk_18)]) [0, 1, 2, 3, 4] rfl rfl (I1 := []) [] rfl rfl).more hb_515)
                        clear hh_49 ht_51 hvm_51 hz_51 hk_51 hS_51 hb_511 hb_512 hb_513 hb_514 hb_515
                        obtain ⟨hr_52_0, hr_52_1⟩ := hr_52
                        refine lv_aload_n hx hb dX4_holder_198 rfl (lv_at hl 2 rfl) ?_
                        refine va_calli (A0 := jA base) (H0 := s.heap) (va_runV (As := []) (rest := []) ⟨hx, hb, hml, hown, hts⟩ (uX4_peek l dC dI ca base B hB hAp hB6 hB100 G0 H_51 r0 rb n_rb pe qt_51) (cwV 0 hts (jgV (jWr_19 _ (List.mem_of_getElem? (i := 19) rfl)) (jWr_19 _ (List.mem_of_getElem? (i := 20) rfl)) (jWr_19 _ (List.mem_of_getElem? (i := 21) rfl)) (jWr_1 _ (List.mem_of_getElem? (i := 22) rfl)) (jWr_19 _ (List.mem_of_getElem? (i := 22) rfl))) rfl rfl rfl (by decide +kernel) ⟨by rw [← hR]; show (0) + 1 ≤ 2 * ef + 9; omega, by rw [← hR]; show 8 + (1 + 11) + (0) ≤ 130 * ef + 560; omega⟩) ⟨fun a U g mk q => by obtain ⟨q0, q1, q2, qK, q10, q11, q12, q13⟩ := q; exact ⟨q0, q1, q2, jG.calling g mk a qK, q10, q11, q12, q13⟩, hh_51.recv (C := RX4) (T := TX4) (N := 12) hB6 rfl (by decide) hg_r0 hK, fun U hU hW => ⟨rfl, hU, hh_51.2.1, hG.step hW hU hh_51.1, hg_r0, hg_rb, (hh_51.2.2.1.sub (L1 := [(r0, 6, 9, .ref rb), (r0, 6, 10, .int pe), (r0, 6, 11, .int qt_51)]) [3, 4, 0] rfl), by first | omega | (refine ⟨?_, ?_, ?_, ?_, ?_⟩ <;> (first | omega | rfl | assumption | decide | exact Or.inl rfl | exact Or.inr rfl | (simp only; omega)))⟩⟩ rfl rfl hl.1 rfl (lv_room (Nat.le_of_ble_eq_true rfl)) dX4_holder_199 ⟨Nat.zero_le _, Nat.zero_le _⟩) hh_51.1 (fun q _ h => h) (fun q h => h) (fun r_54 u_53 t_53 H_53 locs_53 ht_53 hvm_53 hr_54 hb_53 hz_53 hk_53 hS_53 => ?_)
                        rw [ht_53] at hb_53
                        obtain ⟨hb_531, hb_532, hb_533, hb_534, hb_535⟩ := hb_53
                        have hh_53 : jSt (dC, dI) B base G0 G0 EX4_holderP s.heap 0 0 [(r0, 6, 11, .int qt_51), (r0, 6, 7, .int qv_18), (r0, 6, 8, .int qu_18), (r0, 6, 9, .ref rb), (r0, 6, 10, .int pe), (r0, 6, 0, .ref wk), (r0, 6, 1, .ref wi), (r0, 6, 2, .ref wz), (r0, 6, 4, .ref jkf), (r0, 6, 5, .ref jks)] [(wz, 142, 1502, ca 1, fs_50), (wi, 141, 1502, ca 1, fs_46), (jks, 145, 1502, ca 1, fs_24), (jkf, 144, 1502, ca 1, fs_22), (wk, 140, 1502, ca 1, gk_18)] [] H_53 locs_53 := ((hh_51.call hb_531 hb_532 hb_533 hb_534 hS_53 rfl (L1 := [(r0, 6, 11, .int qt_51), (r0, 6, 7, .int qv_18), (r0, 6, 8, .int qu_18), (r0, 6, 9, .ref rb), (r0, 6, 10, .int pe), (r0, 6, 0, .ref wk), (r0, 6, 1, .ref wi), (r0, 6, 2, .ref wz), (r0, 6, 4, .ref jkf), (r0, 6, 5, .ref jks)]) [0, 1, 2, 3, 4, 5, 6, 7, 8, 9] rfl rfl (M1 := [(wz, 142, 1502, ca 1, fs_50), (wi, 141, 1502, ca 1, fs_46), (jks, 145, 1502, ca 1, fs_24), (jkf, 144, 1502, ca 1, fs_22), (wk, 140, 1502, ca 1, gk_18)]) [0, 1, 2, 3, 4] rfl rfl (I1 := []) [] rfl rfl).more hb_535)
                        clear hh_51 ht_53 hvm_53 hz_53 hk_53 hS_53 hb_531 hb_532 hb_533 hb_534 hb_535
                        obtain ⟨hr_54_0, hr_54_1, hr_54_2⟩ := hr_54
                        refine lv_istore (lv' := [(10, .int r_54), (5, .int r_19), (9, .int r_19), (0, .ref r0), (1, .int a1), (2, .int a2), (3, .int r_3), (4, .int w0_4), (6, .int v6_12), (7, .int wu_12), (8, .int z_16)]) hx hb dX4_holder_202 hl (by decide) rfl (fun ls hl => ?_)
                        refine lv_aload_n hx hb dX4_holder_204 rfl (lv_at hl 3 rfl) ?_
                        refine lv_dup hx hb dX4_holder_205 rfl ?_
                        refine j7_read hx hb hown hK (C := RX4) (T := TX4) (N := 12) rfl hly_6_11 hlk_47 (hh_53.at 0 rfl) dX4_holder_206 ?_
                        refine lv_iconst (v := 1) hx hb dX4_holder_209 (by decide) ?_
                        refine lv_iadd hx hb dX4_holder_210 ?_
                        refine lv_topi (fun z_55 ez_55 => ?_)
                        have hz_55 : z_55.toInt = qt_51.toInt + 1 := by rw [ez_55]; exact jb_iadd2 (rfl) ((by decide)) (by omega)
                        refine j7_put hx hb hown hK hh_53 hB hAp hB6 (C := RX4) (T := TX4) (N := 12) rfl (by decide) hg_r0 (i := 11) (by decide) hly_6_11 rfl hlk_47 rfl (ty := .int) (v := .int z_55) (by decide +kernel) rfl rfl (⟨_, rfl, by omega, by omega⟩) rfl (L1 := [(r0, 6, 7, .int qv_18), (r0, 6, 8, .int qu_18), (r0, 6, 9, .ref rb), (r0, 6, 10, .int pe), (r0, 6, 0, .ref wk), (r0, 6, 1, .ref wi), (r0, 6, 2, .ref wz), (r0, 6, 4, .ref jkf), (r0, 6, 5, .ref jks)]) [1, 2, 3, 4, 5, 6, 7, 8, 9] rfl rfl rfl dX4_holder_211 (fun H_56 locs_56 hh_56 => ?_)
                        clear hh_53
                        refine lv_iload hx hb dX4_holder_214 (lv_at hl 0 rfl) ?_
                        refine lv_bipush (v := 44) hx hb dX4_holder_216 (by decide) ?_
                        refine lv_icmp_eq (tgt := 234) hx hb dX4_holder_218 (by decide) (fun c_57 => ?_) (fun c_57 => ?_)
                        · skip
                          have c_57' : r_54.toInt = 44 := jb_eq (rfl) ((by decide)) c_57
                          first | (have hr_54_2q := hr_54_2.resolve_left (by omega); clear hr_54_2) | (have hr_54_2q := hr_54_2.resolve_right (by omega); clear hr_54_2) | skip
                          refine lv_aload_n hx hb dX4_holder_234 rfl (lv_at hl 3 rfl) ?_
                          refine va_callv (A0 := jA base) (H0 := s.heap) (va_runV (As := []) (rest := []) ⟨hx, hb, hml, hown, hts⟩ (uX4_skipBlanks l dC dI ca base B hB hAp hB6 hB100 G0 H_56 r0 rb n_rb pe z_55 pe.toInt) (cwV 0 hts (jgV (jWr_19 _ (List.mem_of_getElem? (i := 15) rfl)) (jWr_19 _ (List.mem_of_getElem? (i := 16) rfl)) (jWr_19 _ (List.mem_of_getElem? (i := 17) rfl)) (jWr_1 _ (List.mem_of_getElem? (i := 22) rfl)) (jWr_19 _ (List.mem_of_getElem? (i := 18) rfl))) rfl rfl rfl (by decide +kernel) ⟨by rw [← hR]; show (1) + 1 ≤ 2 * ef + 9; omega, by rw [← hR]; show 8 + (1 + 11) + (20) ≤ 130 * ef + 560; omega⟩) ⟨fun a U g mk q => by obtain ⟨q0, q1, q2, qK, q10, q11, q12, q13⟩ := q; exact ⟨q0, q1, q2, jG.calling g mk a qK, q10, q11, q12, q13⟩, hh_56.recv (C := RX4) (T := TX4) (N := 12) hB6 rfl (by decide) hg_r0 hK, fun U hU hW => ⟨rfl, hU, hh_56.2.1, hG.step hW hU hh_56.1, hg_r0, hg_rb, (hh_56.2.2.1.sub (L1 := [(r0, 6, 9, .ref rb), (r0, 6, 10, .int pe), (r0, 6, 11, .int z_55)]) [3, 4, 0] rfl), by first | omega | (refine ⟨?_, ?_, ?_, ?_, ?_, ?_, ?_, ?_⟩ <;> (first | omega | rfl | assumption | decide | exact Or.inl rfl | exact Or.inr rfl | (simp only; omega)))⟩⟩ rfl rfl hl.1 rfl (lv_room (Nat.le_of_ble_eq_true rfl)) dX4_holder_235 ⟨Nat.zero_le _, Nat.zero_le _⟩) hh_56.1 (fun q _ h => h) (fun q h => h) (fun u_58 t_58 H_58 locs_58 ht_58 hvm_58 hr_59 hb_58 hz_58 hk_58 hS_58 => ?_)
                          obtain ⟨qt_58, rfl⟩ : ∃ z, z = u_58 := ⟨_, rfl⟩
                          rw [ht_58] at hb_58
                          obtain ⟨hb_581, hb_582, hb_583, hb_584, hb_585⟩ := hb_58
                          have hh_58 : jSt (dC, dI) B base G0 G0 EX4_holderP s.heap 0 0 [(r0, 6, 11, .int qt_58), (r0, 6, 7, .int qv_18), (r0, 6, 8, .int qu_18), (r0, 6, 9, .ref rb), (r0, 6, 10, .int pe), (r0, 6, 0, .ref wk), (r0, 6, 1, .ref wi), (r0, 6, 2, .ref wz), (r0, 6, 4, .ref jkf), (r0, 6, 5, .ref jks)] [(wz, 142, 1502, ca 1, fs_50), (wi, 141, 1502, ca 1, fs_46), (jks, 145, 1502, ca 1, fs_24), (jkf, 144, 1502, ca 1, fs_22), (wk, 140, 1502, ca 1, gk_18)] [] H_58 locs_58 := ((hh_56.call hb_581 hb_582 hb_583 hb_584 hS_58 rfl (L1 := [(r0, 6, 7, .int qv_18), (r0, 6, 8, .int qu_18), (r0, 6, 9, .ref rb), (r0, 6, 10, .int pe), (r0, 6, 0, .ref wk), (r0, 6, 1, .ref wi), (r0, 6, 2, .ref wz), (r0, 6, 4, .ref jkf), (r0, 6, 5, .ref jks)]) [1, 2, 3, 4, 5, 6, 7, 8, 9] rfl rfl (M1 := [(wz, 142, 1502, ca 1, fs_50), (wi, 141, 1502, ca 1, fs_46), (jks, 145, 1502, ca 1, fs_24), (jkf, 144, 1502, ca 1, fs_22), (wk, 140, 1502, ca 1, gk_18)]) [0, 1, 2, 3, 4] rfl rfl (I1 := []) [] rfl rfl).more hb_585)
                          clear hh_56 ht_58 hvm_58 hz_58 hk_58 hS_58 hb_581 hb_582 hb_583 hb_584 hb_585
                          obtain ⟨hr_59_0, hr_59_1⟩ := hr_59
                          obtain ⟨z_60, ez_60⟩ : ∃ y : Int32, y = v6_12 + 1 := ⟨_, rfl⟩
                          refine lv_iinc (v := z_60) (lv' := [(6, .int z_60), (10, .int r_54), (5, .int r_19), (9, .int r_19), (0, .ref r0), (1, .int a1), (2, .int a2), (3, .int r_3), (4, .int w0_4), (7, .int wu_12), (8, .int z_16)]) hx hb dX4_holder_238 hl (k := 8) rfl (by rw [ez_60]; rfl) (by decide) rfl (fun ls hl => ?_)
                          have hz_60 : z_60.toInt = v6_12.toInt + 1 := by rw [ez_60]; exact jb_iadd2 (rfl) (by decide) (by omega)
                          refine lv_goto (tgt := 70) hx hb dX4_holder_241 (by decide) ?_
                          exact L70 r_19 z_60 qt_58 qv_18 qu_18 gk_18 fs_46 fs_50 fs_22 fs_24 _ _ (hh_58.sub (L1 := [(r0, 6, 11, .int qt_58), (r0, 6, 7, .int qv_18), (r0, 6, 8, .int qu_18), (r0, 6, 9, .ref rb), (r0, 6, 10, .int pe), (r0, 6, 0, .ref wk), (r0, 6, 1, .ref wi), (r0, 6, 2, .ref wz), (r0, 6, 4, .ref jkf), (r0, 6, 5, .ref jks)]) [0, 1, 2, 3, 4, 5, 6, 7, 8, 9] rfl (M1 := [(jks, 145, 1502, ca 1, fs_24), (jkf, 144, 1502, ca 1, fs_22), (wz, 142, 1502, ca 1, fs_50), (wi, 141, 1502, ca 1, fs_46), (wk, 140, 1502, ca 1, gk_18)]) [2, 3, 0, 1, 4] rfl (I1 := []) [] rfl) (by refine ⟨by omega, by omega, by omega, by omega, by omega, by omega, by omega, by omega, by omega, ?_, ?_, by omega, by omega⟩; exact (jHs hi_12_9 hi_17_5 (by omega) (by omega) hr_19_7 (by omega) (by omega) (by omega) rfl hv_21 ho_21 (hv_23.trans (by omega)) ho_23 ho_45 ho_49 (Int.le_refl _)).1; exact (jHs hi_12_9 hi_17_5 (by omega) (by omega) hr_19_7 (by omega) (by omega) (by omega) rfl hv_21 ho_21 (hv_23.trans (by omega)) ho_23 ho_45 ho_49 (by omega)).2) (by omega) _ (lv_sub hl [4, 5, 6, 7, 8, 2, 0] rfl)
                        · skip
                          have c_57' : r_54.toInt ≠ 44 := jb_eq_n (rfl) ((by decide)) c_57
                          refine lv_iload hx hb dX4_holder_221 (lv_at hl 0 rfl) ?_
                          refine lv_iload hx hb dX4_holder_223 (lv_at hl 7 rfl) ?_
                          refine lv_icmp_ne (tgt := 232) hx hb dX4_holder_225 (by decide) (fun c_61 => ?_) (fun c_61 => ?_)
                          · skip
                            have c_61' : r_54.toInt ≠ w0_4.toInt := jb_ne (rfl) (rfl) c_61
                            refine lv_iconst (v := (-1)) hx hb dX4_holder_232 (by decide) ?_
                            rw [hQ]
                            exact W.iret (v := (-1)) hx hb hr (fun t ht hW => ⟨⟨(-1), (z_55, qv_18, qu_18, gk_18, fs_46, fs_50, fs_22, fs_24), rfl, by (try dsimp only); refine ⟨by omega, by omega, by omega, by omega, by omega, by omega, by omega, ?_⟩; exact jVr.cg hCZ (⟨(jHs hi_12_9 hi_17_5 (by omega) (by omega) hr_19_7 (by omega) (by omega) (by omega) rfl hv_21 ho_21 (hv_23.trans (by omega)) ho_23 ho_45 ho_49 (Int.le_refl _)).1, Or.inl (by omega)⟩), ⟨hh_56.rt (M1 := [(r0, 6, 11, .int z_55), (r0, 6, 7, .int qv_18), (r0, 6, 8, .int qu_18)]) [0, 1, 2] rfl ht, by rw [ht]; exact hh_56.2.2.2.2.2.2.2.1.sub [4, 1, 0, 3, 2] rfl⟩⟩, by rw [ht]; try exact hh_56.1.1, fun q h9 hq => by rw [ht]; try exact hh_56.1.2.1 q h9 hq⟩) hh_56.1.2.2 dX4_holder_233
                          · skip
                            have c_61' : r_54.toInt = w0_4.toInt := jb_ne_n (rfl) (rfl) c_61
                            first | (have hr_54_2q := hr_54_2.resolve_left (by omega); clear hr_54_2) | (have hr_54_2q := hr_54_2.resolve_right (by omega); clear hr_54_2) | skip
                            refine lv_iload_n hx hb dX4_holder_228 rfl (lv_at hl 6 rfl) ?_
                            refine lv_goto (tgt := 233) hx hb dX4_holder_229 (by decide) ?_
                            rw [hQ]
                            exact W.iret (v := r_3) hx hb hr (fun t ht hW => ⟨⟨r_3, (z_55, qv_18, qu_18, gk_18, fs_46, fs_50, fs_22, fs_24), rfl, by (try dsimp only); refine ⟨by omega, by omega, by omega, by omega, by omega, by omega, by omega, ?_⟩; exact jVr.cg hCZ (jHv.end (jHs hi_12_9 hi_17_5 (by omega) (by omega) hr_19_7 (by omega) (by omega) (by omega) rfl hv_21 ho_21 (hv_23.trans (by omega)) ho_23 ho_45 ho_49 (by omega))), ⟨hh_56.rt (M1 := [(r0, 6, 11, .int z_55), (r0, 6, 7, .int qv_18), (r0, 6, 8, .int qu_18)]) [0, 1, 2] rfl ht, by rw [ht]; exact hh_56.2.2.2.2.2.2.2.1.sub [4, 1, 0, 3, 2] rfl⟩⟩, by rw [ht]; try exact hh_56.1.1, fun q h9 hq => by rw [ht]; try exact hh_56.1.2.1 q h9 hq⟩) hh_56.1.2.2 dX4_holder_233
                    · skip
                      have c_20' : r_19.toInt < 0 := jb_ge_n (rfl) ((by decide)) c_20
                      first | (have hr_19_4q := hr_19_4.resolve_left (by omega); clear hr_19_4) | (have hr_19_4q := hr_19_4.resolve_right (by omega); clear hr_19_4) | skip
                      refine lv_iconst (v := (-1)) hx hb dX4_holder_135 (by decide) ?_
                      rw [hQ]
                      exact W.iret (v := (-1)) hx hb hr (fun t ht hW => ⟨⟨(-1), (qt_18, qv_18, qu_18, gk_18, gi_18, gz_18, ga_18, gs_18), rfl, by (try dsimp only); refine ⟨by omega, by omega, by omega, by omega, by omega, by omega, by omega, ?_⟩; exact jVr.cg hCZ ⟨(hi_12_9.up (by omega)).tr hr_19_7.1, Or.inl (by omega)⟩, ⟨hh_18.rt (M1 := [(r0, 6, 11, .int qt_18), (r0, 6, 7, .int qv_18), (r0, 6, 8, .int qu_18)]) [0, 1, 2] rfl ht, by rw [ht]; exact hh_18.2.2.2.2.2.2.2.1.sub [0, 1, 2, 3, 4] rfl⟩⟩, by rw [ht]; try exact hh_18.1.1, fun q h9 hq => by rw [ht]; try exact hh_18.1.2.1 q h9 hq⟩) hh_18.1.2.2 dX4_holder_136
                  refine lv_if_eq (tgt := 123) hx hb dX4_holder_111 (by decide) (fun c_62 => ?_) (fun c_62 => ?_)
                  · skip
                    have c_62' : a2.toInt = 0 := jb_eq (rfl) ((by decide)) c_62
                    exact C123 wt_15 wu_15 _ _ hh_15 (by refine ⟨by omega, by omega, by omega, by omega, by omega, hi_15_5.add (by omega), by omega⟩) _ (lv_sub hl [1, 2, 3, 4, 5, 6, 7, 8, 0] rfl)
                  · skip
                    have c_62' : a2.toInt ≠ 0 := jb_eq_n (rfl) ((by decide)) c_62
                    refine lv_aload_n hx hb dX4_holder_114 rfl (lv_at hl 1 rfl) ?_
                    refine va_calli (A0 := jA base) (H0 := s.heap) (va_runV (As := []) (rest := []) ⟨hx, hb, hml, hown, hts⟩ (uX4_isColonP l dC dI ca base B hB hAp hB6 hB100 G0 H_15 r0 rb n_rb pe wt_15) (cwV 0 hts (jgV (jWr_23 _ (List.mem_of_getElem? (i := 6) rfl)) (jWr_23 _ (List.mem_of_getElem? (i := 7) rfl)) (jWr_23 _ (List.mem_of_getElem? (i := 8) rfl)) (jWr_1 _ (List.mem_of_getElem? (i := 22) rfl)) (jWr_23 _ (List.mem_of_getElem? (i := 9) rfl))) rfl rfl rfl (by decide +kernel) ⟨by rw [← hR]; show (2) + 1 ≤ 2 * ef + 9; omega, by rw [← hR]; show 8 + (2 + 11) + (40) ≤ 130 * ef + 560; omega⟩) ⟨fun a U g mk q => by obtain ⟨q0, q1, q2, qK, q10, q11, q12, q13⟩ := q; exact ⟨q0, q1, q2, jG.calling g mk a qK, q10, q11, q12, q13⟩, hh_15.recv (C := RX4) (T := TX4) (N := 12) hB6 rfl (by decide) hg_r0 hK, fun U hU hW => ⟨rfl, hU, hh_15.2.1, hG.step hW hU hh_15.1, hg_r0, hg_rb, (hh_15.2.2.1.sub (L1 := [(r0, 6, 9, .ref rb), (r0, 6, 10, .int pe), (r0, 6, 11, .int wt_15)]) [3, 4, 0] rfl), by first | omega | (refine ⟨?_, ?_, ?_, ?_, ?_, ?_⟩ <;> (first | omega | rfl | assumption | decide | exact Or.inl rfl | exact Or.inr rfl | (simp only; omega)))⟩⟩ rfl rfl hl.1 rfl (lv_room (Nat.le_of_ble_eq_true rfl)) dX4_holder_115 ⟨Nat.zero_le _, Nat.zero_le _⟩) hh_15.1 (fun q _ h => h) (fun q h => h) (fun r_64 u_63 t_63 H_63 locs_63 ht_63 hvm_63 hr_64 hb_63 hz_63 hk_63 hS_63 => ?_)
                    obtain ⟨qt_63, rfl⟩ : ∃ z, z = u_63 := ⟨_, rfl⟩
                    rw [ht_63] at hb_63
                    obtain ⟨hb_631, hb_632, hb_633, hb_634, hb_635⟩ := hb_63
                    have hh_63 : jSt (dC, dI) B base G0 G0 EX4_holderP s.heap 0 0 [(r0, 6, 11, .int qt_63), (r0, 6, 8, .int wu_15), (r0, 6, 7, .int wv_12), (r0, 6, 9, .ref rb), (r0, 6, 10, .int pe), (r0, 6, 0, .ref wk), (r0, 6, 1, .ref wi), (r0, 6, 2, .ref wz), (r0, 6, 4, .ref jkf), (r0, 6, 5, .ref jks)] [(jks, 145, 1502, ca 1, fs_12), (jkf, 144, 1502, ca 1, fa_12), (wz, 142, 1502, ca 1, fz_12), (wi, 141, 1502, ca 1, fi_12), (wk, 140, 1502, ca 1, fk_12)] [] H_63 locs_63 := ((hh_15.call hb_631 hb_632 hb_633 hb_634 hS_63 rfl (L1 := [(r0, 6, 8, .int wu_15), (r0, 6, 7, .int wv_12), (r0, 6, 9, .ref rb), (r0, 6, 10, .int pe), (r0, 6, 0, .ref wk), (r0, 6, 1, .ref wi), (r0, 6, 2, .ref wz), (r0, 6, 4, .ref jkf), (r0, 6, 5, .ref jks)]) [1, 2, 3, 4, 5, 6, 7, 8, 9] rfl rfl (M1 := [(jks, 145, 1502, ca 1, fs_12), (jkf, 144, 1502, ca 1, fa_12), (wz, 142, 1502, ca 1, fz_12), (wi, 141, 1502, ca 1, fi_12), (wk, 140, 1502, ca 1, fk_12)]) [0, 1, 2, 3, 4] rfl rfl (I1 := []) [] rfl rfl).more hb_635)
                    clear hh_15 ht_63 hvm_63 hz_63 hk_63 hS_63 hb_631 hb_632 hb_633 hb_634 hb_635
                    obtain ⟨hr_64b, hr_64p⟩ := hr_64
                    obtain ⟨hr_64p_0, hr_64p_1⟩ := hr_64p
                    have hr_64' := jb_01 hr_64b
                    refine lv_if_ne (tgt := 123) hx hb dX4_holder_118 (by decide) (fun c_65 => ?_) (fun c_65 => ?_)
                    · skip
                      have c_65' : r_64.toInt ≠ 0 := jb_ne (rfl) ((by decide)) c_65
                      exact C123 qt_63 wu_15 _ _ hh_63 (by refine ⟨by omega, by omega, by omega, by omega, by omega, hi_15_5.add (by omega), by omega⟩) _ (lv_sub hl [1, 2, 3, 4, 5, 6, 7, 8, 0] rfl)
                    · skip
                      have c_65' : r_64.toInt = 0 := jb_ne_n (rfl) ((by decide)) c_65
                      refine lv_iconst (v := (-1)) hx hb dX4_holder_121 (by decide) ?_
                      rw [hQ]
                      exact W.iret (v := (-1)) hx hb hr (fun t ht hW => ⟨⟨(-1), (qt_63, wv_12, wu_15, fk_12, fi_12, fz_12, fa_12, fs_12), rfl, by (try dsimp only); refine ⟨by omega, by omega, by omega, by omega, by omega, by omega, by omega, ?_⟩; exact jVr.cg hCZ ⟨hi_12_9.up (by omega), Or.inl (by omega)⟩, ⟨hh_63.rt (M1 := [(r0, 6, 11, .int qt_63), (r0, 6, 7, .int wv_12), (r0, 6, 8, .int wu_15)]) [0, 2, 1] rfl ht, by rw [ht]; exact hh_63.2.2.2.2.2.2.2.1.sub [4, 3, 2, 1, 0] rfl⟩⟩, by rw [ht]; try exact hh_63.1.1, fun q h9 hq => by rw [ht]; try exact hh_63.1.2.1 q h9 hq⟩) hh_63.1.2.2 dX4_holder_122
                refine lv_if_eq (tgt := 101) hx hb dX4_holder_89 (by decide) (fun c_66 => ?_) (fun c_66 => ?_)
                · skip
                  have c_66' : a2.toInt = 0 := jb_eq (rfl) ((by decide)) c_66
                  exact C101 wt_12 wu_12 _ _ (hh_12.sub (L1 := [(r0, 6, 11, .int wt_12), (r0, 6, 8, .int wu_12), (r0, 6, 7, .int wv_12), (r0, 6, 9, .ref rb), (r0, 6, 10, .int pe), (r0, 6, 0, .ref wk), (r0, 6, 1, .ref wi), (r0, 6, 2, .ref wz), (r0, 6, 4, .ref jkf), (r0, 6, 5, .ref jks)]) [0, 2, 1, 3, 4, 5, 6, 7, 8, 9] rfl (M1 := [(jks, 145, 1502, ca 1, fs_12), (jkf, 144, 1502, ca 1, fa_12), (wz, 142, 1502, ca 1, fz_12), (wi, 141, 1502, ca 1, fi_12), (wk, 140, 1502, ca 1, fk_12)]) [0, 1, 2, 3, 4] rfl (I1 := []) [] rfl) (by refine ⟨by omega, by omega, by omega, by omega, by omega, hi_12_10.add (by omega)⟩) _ (lv_sub hl [1, 2, 3, 4, 5, 6, 7, 0] rfl)
                · skip
                  have c_66' : a2.toInt ≠ 0 := jb_eq_n (rfl) ((by decide)) c_66
                  refine lv_aload_n hx hb dX4_holder_92 rfl (lv_at hl 1 rfl) ?_
                  refine va_calli (A0 := jA base) (H0 := s.heap) (va_runV (As := []) (rest := []) ⟨hx, hb, hml, hown, hts⟩ (uX4_isStringP l dC dI ca base B hB hAp hB6 hB100 hB146 G0 H_12 r0 rb n_rb pe wt_12 wu_12) (cwV 0 hts (jgV (jWr_20 _ (List.mem_of_getElem? (i := 8) rfl)) (jWr_20 _ (List.mem_of_getElem? (i := 9) rfl)) (jWr_20 _ (List.mem_of_getElem? (i := 10) rfl)) (jWr_1 _ (List.mem_of_getElem? (i := 22) rfl)) (jWr_20 _ (List.mem_of_getElem? (i := 11) rfl))) rfl rfl rfl (by decide +kernel) ⟨by rw [← hR]; show (6) + 1 ≤ 2 * ef + 9; omega, by rw [← hR]; show 8 + (4 + 11) + (185) ≤ 130 * ef + 560; omega⟩) ⟨fun a U g mk q => by obtain ⟨q0, q1, q2, qK, q10, q11, q12, q13⟩ := q; exact ⟨q0, q1, q2, jG.calling g mk a qK, q10, q11, q12, q13⟩, hh_12.recv (C := RX4) (T := TX4) (N := 12) hB6 rfl (by decide) hg_r0 hK, fun U hU hW => ⟨rfl, hU, hh_12.2.1, hG.step hW hU hh_12.1, hg_r0, hg_rb, (hh_12.2.2.1.sub (L1 := [(r0, 6, 9, .ref rb), (r0, 6, 10, .int pe), (r0, 6, 11, .int wt_12), (r0, 6, 8, .int wu_12)]) [3, 4, 0, 2] rfl), by first | omega | (refine ⟨?_, ?_, ?_, ?_, ?_, ?_, ?_, ?_⟩ <;> (first | omega | rfl | assumption | decide | exact Or.inl rfl | exact Or.inr rfl | (simp only; omega)))⟩⟩ rfl rfl hl.1 rfl (lv_room (Nat.le_of_ble_eq_true rfl)) dX4_holder_93 ⟨Nat.zero_le _, Nat.zero_le _⟩) hh_12.1 (fun q _ h => h) (fun q h => h) (fun r_68 u_67 t_67 H_67 locs_67 ht_67 hvm_67 hr_68 hb_67 hz_67 hk_67 hS_67 => ?_)
                  obtain ⟨qt_67, qu_67⟩ := u_67
                  rw [ht_67] at hb_67
                  obtain ⟨hb_671, hb_672, hb_673, hb_674, hb_675⟩ := hb_67
                  have hh_67 : jSt (dC, dI) B base G0 G0 EX4_holderP s.heap 0 0 [(r0, 6, 11, .int qt_67), (r0, 6, 8, .int qu_67), (r0, 6, 7, .int wv_12), (r0, 6, 9, .ref rb), (r0, 6, 10, .int pe), (r0, 6, 0, .ref wk), (r0, 6, 1, .ref wi), (r0, 6, 2, .ref wz), (r0, 6, 4, .ref jkf), (r0, 6, 5, .ref jks)] [(jks, 145, 1502, ca 1, fs_12), (jkf, 144, 1502, ca 1, fa_12), (wz, 142, 1502, ca 1, fz_12), (wi, 141, 1502, ca 1, fi_12), (wk, 140, 1502, ca 1, fk_12)] [] H_67 locs_67 := ((hh_12.call hb_671 hb_672 hb_673 hb_674 hS_67 rfl (L1 := [(r0, 6, 7, .int wv_12), (r0, 6, 9, .ref rb), (r0, 6, 10, .int pe), (r0, 6, 0, .ref wk), (r0, 6, 1, .ref wi), (r0, 6, 2, .ref wz), (r0, 6, 4, .ref jkf), (r0, 6, 5, .ref jks)]) [1, 3, 4, 5, 6, 7, 8, 9] rfl rfl (M1 := [(jks, 145, 1502, ca 1, fs_12), (jkf, 144, 1502, ca 1, fa_12), (wz, 142, 1502, ca 1, fz_12), (wi, 141, 1502, ca 1, fi_12), (wk, 140, 1502, ca 1, fk_12)]) [0, 1, 2, 3, 4] rfl rfl (I1 := []) [] rfl rfl).more hb_675)
                  clear hh_12 ht_67 hvm_67 hz_67 hk_67 hS_67 hb_671 hb_672 hb_673 hb_674 hb_675
                  try simp only at hr_68
                  obtain ⟨hr_68b, hr_68p⟩ := hr_68
                  obtain ⟨hr_68p_0, hr_68p_1, hr_68p_2, hr_68p_3, hr_68p_4⟩ := hr_68p
                  have hr_68' := jb_01 hr_68b
                  refine lv_if_ne (tgt := 101) hx hb dX4_holder_96 (by decide) (fun c_69 => ?_) (fun c_69 => ?_)
                  · skip
                    have c_69' : r_68.toInt ≠ 0 := jb_ne (rfl) ((by decide)) c_69
                    first | (have hr_68p_4q := hr_68p_4.resolve_left (by omega); clear hr_68p_4) | (have hr_68p_4q := hr_68p_4.resolve_right (by omega); clear hr_68p_4) | skip
                    exact C101 qt_67 qu_67 _ _ hh_67 (by refine ⟨by omega, by omega, by omega, by omega, by omega, hi_12_10.add (by omega)⟩) _ (lv_sub hl [1, 2, 3, 4, 5, 6, 7, 0] rfl)
                  · skip
                    have c_69' : r_68.toInt = 0 := jb_ne_n (rfl) ((by decide)) c_69
                    first | (have hr_68p_4q := hr_68p_4.resolve_left (by omega); clear hr_68p_4) | (have hr_68p_4q := hr_68p_4.resolve_right (by omega); clear hr_68p_4) | skip
                    refine lv_iconst (v := (-1)) hx hb dX4_holder_99 (by decide) ?_
                    rw [hQ]
                    exact W.iret (v := (-1)) hx hb hr (fun t ht hW => ⟨⟨(-1), (qt_67, wv_12, qu_67, fk_12, fi_12, fz_12, fa_12, fs_12), rfl, by (try dsimp only); refine ⟨by omega, by omega, by omega, by omega, by omega, by omega, by omega, ?_⟩; exact jVr.cg hCZ ⟨hi_12_9.up (by omega), Or.inl (by omega)⟩, ⟨hh_67.rt (M1 := [(r0, 6, 11, .int qt_67), (r0, 6, 7, .int wv_12), (r0, 6, 8, .int qu_67)]) [0, 2, 1] rfl ht, by rw [ht]; exact hh_67.2.2.2.2.2.2.2.1.sub [4, 3, 2, 1, 0] rfl⟩⟩, by rw [ht]; try exact hh_67.1.1, fun q h9 hq => by rw [ht]; try exact hh_67.1.2.1 q h9 hq⟩) hh_67.1.2.2 dX4_holder_100
        exact L70 (1502 - (0 : Int32).toInt : Int).toNat.succ (-1) 0 qt_7 qv_2 pu gk_2 gi_2 gz_2 ga_2 gs_2 _ _ (hh_9.sub (L1 := [(r0, 6, 11, .int qt_7), (r0, 6, 7, .int qv_2), (r0, 6, 8, .int pu), (r0, 6, 9, .ref rb), (r0, 6, 10, .int pe), (r0, 6, 0, .ref wk), (r0, 6, 1, .ref wi), (r0, 6, 2, .ref wz), (r0, 6, 4, .ref jkf), (r0, 6, 5, .ref jks)]) [0, 1, 4, 2, 3, 5, 6, 7, 8, 9] rfl (M1 := [(jks, 145, 1502, ca 1, gs_2), (jkf, 144, 1502, ca 1, ga_2), (wz, 142, 1502, ca 1, gz_2), (wi, 141, 1502, ca 1, gi_2), (wk, 140, 1502, ca 1, gk_2)]) [4, 3, 2, 1, 0] rfl (I1 := []) [] rfl) (by refine ⟨by omega, by omega, by omega, by omega, by omega, by omega, by omega, by omega, by omega, ?_, ?_, by omega, by omega⟩; (rw [hCZ]; exact (jHv.z (pt := 0) hr_3_2 hr_3_0 hr_3_3 (by omega) (by omega) (by omega) (Int.le_refl _)).1); (rw [hCZ]; exact (jHv.z hr_3_2 hr_3_0 hr_3_3 (by omega) (by omega) (by omega) (by omega)).2)) (by omega) _ (lv_sub hl [3, 4, 5, 6, 2, 1, 0] rfl)
      · skip
        have c_11' : r_10.toInt = w0_4.toInt := jb_ne_n (rfl) (rfl) c_11
        first | (have hr_10_2q := hr_10_2.resolve_left (by omega); clear hr_10_2) | (have hr_10_2q := hr_10_2.resolve_right (by omega); clear hr_10_2) | try clear hr_10_2
        refine lv_aload_n hx hb dX4_holder_52 rfl (lv_at hl 1 rfl) ?_
        refine lv_dup hx hb dX4_holder_53 rfl ?_
        refine j7_read hx hb hown hK (C := RX4) (T := TX4) (N := 12) rfl hly_6_11 hlk_47 (hh_9.at 0 rfl) dX4_holder_54 ?_
        refine lv_iconst (v := 1) hx hb dX4_holder_57 (by decide) ?_
        refine lv_iadd hx hb dX4_holder_58 ?_
        refine lv_topi (fun z_70 ez_70 => ?_)
        have hz_70 : z_70.toInt = qt_7.toInt + 1 := by rw [ez_70]; exact jb_iadd2 (rfl) ((by decide)) (by omega)
        refine j7_put hx hb hown hK hh_9 hB hAp hB6 (C := RX4) (T := TX4) (N := 12) rfl (by decide) hg_r0 (i := 11) (by decide) hly_6_11 rfl hlk_47 rfl (ty := .int) (v := .int z_70) (by decide +kernel) rfl rfl (⟨_, rfl, by omega, by omega⟩) rfl (L1 := [(r0, 6, 7, .int qv_2), (r0, 6, 9, .ref rb), (r0, 6, 10, .int pe), (r0, 6, 8, .int pu), (r0, 6, 0, .ref wk), (r0, 6, 1, .ref wi), (r0, 6, 2, .ref wz), (r0, 6, 4, .ref jkf), (r0, 6, 5, .ref jks)]) [1, 2, 3, 4, 5, 6, 7, 8, 9] rfl rfl rfl dX4_holder_59 (fun H_71 locs_71 hh_71 => ?_)
        clear hh_9
        refine lv_iload_n hx hb dX4_holder_62 rfl (lv_at hl 4 rfl) ?_
        rw [hQ]
        exact W.iret (v := r_3) hx hb hr (fun t ht hW => ⟨⟨r_3, (z_70, qv_2, pu, gk_2, gi_2, gz_2, ga_2, gs_2), rfl, by (try dsimp only); refine ⟨by omega, by omega, by omega, by omega, by omega, by omega, by omega, ?_⟩; exact jVr.mk hr_3_2 hr_3_0 hr_3_3 (by omega) (by omega) (by omega) (fun h9 => by omega) (by omega), ⟨hh_71.rt (M1 := [(r0, 6, 11, .int z_70), (r0, 6, 7, .int qv_2), (r0, 6, 8, .int pu)]) [0, 1, 4] rfl ht, by rw [ht]; exact hh_71.2.2.2.2.2.2.2.1.sub [0, 1, 2, 3, 4] rfl⟩⟩, by rw [ht]; try exact hh_71.1.1, fun q h9 hq => by rw [ht]; try exact hh_71.1.2.1 q h9 hq⟩) hh_71.1.2.2 dX4_holder_63
    refine lv_if_eq (tgt := 25) hx hb dX4_holder_17 (by decide) (fun c_72 => ?_) (fun c_72 => ?_)
    · skip
      have c_72' : a2.toInt = 0 := jb_eq (rfl) ((by decide)) c_72
      first | (have hr_3_0q := hr_3_0.resolve_left (by omega); clear hr_3_0) | (have hr_3_0q := hr_3_0.resolve_right (by omega); clear hr_3_0) | skip
      first | (have hr_3_3q := hr_3_3.resolve_left (by omega); clear hr_3_3) | (have hr_3_3q := hr_3_3.resolve_right (by omega); clear hr_3_3) | skip
      refine lv_bipush (v := 93) hx hb dX4_holder_25 (by decide) ?_
      exact C27 93 _ _ hh_2 (by first | omega | (refine ⟨?_, ?_⟩ <;> (first | omega | rfl | assumption | decide | exact Or.inl rfl | exact Or.inr rfl | (simp only; omega)))) _ (lv_sub hl [1, 2, 3, 0] rfl)
    · skip
      have c_72' : a2.toInt ≠ 0 := jb_eq_n (rfl) ((by decide)) c_72
      first | (have hr_3_0q := hr_3_0.resolve_left (by omega); clear hr_3_0) | (have hr_3_0q := hr_3_0.resolve_right (by omega); clear hr_3_0) | skip
      first | (have hr_3_3q := hr_3_3.resolve_left (by omega); clear hr_3_3) | (have hr_3_3q := hr_3_3.resolve_right (by omega); clear hr_3_3) | skip
      refine lv_bipush (v := 125) hx hb dX4_holder_20 (by decide) ?_
      refine lv_goto (tgt := 27) hx hb dX4_holder_22 (by decide) ?_
      exact C27 125 _ _ hh_2 (by first | omega | (refine ⟨?_, ?_⟩ <;> (first | omega | rfl | assumption | decide | exact Or.inl rfl | exact Or.inr rfl | (simp only; omega)))) _ (lv_sub hl [1, 2, 3, 0] rfl)
  refine lv_if_eq (tgt := 9) hx hb dX4_holder_2 (by decide) (fun c_73 => ?_) (fun c_73 => ?_)
  · skip
    have c_73' : a2.toInt = 0 := jb_eq (rfl) ((by decide)) c_73
    refine lv_iconst (v := 2) hx hb dX4_holder_9 (by decide) ?_
    exact C10 2 _ _ hh (by first | omega | (refine ⟨?_, ?_⟩ <;> (first | omega | rfl | assumption | decide | exact Or.inl rfl | exact Or.inr rfl | (simp only; omega)))) _ (lv_sub hl [0, 1, 2] rfl)
  · skip
    have c_73' : a2.toInt ≠ 0 := jb_eq_n (rfl) ((by decide)) c_73
    refine lv_iconst (v := 1) hx hb dX4_holder_5 (by decide) ?_
    refine lv_goto (tgt := 10) hx hb dX4_holder_6 (by decide) ?_
    exact C10 1 _ _ hh (by first | omega | (refine ⟨?_, ?_⟩ <;> (first | omega | rfl | assumption | decide | exact Or.inl rfl | exact Or.inr rfl | (simp only; omega)))) _ (lv_sub hl [0, 1, 2] rfl)
theorem aX4_valueHolderP (l : Launch) (dC : Nat → ClassId) (dI : Nat → Nat → Nat) (ca : Nat → ClassId) (base : Nat) (B : jF) (hB : jBok B) (hAp : jAp (dC, dI)) (hB6 : ∀ n G a H, B 6 n G a H ↔ jOb (dC, dI) 6 12 (F6 n G) a H) (hB100 : ∀ n G a H, B 100 n G a H ↔ jAr (dC, dI) (ca 0) (fun j z => True) n a H) (hB140 : ∀ n G a H, B 140 n G a H ↔ jAr (dC, dI) (ca 1) (fun j z => True) n a H) (hB141 : ∀ n G a H, B 141 n G a H ↔ jAr (dC, dI) (ca 1) (fun j z => True) n a H) (hB142 : ∀ n G a H, B 142 n G a H ↔ jAr (dC, dI) (ca 1) (fun j z => True) n a H) (hB143 : ∀ n G a H, B 143 n G a H ↔ jAr (dC, dI) (ca 1) (fun j z => True) n a H) (hB144 : ∀ n G a H, B 144 n G a H ↔ jAr (dC, dI) (ca 1) (fun j z => 0 ≤ z.toInt ∧ z.toInt ≤ 3000) n a H) (hB145 : ∀ n G a H, B 145 n G a H ↔ jAr (dC, dI) (ca 1) (fun j z => True) n a H) (hB146 : ∀ n G a H, B 146 n G a H ↔ jAr (dC, dI) (ca 1) (fun j z => True) n a H) : ∀ ef, qX4_valueP l dC dI ca base B ef ∧ qX4_holderP l dC dI ca base B ef := fun ef => Nat.strongRecOn ef (fun e ih => by
  have hV : qX4_valueP l dC dI ca base B e := fun G0 H0 => uX4_valueP l dC dI ca base B hB hAp hB6 hB100 hB140 hB141 hB142 hB143 hB144 hB145 hB146 e (fun e1 h => (ih e1 h).2) G0 H0
  exact ⟨hV, fun G0 H0 => uX4_holderP l dC dI ca base B hB hAp hB6 hB100 hB140 hB141 hB142 hB143 hB144 hB145 hB146 e hV G0 H0⟩)
end
section
def EX4_readP : List (Nat × Nat) := [(6, 7), (6, 8), (6, 9), (6, 10), (6, 11), (140, 0), (141, 0), (142, 0), (143, 0), (144, 0), (145, 0), (146, 0)]
set_option maxHeartbeats 4000000 in
set_option maxRecDepth 20000 in
theorem uX4_readP (l : Launch) (dC : Nat → ClassId) (dI : Nat → Nat → Nat) (ca : Nat → ClassId) (base : Nat) (B : jF) (hB : jBok B) (hAp : jAp (dC, dI)) (hB6 : ∀ n G a H, B 6 n G a H ↔ jOb (dC, dI) 6 12 (F6 n G) a H) (hB100 : ∀ n G a H, B 100 n G a H ↔ jAr (dC, dI) (ca 0) (fun j z => True) n a H) (hB140 : ∀ n G a H, B 140 n G a H ↔ jAr (dC, dI) (ca 1) (fun j z => True) n a H) (hB141 : ∀ n G a H, B 141 n G a H ↔ jAr (dC, dI) (ca 1) (fun j z => True) n a H) (hB142 : ∀ n G a H, B 142 n G a H ↔ jAr (dC, dI) (ca 1) (fun j z => True) n a H) (hB143 : ∀ n G a H, B 143 n G a H ↔ jAr (dC, dI) (ca 1) (fun j z => True) n a H) (hB144 : ∀ n G a H, B 144 n G a H ↔ jAr (dC, dI) (ca 1) (fun j z => 0 ≤ z.toInt ∧ z.toInt ≤ 3000) n a H) (hB145 : ∀ n G a H, B 145 n G a H ↔ jAr (dC, dI) (ca 1) (fun j z => True) n a H) (hB146 : ∀ n G a H, B 146 n G a H ↔ jAr (dC, dI) (ca 1) (fun j z => True) n a H) (G0 : jT) (H0 : Heap) (r0 : Nat) (r1 : Nat) (a2 : Int32) (n1 : Nat) (wk : Nat) (wi : Nat) (wz : Nat) (jkf : Nat) (jks : Nat) (fk : Nat → Int32) (fi : Nat → Int32) (fz : Nat → Int32) (fa : Nat → Int32) (fs : Nat → Int32) : Met l yX4_read (jw yX4_read cX4_read 4 (some .boolean)) ({ frames := 29, cells := 0, slots := 0, locals := 1823 }) (va_Pc [.ref r0, .ref r1, .int a2] (fun U => U.heap = H0 ∧ jX B base G0 [] H0 ∧ jG dC dI ca base U ∧ G0 r1 = some (100, n1) ∧ G0 r0 = some (6, 0) ∧ G0 wk = some (140, 1502) ∧ G0 wi = some (141, 1502) ∧ G0 wz = some (142, 1502) ∧ G0 jkf = some (144, 1502) ∧ G0 jks = some (145, 1502) ∧ jP (dC, dI) G0 H0 [(r0, 6, 0, .ref wk), (r0, 6, 1, .ref wi), (r0, 6, 2, .ref wz), (r0, 6, 4, .ref jkf), (r0, 6, 5, .ref jks)] ∧ jMc (dC, dI) G0 H0 [(wk, 140, 1502, ca 1, fk), (wi, 141, 1502, ca 1, fi), (wz, 142, 1502, ca 1, fz), (jkf, 144, 1502, ca 1, fa), (jks, 145, 1502, ca 1, fs)] ∧ n1 ≤ 3000 ∧ 0 ≤ a2.toInt)) (va_Qi (S := Int32 × Int32 × (Nat → Int32) × (Nat → Int32) × (Nat → Int32) × (Nat → Int32) × (Nat → Int32)) (fun r u => (r = 0 ∨ r = 1) ∧ (u.1.toInt ≤ 1502 ∧ u.2.1.toInt ≤ 3000 ∧ jJr (fk, fi, fz, fa, fs) 0 0 (u.2.2.1, u.2.2.2.1, u.2.2.2.2.1, u.2.2.2.2.2.1, u.2.2.2.2.2.2) u.1.toInt u.2.1.toInt ∧ (r.toInt = 0 ∨ (1 ≤ u.1.toInt ∧ u.2.1.toInt + jSb u.2.2.2.2.2.2 (u.1.toInt).toNat ≤ a2.toInt + 1)))) (fun u t => jRt (dC, dI) B base G0 EX4_readP H0 [(r0, 6, 7, .int u.1), (r0, 6, 8, .int u.2.1)] t.heap ∧ jMc (dC, dI) G0 t.heap [(wk, 140, 1502, ca 1, u.2.2.1), (wi, 141, 1502, ca 1, u.2.2.2.1), (wz, 142, 1502, ca 1, u.2.2.2.2.1), (jkf, 144, 1502, ca 1, u.2.2.2.2.2.1), (jks, 145, 1502, ca 1, u.2.2.2.2.2.2)]) (jA base)) 0 0 (jA base) := by
  refine Met.ofW (cc := cX4_read) (maxL := 4) (ret := (some .boolean)) (by decide) rfl ?_
  intro p e s m args below meth c s₁ Bd hml hv
  obtain ⟨rfl, hH0, hX, hG, hg_r1, hg_r0, hg_wk, hg_wi, hg_wz, hg_jkf, hg_jks, hP0, hM0, hp0, hp1⟩ := hv
  have hK := hG.1
  have hx := Bd.exec
  have hb := Bd.bytes
  have hr := Bd.returns
  have hts := atoms_spec (ws := (jw yX4_read cX4_read 4 (some .boolean))) Bd.pre
  have htw : ∀ w ∈ jWl, w.before _ s = true := fun w h => hts w (List.mem_cons_of_mem _ h)
  have hown : s.vm.findClass RX4 = some m.cls := findClass_of_methodNamed Bd.named
  have hlocks := Bd.notSynchronized
  obtain ⟨Q, hQ⟩ : ∃ Q, Q = MQ below (va_Qi (S := Int32 × Int32 × (Nat → Int32) × (Nat → Int32) × (Nat → Int32) × (Nat → Int32) × (Nat → Int32)) (fun r u => (r = 0 ∨ r = 1) ∧ (u.1.toInt ≤ 1502 ∧ u.2.1.toInt ≤ 3000 ∧ jJr (fk, fi, fz, fa, fs) 0 0 (u.2.2.1, u.2.2.2.1, u.2.2.2.2.1, u.2.2.2.2.2.1, u.2.2.2.2.2.2) u.1.toInt u.2.1.toInt ∧ (r.toInt = 0 ∨ (1 ≤ u.1.toInt ∧ u.2.1.toInt + jSb u.2.2.2.2.2.2 (u.1.toInt).toNat ≤ a2.toInt + 1)))) (fun u t => jRt (dC, dI) B base G0 EX4_readP H0 [(r0, 6, 7, .int u.1), (r0, 6, 8, .int u.2.1)] t.heap ∧ jMc (dC, dI) G0 t.heap [(wk, 140, 1502, ca 1, u.2.2.1), (wi, 141, 1502, ca 1, u.2.2.2.1), (wz, 142, 1502, ca 1, u.2.2.2.2.1), (jkf, 144, 1502, ca 1, u.2.2.2.2.2.1), (jks, 145, 1502, ca 1, u.2.2.2.2.2.2)]) (jA base)) ([.ref r0, .ref r1, .int a2] : List Value).toArray s 0 0 (jA base) := ⟨_, rfl⟩
  rw [← hQ]
  have hl := lv_entry ([.ref r0, .ref r1, .int a2]) (n := 4) (Nat.le_of_ble_eq_true rfl)
  rw [lg_entry_eq]
  generalize (lg_sl ([.ref r0, .ref r1, .int a2]) ++ List.replicate (4 - (lg_sl ([.ref r0, .ref r1, .int a2])).length) Slot.unset).toArray = ls at hl ⊢
  have hl : lv_has ls 4 [(0, .ref r0), (1, .ref r1), (2, .int a2)] := hl
  generalize hR : (headSpec (jw yX4_read cX4_read 4 (some .boolean)) ({ frames := 29, cells := 0, slots := 0, locals := 1823 })).room = R
  subst hH0
  have hh : jSt (dC, dI) B base G0 G0 EX4_readP s.heap 0 0 [(r0, 6, 0, .ref wk), (r0, 6, 1, .ref wi), (r0, 6, 2, .ref wz), (r0, 6, 4, .ref jkf), (r0, 6, 5, .ref jks)] [(wk, 140, 1502, ca 1, fk), (wi, 141, 1502, ca 1, fi), (wz, 142, 1502, ca 1, fz), (jkf, 144, 1502, ca 1, fa), (jks, 145, 1502, ca 1, fs)] [] s.heap [] := jSt.start hX hP0 hM0 jIs.nil
  clear hX hP0
  have hk0 : (0 : Int32).toInt = 0 := by decide
  have hk1 : (1 : Int32).toInt = 1 := by decide
  have hly_6_7 := htw (u_lay RX4 TX4 7) (jWc_wsX40 _ (u_in_lay (by decide)))
  have hly_6_8 := htw (u_lay RX4 TX4 8) (jWc_wsX40 _ (u_in_lay (by decide)))
  have hly_6_9 := htw (u_lay RX4 TX4 9) (jWc_wsX40 _ (u_in_lay (by decide)))
  have hly_6_10 := htw (u_lay RX4 TX4 10) (jWc_wsX40 _ (u_in_lay (by decide)))
  have hly_6_11 := htw (u_lay RX4 TX4 11) (jWc_wsX40 _ (u_in_lay (by decide)))
  have hlk_33 := (htw (.fieldLink RX4 33 "ProofServer$Json" "bytes" "[B") (jWr_4 _ (List.mem_of_getElem? (i := 4) rfl)))
  have hlk_43 := (htw (.fieldLink RX4 43 "ProofServer$Json" "end" "I") (jWr_19 _ (List.mem_of_getElem? (i := 11) rfl)))
  have hlk_47 := (htw (.fieldLink RX4 47 "ProofServer$Json" "at" "I") (jWr_19 _ (List.mem_of_getElem? (i := 12) rfl)))
  have hlk_50 := (htw (.fieldLink RX4 50 "ProofServer$Json" "values" "I") (jWr_19 _ (List.mem_of_getElem? (i := 13) rfl)))
  have hlk_53 := (htw (.fieldLink RX4 53 "ProofServer$Json" "unitCount" "I") (jWr_19 _ (List.mem_of_getElem? (i := 14) rfl)))
  have hrg_a2 := jb_rng a2
  refine lv_aload_n hx hb dX4_read_0 rfl (lv_at hl 0 rfl) ?_
  refine lv_aload_n hx hb dX4_read_1 rfl (lv_at hl 1 rfl) ?_
  refine j7_put hx hb hown hK hh hB hAp hB6 (C := RX4) (T := TX4) (N := 12) rfl (by decide) hg_r0 (i := 9) (by decide) hly_6_9 rfl hlk_33 rfl (ty := (.array .byte)) (v := .ref r1) (by decide +kernel) rfl rfl (⟨_, _, rfl, hg_r1, by omega⟩) rfl (L1 := [(r0, 6, 0, .ref wk), (r0, 6, 1, .ref wi), (r0, 6, 2, .ref wz), (r0, 6, 4, .ref jkf), (r0, 6, 5, .ref jks)]) [0, 1, 2, 3, 4] rfl rfl rfl dX4_read_2 (fun H_1 locs_1 hh_1 => ?_)
  clear hh
  refine lv_aload_n hx hb dX4_read_5 rfl (lv_at hl 0 rfl) ?_
  refine lv_iload_n hx hb dX4_read_6 rfl (lv_at hl 2 rfl) ?_
  refine lv_aload_n hx hb dX4_read_7 rfl (lv_at hl 1 rfl) ?_
  refine j7_len hx hb hK hh_1 hB100 0 rfl (by decide) hg_r1 (by omega) dX4_read_8 (fun z_2 hz_2 => ?_)
  refine va_mmin hx hb (by rw [hml]; exact hl.1.symm) hown (htw (.methodLink RX4 37 Lib.Math.min.name) (jWr_19 _ (List.mem_of_getElem? (i := 10) rfl))) (htw (.static Lib.Math.min.name) (jWr_16 _ (List.mem_of_getElem? (i := 16) rfl))) (htw (.initialized "java/lang/Math") (jWr_3 _ (List.mem_of_getElem? (i := 7) rfl))) (htw (.code Lib.Math.min.name Lib.Math.min.code 2 (some .int)) (jWr_16 _ (List.mem_of_getElem? (i := 17) rfl))) (by rw [← hR]; exact Nat.le_of_ble_eq_true rfl) (by rw [← hR]; exact Nat.le_of_ble_eq_true rfl) (Nat.zero_le _) (Nat.zero_le _) dX4_read_9 ?_
  refine lv_topi (fun z_3 ez_3 => ?_)
  have hz_3 := jb_min ez_3
  refine j7_put hx hb hown hK hh_1 hB hAp hB6 (C := RX4) (T := TX4) (N := 12) rfl (by decide) hg_r0 (i := 10) (by decide) hly_6_10 rfl hlk_43 rfl (ty := .int) (v := .int z_3) (by decide +kernel) rfl rfl (⟨_, rfl, by omega, by omega⟩) rfl (L1 := [(r0, 6, 9, .ref r1), (r0, 6, 0, .ref wk), (r0, 6, 1, .ref wi), (r0, 6, 2, .ref wz), (r0, 6, 4, .ref jkf), (r0, 6, 5, .ref jks)]) [0, 1, 2, 3, 4, 5] rfl rfl rfl dX4_read_12 (fun H_4 locs_4 hh_4 => ?_)
  clear hh_1
  refine lv_aload_n hx hb dX4_read_15 rfl (lv_at hl 0 rfl) ?_
  refine lv_iconst (v := 0) hx hb dX4_read_16 (by decide) ?_
  refine j7_put hx hb hown hK hh_4 hB hAp hB6 (C := RX4) (T := TX4) (N := 12) rfl (by decide) hg_r0 (i := 11) (by decide) hly_6_11 rfl hlk_47 rfl (ty := .int) (v := .int 0) (by decide +kernel) rfl rfl (⟨_, rfl, by omega, by omega⟩) rfl (L1 := [(r0, 6, 10, .int z_3), (r0, 6, 9, .ref r1), (r0, 6, 0, .ref wk), (r0, 6, 1, .ref wi), (r0, 6, 2, .ref wz), (r0, 6, 4, .ref jkf), (r0, 6, 5, .ref jks)]) [0, 1, 2, 3, 4, 5, 6] rfl rfl rfl dX4_read_17 (fun H_5 locs_5 hh_5 => ?_)
  clear hh_4
  refine lv_aload_n hx hb dX4_read_20 rfl (lv_at hl 0 rfl) ?_
  refine lv_iconst (v := 0) hx hb dX4_read_21 (by decide) ?_
  refine j7_put hx hb hown hK hh_5 hB hAp hB6 (C := RX4) (T := TX4) (N := 12) rfl (by decide) hg_r0 (i := 7) (by decide) hly_6_7 rfl hlk_50 rfl (ty := .int) (v := .int 0) (by decide +kernel) rfl rfl (⟨_, rfl, by omega, by omega⟩) rfl (L1 := [(r0, 6, 11, .int 0), (r0, 6, 10, .int z_3), (r0, 6, 9, .ref r1), (r0, 6, 0, .ref wk), (r0, 6, 1, .ref wi), (r0, 6, 2, .ref wz), (r0, 6, 4, .ref jkf), (r0, 6, 5, .ref jks)]) [0, 1, 2, 3, 4, 5, 6, 7] rfl rfl rfl dX4_read_22 (fun H_6 locs_6 hh_6 => ?_)
  clear hh_5
  refine lv_aload_n hx hb dX4_read_25 rfl (lv_at hl 0 rfl) ?_
  refine lv_iconst (v := 0) hx hb dX4_read_26 (by decide) ?_
  refine j7_put hx hb hown hK hh_6 hB hAp hB6 (C := RX4) (T := TX4) (N := 12) rfl (by decide) hg_r0 (i := 8) (by decide) hly_6_8 rfl hlk_53 rfl (ty := .int) (v := .int 0) (by decide +kernel) rfl rfl (⟨_, rfl, by omega, by omega⟩) rfl (L1 := [(r0, 6, 7, .int 0), (r0, 6, 11, .int 0), (r0, 6, 10, .int z_3), (r0, 6, 9, .ref r1), (r0, 6, 0, .ref wk), (r0, 6, 1, .ref wi), (r0, 6, 2, .ref wz), (r0, 6, 4, .ref jkf), (r0, 6, 5, .ref jks)]) [0, 1, 2, 3, 4, 5, 6, 7, 8] rfl rfl rfl dX4_read_27 (fun H_7 locs_7 hh_7 => ?_)
  clear hh_6
  refine lv_aload_n hx hb dX4_read_30 rfl (lv_at hl 0 rfl) ?_
  refine va_callv (A0 := jA base) (H0 := s.heap) (va_runV (As := []) (rest := []) ⟨hx, hb, hml, hown, hts⟩ (uX4_skipBlanks l dC dI ca base B hB hAp hB6 hB100 G0 H_7 r0 r1 n1 z_3 0 (z_3.toInt + 0)) (cwV 0 hts (jgV (jWr_19 _ (List.mem_of_getElem? (i := 15) rfl)) (jWr_19 _ (List.mem_of_getElem? (i := 16) rfl)) (jWr_19 _ (List.mem_of_getElem? (i := 17) rfl)) (jWr_1 _ (List.mem_of_getElem? (i := 22) rfl)) (jWr_19 _ (List.mem_of_getElem? (i := 18) rfl))) rfl rfl rfl (by decide +kernel) ⟨by rw [← hR]; exact Nat.le_of_ble_eq_true rfl, by rw [← hR]; exact Nat.le_of_ble_eq_true rfl⟩) ⟨fun a U g mk q => by obtain ⟨q0, q1, q2, qK, q10, q11, q12, q13⟩ := q; exact ⟨q0, q1, q2, jG.calling g mk a qK, q10, q11, q12, q13⟩, hh_7.recv (C := RX4) (T := TX4) (N := 12) hB6 rfl (by decide) hg_r0 hK, fun U hU hW => ⟨rfl, hU, hh_7.2.1, hG.step hW hU hh_7.1, hg_r0, hg_r1, (hh_7.2.2.1.sub (L1 := [(r0, 6, 9, .ref r1), (r0, 6, 10, .int z_3), (r0, 6, 11, .int 0)]) [4, 3, 2] rfl), by first | omega | (refine ⟨?_, ?_, ?_, ?_, ?_, ?_, ?_, ?_⟩ <;> (first | omega | rfl | assumption | decide | exact Or.inl rfl | exact Or.inr rfl | (simp only; omega)))⟩⟩ rfl rfl hl.1 rfl (lv_room (Nat.le_of_ble_eq_true rfl)) dX4_read_31 ⟨Nat.zero_le _, Nat.zero_le _⟩) hh_7.1 (fun q _ h => h) (fun q h => h) (fun u_8 t_8 H_8 locs_8 ht_8 hvm_8 hr_9 hb_8 hz_8 hk_8 hS_8 => ?_)
  obtain ⟨qt_8, rfl⟩ : ∃ z, z = u_8 := ⟨_, rfl⟩
  rw [ht_8] at hb_8
  obtain ⟨hb_81, hb_82, hb_83, hb_84, hb_85⟩ := hb_8
  have hh_8 : jSt (dC, dI) B base G0 G0 EX4_readP s.heap 0 0 [(r0, 6, 11, .int qt_8), (r0, 6, 8, .int 0), (r0, 6, 7, .int 0), (r0, 6, 10, .int z_3), (r0, 6, 9, .ref r1), (r0, 6, 0, .ref wk), (r0, 6, 1, .ref wi), (r0, 6, 2, .ref wz), (r0, 6, 4, .ref jkf), (r0, 6, 5, .ref jks)] [(wk, 140, 1502, ca 1, fk), (wi, 141, 1502, ca 1, fi), (wz, 142, 1502, ca 1, fz), (jkf, 144, 1502, ca 1, fa), (jks, 145, 1502, ca 1, fs)] [] H_8 locs_8 := ((hh_7.call hb_81 hb_82 hb_83 hb_84 hS_8 rfl (L1 := [(r0, 6, 8, .int 0), (r0, 6, 7, .int 0), (r0, 6, 10, .int z_3), (r0, 6, 9, .ref r1), (r0, 6, 0, .ref wk), (r0, 6, 1, .ref wi), (r0, 6, 2, .ref wz), (r0, 6, 4, .ref jkf), (r0, 6, 5, .ref jks)]) [0, 1, 3, 4, 5, 6, 7, 8, 9] rfl rfl (M1 := [(wk, 140, 1502, ca 1, fk), (wi, 141, 1502, ca 1, fi), (wz, 142, 1502, ca 1, fz), (jkf, 144, 1502, ca 1, fa), (jks, 145, 1502, ca 1, fs)]) [0, 1, 2, 3, 4] rfl rfl (I1 := []) [] rfl rfl).more hb_85)
  clear hh_7 ht_8 hvm_8 hz_8 hk_8 hS_8 hb_81 hb_82 hb_83 hb_84 hb_85
  obtain ⟨hr_9_0, hr_9_1⟩ := hr_9
  refine lv_aload_n hx hb dX4_read_34 rfl (lv_at hl 0 rfl) ?_
  refine lv_iconst (v := 0) hx hb dX4_read_35 (by decide) ?_
  refine va_calli (A0 := jA base) (H0 := s.heap) (va_runV (As := [.int 0]) (rest := []) ⟨hx, hb, hml, hown, hts⟩ ((aX4_valueHolderP l dC dI ca base B hB hAp hB6 hB100 hB140 hB141 hB142 hB143 hB144 hB145 hB146 10).1 G0 H_8 r0 0 r1 n1 z_3 qt_8 0 0 wk wi wz jkf jks fk fi fz fa fs) (cwV 1 hts (jgV (jWr_20 _ (List.mem_of_getElem? (i := 1) rfl)) (jWr_20 _ (List.mem_of_getElem? (i := 2) rfl)) (jWr_20 _ (List.mem_of_getElem? (i := 3) rfl)) (jWr_1 _ (List.mem_of_getElem? (i := 22) rfl)) (jWr_20 _ (List.mem_of_getElem? (i := 4) rfl))) rfl rfl rfl (by decide +kernel) ⟨by rw [← hR]; exact Nat.le_of_ble_eq_true rfl, by rw [← hR]; exact Nat.le_of_ble_eq_true rfl⟩) ⟨fun a U g mk q => by obtain ⟨q0, q1, q2, qK, q10, q11, q12, q13, q14, q15, q16, q17, q18, q19⟩ := q; exact ⟨q0, q1, q2, jG.calling g mk a qK, q10, q11, q12, q13, q14, q15, q16, q17, q18, q19⟩, hh_8.recv (C := RX4) (T := TX4) (N := 12) hB6 rfl (by decide) hg_r0 hK, fun U hU hW => ⟨rfl, hU, hh_8.2.1, hG.step hW hU hh_8.1, hg_r0, hg_r1, hg_wk, hg_wi, hg_wz, hg_jkf, hg_jks, (hh_8.2.2.1.sub (L1 := [(r0, 6, 9, .ref r1), (r0, 6, 10, .int z_3), (r0, 6, 11, .int qt_8), (r0, 6, 7, .int 0), (r0, 6, 8, .int 0), (r0, 6, 0, .ref wk), (r0, 6, 1, .ref wi), (r0, 6, 2, .ref wz), (r0, 6, 4, .ref jkf), (r0, 6, 5, .ref jks)]) [4, 3, 0, 2, 1, 5, 6, 7, 8, 9] rfl), (hh_8.2.2.2.2.2.2.2.1.sub (L1 := [(wk, 140, 1502, ca 1, fk), (wi, 141, 1502, ca 1, fi), (wz, 142, 1502, ca 1, fz), (jkf, 144, 1502, ca 1, fa), (jks, 145, 1502, ca 1, fs)]) [0, 1, 2, 3, 4] rfl), by first | omega | (refine ⟨?_, ?_, ?_, ?_, ?_, ?_, ?_, ?_, ?_, ?_, ?_, ?_⟩ <;> (first | omega | rfl | assumption | decide | exact Or.inl rfl | exact Or.inr rfl | (simp only; omega)))⟩⟩ rfl rfl hl.1 rfl (lv_room (Nat.le_of_ble_eq_true rfl)) dX4_read_36 ⟨Nat.zero_le _, Nat.zero_le _⟩) hh_8.1 (fun q _ h => h) (fun q h => h) (fun r_11 u_10 t_10 H_10 locs_10 ht_10 hvm_10 hr_11 hb_10 hz_10 hk_10 hS_10 => ?_)
  obtain ⟨qt_10, qv_10, qu_10, gk_10, gi_10, gz_10, ga_10, gs_10⟩ := u_10
  rw [ht_10] at hb_10
  obtain ⟨⟨hb_101, hb_102, hb_103, hb_104, hb_105⟩, hb_106⟩ := hb_10
  have hh_10 : jSt (dC, dI) B base G0 G0 EX4_readP s.heap 0 0 [(r0, 6, 11, .int qt_10), (r0, 6, 7, .int qv_10), (r0, 6, 8, .int qu_10), (r0, 6, 10, .int z_3), (r0, 6, 9, .ref r1), (r0, 6, 0, .ref wk), (r0, 6, 1, .ref wi), (r0, 6, 2, .ref wz), (r0, 6, 4, .ref jkf), (r0, 6, 5, .ref jks)] [(wk, 140, 1502, ca 1, gk_10), (wi, 141, 1502, ca 1, gi_10), (wz, 142, 1502, ca 1, gz_10), (jkf, 144, 1502, ca 1, ga_10), (jks, 145, 1502, ca 1, gs_10)] [] H_10 locs_10 := ((hh_8.call hb_101 hb_102 hb_103 hb_104 hS_10 rfl (L1 := [(r0, 6, 10, .int z_3), (r0, 6, 9, .ref r1), (r0, 6, 0, .ref wk), (r0, 6, 1, .ref wi), (r0, 6, 2, .ref wz), (r0, 6, 4, .ref jkf), (r0, 6, 5, .ref jks)]) [3, 4, 5, 6, 7, 8, 9] rfl rfl (M1 := []) [] rfl rfl (I1 := []) [] rfl rfl).more hb_105).moreM hb_106
  clear hh_8 ht_10 hvm_10 hz_10 hk_10 hS_10 hb_101 hb_102 hb_103 hb_104 hb_105
  clear hb_106
  try simp only at hr_11
  obtain ⟨hr_11_0, hr_11_1, hr_11_2, hr_11_3, hr_11_4, hr_11_5, hr_11_6, hr_11_7⟩ := hr_11
  refine lv_istore_n (lv' := [(3, .int r_11), (0, .ref r0), (1, .ref r1), (2, .int a2)]) hx hb dX4_read_39 rfl hl (by decide) rfl (fun ls hl => ?_)
  refine lv_aload_n hx hb dX4_read_40 rfl (lv_at hl 1 rfl) ?_
  refine va_callv (A0 := jA base) (H0 := s.heap) (va_runV (As := []) (rest := []) ⟨hx, hb, hml, hown, hts⟩ (uX4_skipBlanks l dC dI ca base B hB hAp hB6 hB100 G0 H_10 r0 r1 n1 z_3 qt_10 (z_3.toInt + 4)) (cwV 0 hts (jgV (jWr_19 _ (List.mem_of_getElem? (i := 15) rfl)) (jWr_19 _ (List.mem_of_getElem? (i := 16) rfl)) (jWr_19 _ (List.mem_of_getElem? (i := 17) rfl)) (jWr_1 _ (List.mem_of_getElem? (i := 22) rfl)) (jWr_19 _ (List.mem_of_getElem? (i := 18) rfl))) rfl rfl rfl (by decide +kernel) ⟨by rw [← hR]; exact Nat.le_of_ble_eq_true rfl, by rw [← hR]; exact Nat.le_of_ble_eq_true rfl⟩) ⟨fun a U g mk q => by obtain ⟨q0, q1, q2, qK, q10, q11, q12, q13⟩ := q; exact ⟨q0, q1, q2, jG.calling g mk a qK, q10, q11, q12, q13⟩, hh_10.recv (C := RX4) (T := TX4) (N := 12) hB6 rfl (by decide) hg_r0 hK, fun U hU hW => ⟨rfl, hU, hh_10.2.1, hG.step hW hU hh_10.1, hg_r0, hg_r1, (hh_10.2.2.1.sub (L1 := [(r0, 6, 9, .ref r1), (r0, 6, 10, .int z_3), (r0, 6, 11, .int qt_10)]) [4, 3, 0] rfl), by first | omega | (refine ⟨?_, ?_, ?_, ?_, ?_, ?_, ?_, ?_⟩ <;> (first | omega | rfl | assumption | decide | exact Or.inl rfl | exact Or.inr rfl | (simp only; omega)))⟩⟩ rfl rfl hl.1 rfl (lv_room (Nat.le_of_ble_eq_true rfl)) dX4_read_41 ⟨Nat.zero_le _, Nat.zero_le _⟩) hh_10.1 (fun q _ h => h) (fun q h => h) (fun u_12 t_12 H_12 locs_12 ht_12 hvm_12 hr_13 hb_12 hz_12 hk_12 hS_12 => ?_)
  obtain ⟨qt_12, rfl⟩ : ∃ z, z = u_12 := ⟨_, rfl⟩
  rw [ht_12] at hb_12
  obtain ⟨hb_121, hb_122, hb_123, hb_124, hb_125⟩ := hb_12
  have hh_12 : jSt (dC, dI) B base G0 G0 EX4_readP s.heap 0 0 [(r0, 6, 11, .int qt_12), (r0, 6, 7, .int qv_10), (r0, 6, 8, .int qu_10), (r0, 6, 10, .int z_3), (r0, 6, 9, .ref r1), (r0, 6, 0, .ref wk), (r0, 6, 1, .ref wi), (r0, 6, 2, .ref wz), (r0, 6, 4, .ref jkf), (r0, 6, 5, .ref jks)] [(wk, 140, 1502, ca 1, gk_10), (wi, 141, 1502, ca 1, gi_10), (wz, 142, 1502, ca 1, gz_10), (jkf, 144, 1502, ca 1, ga_10), (jks, 145, 1502, ca 1, gs_10)] [] H_12 locs_12 := ((hh_10.call hb_121 hb_122 hb_123 hb_124 hS_12 rfl (L1 := [(r0, 6, 7, .int qv_10), (r0, 6, 8, .int qu_10), (r0, 6, 10, .int z_3), (r0, 6, 9, .ref r1), (r0, 6, 0, .ref wk), (r0, 6, 1, .ref wi), (r0, 6, 2, .ref wz), (r0, 6, 4, .ref jkf), (r0, 6, 5, .ref jks)]) [1, 2, 3, 4, 5, 6, 7, 8, 9] rfl rfl (M1 := [(wk, 140, 1502, ca 1, gk_10), (wi, 141, 1502, ca 1, gi_10), (wz, 142, 1502, ca 1, gz_10), (jkf, 144, 1502, ca 1, ga_10), (jks, 145, 1502, ca 1, gs_10)]) [0, 1, 2, 3, 4] rfl rfl (I1 := []) [] rfl rfl).more hb_125)
  clear hh_10 ht_12 hvm_12 hz_12 hk_12 hS_12 hb_121 hb_122 hb_123 hb_124 hb_125
  obtain ⟨hr_13_0, hr_13_1⟩ := hr_13
  refine lv_iload_n hx hb dX4_read_44 rfl (lv_at hl 0 rfl) ?_
  refine lv_if_ne (tgt := 63) hx hb dX4_read_45 (by decide) (fun c_14 => ?_) (fun c_14 => ?_)
  · skip
    have c_14' : r_11.toInt ≠ 0 := jb_ne (rfl) ((by decide)) c_14
    refine lv_iconst (v := 0) hx hb dX4_read_63 (by decide) ?_
    rw [hQ]
    exact W.zret (v := 0) hx hb hr (jb_nz (Or.inl rfl)) (fun t ht hW => ⟨⟨0, (qv_10, qu_10, gk_10, gi_10, gz_10, ga_10, gs_10), rfl, ⟨(Or.inl rfl), by (try dsimp only); refine ⟨by omega, by omega, hr_11_7.base hk0 hk0, ?_⟩; exact Or.inl (by first | rfl | decide)⟩, ⟨hh_12.rt (M1 := [(r0, 6, 7, .int qv_10), (r0, 6, 8, .int qu_10)]) [1, 2] rfl ht, by rw [ht]; exact hh_12.2.2.2.2.2.2.2.1.sub [0, 1, 2, 3, 4] rfl⟩⟩, by rw [ht]; try exact hh_12.1.1, fun q h9 hq => by rw [ht]; try exact hh_12.1.2.1 q h9 hq⟩) hh_12.1.2.2 dX4_read_64
  · skip
    have c_14' : r_11.toInt = 0 := jb_ne_n (rfl) ((by decide)) c_14
    first | (have hr_11_4q := hr_11_4.resolve_left (by omega); clear hr_11_4) | (have hr_11_4q := hr_11_4.resolve_right (by omega); clear hr_11_4) | skip
    refine lv_aload_n hx hb dX4_read_48 rfl (lv_at hl 1 rfl) ?_
    refine j7_read hx hb hown hK (C := RX4) (T := TX4) (N := 12) rfl hly_6_11 hlk_47 (hh_12.at 0 rfl) dX4_read_49 ?_
    refine lv_aload_n hx hb dX4_read_52 rfl (lv_at hl 1 rfl) ?_
    refine j7_read hx hb hown hK (C := RX4) (T := TX4) (N := 12) rfl hly_6_10 hlk_43 (hh_12.at 3 rfl) dX4_read_53 ?_
    refine lv_icmp_ne (tgt := 63) hx hb dX4_read_56 (by decide) (fun c_15 => ?_) (fun c_15 => ?_)
    · skip
      have c_15' : qt_12.toInt ≠ z_3.toInt := jb_ne (rfl) (rfl) c_15
      refine lv_iconst (v := 0) hx hb dX4_read_63 (by decide) ?_
      rw [hQ]
      exact W.zret (v := 0) hx hb hr (jb_nz (Or.inl rfl)) (fun t ht hW => ⟨⟨0, (qv_10, qu_10, gk_10, gi_10, gz_10, ga_10, gs_10), rfl, ⟨(Or.inl rfl), by (try dsimp only); refine ⟨by omega, by omega, hr_11_7.base hk0 hk0, ?_⟩; exact Or.inl (by first | rfl | decide)⟩, ⟨hh_12.rt (M1 := [(r0, 6, 7, .int qv_10), (r0, 6, 8, .int qu_10)]) [1, 2] rfl ht, by rw [ht]; exact hh_12.2.2.2.2.2.2.2.1.sub [0, 1, 2, 3, 4] rfl⟩⟩, by rw [ht]; try exact hh_12.1.1, fun q h9 hq => by rw [ht]; try exact hh_12.1.2.1 q h9 hq⟩) hh_12.1.2.2 dX4_read_64
    · skip
      have c_15' : qt_12.toInt = z_3.toInt := jb_ne_n (rfl) (rfl) c_15
      refine lv_iconst (v := 1) hx hb dX4_read_59 (by decide) ?_
      refine lv_goto (tgt := 64) hx hb dX4_read_60 (by decide) ?_
      rw [hQ]
      exact W.zret (v := 1) hx hb hr (jb_nz (Or.inr rfl)) (fun t ht hW => ⟨⟨1, (qv_10, qu_10, gk_10, gi_10, gz_10, ga_10, gs_10), rfl, ⟨(Or.inr rfl), by (try dsimp only); refine ⟨by omega, by omega, hr_11_7.base hk0 hk0, ?_⟩; exact Or.inr (hr_11_7.root hk0 hk0 (by omega) (by omega) (by omega))⟩, ⟨hh_12.rt (M1 := [(r0, 6, 7, .int qv_10), (r0, 6, 8, .int qu_10)]) [1, 2] rfl ht, by rw [ht]; exact hh_12.2.2.2.2.2.2.2.1.sub [0, 1, 2, 3, 4] rfl⟩⟩, by rw [ht]; try exact hh_12.1.1, fun q h9 hq => by rw [ht]; try exact hh_12.1.2.1 q h9 hq⟩) hh_12.1.2.2 dX4_read_64
end
