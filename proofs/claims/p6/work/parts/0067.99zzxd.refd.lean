section
def EX14_isPositionR : List (Nat × Nat) := []
def EX14_lineBeginR : List (Nat × Nat) := []
def EX14_placeOfR : List (Nat × Nat) := []
def EX14_isChangeR : List (Nat × Nat) := []
set_option maxHeartbeats 4000000 in
set_option maxRecDepth 20000 in
theorem uX14_isPositionR (l : Launch) (dC : Nat → ClassId) (dI : Nat → Nat → Nat) (ca : Nat → ClassId) (base : Nat) (B : jF) (hB : jBok B) (hAp : jAp (dC, dI)) (hB16 : ∀ n G a H, B 16 n G a H ↔ jOb (dC, dI) 16 74 (F16 n G) a H) (hB117 : ∀ n G a H, B 117 n G a H ↔ jAr (dC, dI) (ca 1) (fun j z => True) n a H) (hB118 : ∀ n G a H, B 118 n G a H ↔ jAr (dC, dI) (ca 1) (fun j z => -1 ≤ z.toInt ∧ z.toInt ≤ 3099) n a H) (hB119 : ∀ n G a H, B 119 n G a H ↔ jAr (dC, dI) (ca 1) (fun j z => z.toInt = -1 ∨ z.toInt = 0 ∨ ((j : Nat) < z.toInt ∧ z.toInt ≤ 3099)) n a H) (hB120 : ∀ n G a H, B 120 n G a H ↔ jAr (dC, dI) (ca 1) (fun j z => 0 ≤ z.toInt ∧ z.toInt ≤ 3300) n a H) (hB121 : ∀ n G a H, B 121 n G a H ↔ jAr (dC, dI) (ca 1) (fun j z => 0 ≤ z.toInt ∧ z.toInt ≤ 3300) n a H) (hB124 : ∀ n G a H, B 124 n G a H ↔ jAr (dC, dI) (ca 3) (fun j z => (z = 0 ∨ z = 1)) n a H) (hB125 : ∀ n G a H, B 125 n G a H ↔ jAr (dC, dI) (ca 1) (fun j z => True) n a H) (hB127 : ∀ n G a H, B 127 n G a H ↔ jAr (dC, dI) (ca 1) (fun j z => True) n a H) (G0 : jT) (H0 : Heap) (r0 : Nat) (a1 : Int32) (zm : Nat) (xh : Nat) (xn : Nat) (xf : Nat) (xt : Nat) (xb : Nat) (xe : Nat) (xi : Nat) (xg : Nat) (xp : Nat) (T9 : Nat → Int → Int) (nd9 po9 : Int) (ms : Nat → Int32) (mh : Nat → Int32) (mx : Nat → Int32) (mf : Nat → Int32) (mt : Nat → Int32) (mb : Nat → Int32) (me : Nat → Int32) (mi : Nat → Int32) (mn : Nat → Int32) (fu : Nat → Int32) : Met l yX14_isPosition (jw yX14_isPosition cX14_isPosition 4 (some .boolean)) ({ frames := 6, cells := 0, slots := 0, locals := 189 }) (va_Pc [.ref r0, .int a1] (fun U => U.heap = H0 ∧ jX B base G0 [] H0 ∧ jG dC dI ca base U ∧ G0 r0 = some (16, 0) ∧ G0 zm = some (117, 3100) ∧ G0 xh = some (118, 3100) ∧ G0 xn = some (119, 3100) ∧ G0 xf = some (120, 3100) ∧ G0 xt = some (121, 3100) ∧ G0 xb = some (122, 3100) ∧ G0 xe = some (123, 3100) ∧ G0 xi = some (124, 3100) ∧ G0 xg = some (125, 3100) ∧ G0 xp = some (127, 3300) ∧ jP (dC, dI) G0 H0 [(r0, 16, 17, .ref zm), (r0, 16, 18, .ref xh), (r0, 16, 19, .ref xn), (r0, 16, 20, .ref xf), (r0, 16, 21, .ref xt), (r0, 16, 22, .ref xb), (r0, 16, 23, .ref xe), (r0, 16, 24, .ref xi), (r0, 16, 25, .ref xg), (r0, 16, 27, .ref xp)] ∧ jMc (dC, dI) G0 H0 [(zm, 117, 3100, ca 1, ms), (xh, 118, 3100, ca 1, mh), (xn, 119, 3100, ca 1, mx), (xf, 120, 3100, ca 1, mf), (xt, 121, 3100, ca 1, mt), (xb, 122, 3100, ca 1, mb), (xe, 123, 3100, ca 1, me), (xi, 124, 3100, ca 3, mi), (xg, 125, 3100, ca 1, mn), (xp, 127, 3300, ca 1, fu)] ∧ 0 ≤ nd9 ∧ nd9 ≤ 3100 ∧ jjRB T9 nd9 po9 ms mh mx mf mt mb me mi mn fu ∧ a1.toInt < nd9 ∧ jSo mx 0 = -1)) (va_Qi (S := Unit) (fun r u => (r = 0 ∨ r = 1) ∧ (((r.toInt = 1 ∧ jdPo T9 nd9 a1.toInt) ∨ (r.toInt = 0 ∧ ¬ jdPo T9 nd9 a1.toInt)))) (fun u t => jRt (dC, dI) B base G0 EX14_isPositionR H0 [] t.heap) (jA base)) 0 0 (jA base) := by
  refine Met.ofW (cc := cX14_isPosition) (maxL := 4) (ret := (some .boolean)) (by decide) rfl ?_
  intro p e s m args below meth c s₁ Bd hml hv
  obtain ⟨rfl, hH0, hX, hG, hg_r0, hg_zm, hg_xh, hg_xn, hg_xf, hg_xt, hg_xb, hg_xe, hg_xi, hg_xg, hg_xp, hP0, hM0, hp0, hp1, hp2, hp3, hp4⟩ := hv
  have hK := hG.1
  have hx := Bd.exec
  have hb := Bd.bytes
  have hr := Bd.returns
  have hts := atoms_spec (ws := (jw yX14_isPosition cX14_isPosition 4 (some .boolean))) Bd.pre
  have htw : ∀ w ∈ jWl, w.before _ s = true := fun w h => hts w (List.mem_cons_of_mem _ h)
  have hown : s.vm.findClass RX14 = some m.cls := findClass_of_methodNamed Bd.named
  have hlocks := Bd.notSynchronized
  obtain ⟨Q, hQ⟩ : ∃ Q, Q = MQ below (va_Qi (S := Unit) (fun r u => (r = 0 ∨ r = 1) ∧ (((r.toInt = 1 ∧ jdPo T9 nd9 a1.toInt) ∨ (r.toInt = 0 ∧ ¬ jdPo T9 nd9 a1.toInt)))) (fun u t => jRt (dC, dI) B base G0 EX14_isPositionR H0 [] t.heap) (jA base)) ([.ref r0, .int a1] : List Value).toArray s 0 0 (jA base) := ⟨_, rfl⟩
  rw [← hQ]
  have hl := lv_entry ([.ref r0, .int a1]) (n := 4) (Nat.le_of_ble_eq_true rfl)
  rw [lg_entry_eq]
  generalize (lg_sl ([.ref r0, .int a1]) ++ List.replicate (4 - (lg_sl ([.ref r0, .int a1])).length) Slot.unset).toArray = ls at hl ⊢
  have hl : lv_has ls 4 [(0, .ref r0), (1, .int a1)] := hl
  generalize hR : (headSpec (jw yX14_isPosition cX14_isPosition 4 (some .boolean)) ({ frames := 6, cells := 0, slots := 0, locals := 189 })).room = R
  subst hH0
  have hh : jSt (dC, dI) B base G0 G0 EX14_isPositionR s.heap 0 0 [(r0, 16, 17, .ref zm), (r0, 16, 18, .ref xh), (r0, 16, 19, .ref xn), (r0, 16, 20, .ref xf), (r0, 16, 21, .ref xt), (r0, 16, 22, .ref xb), (r0, 16, 23, .ref xe), (r0, 16, 24, .ref xi), (r0, 16, 25, .ref xg), (r0, 16, 27, .ref xp)] [(zm, 117, 3100, ca 1, ms), (xh, 118, 3100, ca 1, mh), (xn, 119, 3100, ca 1, mx), (xf, 120, 3100, ca 1, mf), (xt, 121, 3100, ca 1, mt), (xb, 122, 3100, ca 1, mb), (xe, 123, 3100, ca 1, me), (xi, 124, 3100, ca 3, mi), (xg, 125, 3100, ca 1, mn), (xp, 127, 3300, ca 1, fu)] [] s.heap [] := jSt.start hX hP0 hM0 jIs.nil
  clear hX hP0
  have hk0 : (0 : Int32).toInt = 0 := by decide
  have hk1 : (1 : Int32).toInt = 1 := by decide
  have hly_16_25 := htw (u_lay RX14 TX14 25) (jWc_wsX140 _ (u_in_lay (by decide)))
  obtain ⟨str544, rstr544, hstr5440⟩ := hG.strT (o := RX14) (k := 544) (tx := "line") (List.mem_of_getElem? (i := 2895) (by decide +kernel))
  have hTstr544 : jStrF base str544 4 (jChT "line") s s.heap := hstr5440.F (by decide +kernel)
  have hstr544 : jStr base str544 4 s s.heap := hTstr544.str
  obtain ⟨str546, rstr546, hstr5460⟩ := hG.strT (o := RX14) (k := 546) (tx := "character") (List.mem_of_getElem? (i := 2896) (by decide +kernel))
  have hTstr546 : jStrF base str546 9 (jChT "character") s s.heap := hstr5460.F (by decide +kernel)
  have hstr546 : jStr base str546 9 s s.heap := hTstr546.str
  have hlk_62 := (htw (.fieldLink RX14 62 "ProofServerModel" "ints" "[I") (jWr_11 _ (List.mem_of_getElem? (i := 13) rfl)))
  have hrg_a1 := jb_rng a1
  refine lv_aload_n hx hb dX14_isPosition_0 rfl (lv_at hl 0 rfl) ?_
  refine lv_iload_n hx hb dX14_isPosition_1 rfl (lv_at hl 1 rfl) ?_
  refine j_ldcSw hx hb hown rstr544 dX14_isPosition_2 ?_
  refine va_calli (A0 := jA base) (H0 := s.heap) (va_runV (As := [.int a1, .ref str544]) (rest := []) ⟨hx, hb, hml, hown, hts⟩ (uX14_memberR l dC dI ca base B hB hAp hB16 hB117 hB118 hB119 hB120 hB121 hB127 G0 s.heap r0 a1 str544 4 (jChT "line") zm xh xn xf xt xb xe xi xg xp T9 nd9 po9 ms mh mx mf mt mb me mi mn fu) (cwV 2 hts (jgV (jWr_55 _ (List.mem_of_getElem? (i := 15) rfl)) (jWr_55 _ (List.mem_of_getElem? (i := 16) rfl)) (jWr_55 _ (List.mem_of_getElem? (i := 17) rfl)) (jWr_1 _ (List.mem_of_getElem? (i := 5) rfl)) (jWr_55 _ (List.mem_of_getElem? (i := 18) rfl))) rfl rfl rfl (by decide +kernel) ⟨by rw [← hR]; exact Nat.le_of_ble_eq_true rfl, by rw [← hR]; exact Nat.le_of_ble_eq_true rfl⟩) ⟨fun a U g mk q => by obtain ⟨q0, q1, q2, qK, q10, q11, q12, q13, q14, q15, q16, q17, q18, q19, q20, q21, q22, q23, q24⟩ := q; exact ⟨q0, q1, q2, jG.calling g mk a qK, (q10.moved (Vm.Alike.refl U.vm)), q11, q12, q13, q14, q15, q16, q17, q18, q19, q20, q21, q22, q23, q24⟩, hh.recv (C := RX14) (T := TX14) (N := 74) hB16 rfl (by decide) hg_r0 hK, fun U hU hW => ⟨rfl, hU, hh.2.1, hG.step hW hU hh.1, (hTstr544.moved hW.alike).kept hh.1.2.1, hg_r0, hg_zm, hg_xh, hg_xn, hg_xf, hg_xt, hg_xb, hg_xe, hg_xi, hg_xg, hg_xp, (hh.2.2.1.sub (L1 := [(r0, 16, 17, .ref zm), (r0, 16, 18, .ref xh), (r0, 16, 19, .ref xn), (r0, 16, 20, .ref xf), (r0, 16, 21, .ref xt), (r0, 16, 22, .ref xb), (r0, 16, 23, .ref xe), (r0, 16, 24, .ref xi), (r0, 16, 25, .ref xg), (r0, 16, 27, .ref xp)]) [0, 1, 2, 3, 4, 5, 6, 7, 8, 9] rfl), (hh.2.2.2.2.2.2.2.1.sub (L1 := [(zm, 117, 3100, ca 1, ms), (xh, 118, 3100, ca 1, mh), (xn, 119, 3100, ca 1, mx), (xf, 120, 3100, ca 1, mf), (xt, 121, 3100, ca 1, mt), (xb, 122, 3100, ca 1, mb), (xe, 123, 3100, ca 1, me), (xi, 124, 3100, ca 3, mi), (xg, 125, 3100, ca 1, mn), (xp, 127, 3300, ca 1, fu)]) [0, 1, 2, 3, 4, 5, 6, 7, 8, 9] rfl), by first | omega | (refine ⟨?_, ?_, ?_, ?_, ?_, ?_, ?_⟩ <;> (first | omega | rfl | assumption | decide | exact Or.inl rfl | exact Or.inr rfl | (simp only; omega)))⟩⟩ rfl rfl hl.1 rfl (lv_room (Nat.le_of_ble_eq_true rfl)) dX14_isPosition_5 ⟨Nat.zero_le _, Nat.zero_le _⟩) hh.1 (fun q _ h => h) (fun q h => h) (fun r_2 u_1 t_1 H_1 locs_1 ht_1 hvm_1 hr_2 hb_1 hz_1 hk_1 hS_1 => ?_)
  rw [ht_1] at hb_1
  obtain ⟨hb_11, hb_12, hb_13, hb_14, hb_15⟩ := hb_1
  have hh_1 : jSt (dC, dI) B base G0 G0 EX14_isPositionR s.heap 0 0 [(r0, 16, 17, .ref zm), (r0, 16, 18, .ref xh), (r0, 16, 19, .ref xn), (r0, 16, 20, .ref xf), (r0, 16, 21, .ref xt), (r0, 16, 22, .ref xb), (r0, 16, 23, .ref xe), (r0, 16, 24, .ref xi), (r0, 16, 25, .ref xg), (r0, 16, 27, .ref xp)] [(zm, 117, 3100, ca 1, ms), (xh, 118, 3100, ca 1, mh), (xn, 119, 3100, ca 1, mx), (xf, 120, 3100, ca 1, mf), (xt, 121, 3100, ca 1, mt), (xb, 122, 3100, ca 1, mb), (xe, 123, 3100, ca 1, me), (xi, 124, 3100, ca 3, mi), (xg, 125, 3100, ca 1, mn), (xp, 127, 3300, ca 1, fu)] [] H_1 locs_1 := ((hh.call hb_11 hb_12 hb_13 hb_14 hS_1 rfl (L1 := [(r0, 16, 17, .ref zm), (r0, 16, 18, .ref xh), (r0, 16, 19, .ref xn), (r0, 16, 20, .ref xf), (r0, 16, 21, .ref xt), (r0, 16, 22, .ref xb), (r0, 16, 23, .ref xe), (r0, 16, 24, .ref xi), (r0, 16, 25, .ref xg), (r0, 16, 27, .ref xp)]) [0, 1, 2, 3, 4, 5, 6, 7, 8, 9] rfl rfl (M1 := [(zm, 117, 3100, ca 1, ms), (xh, 118, 3100, ca 1, mh), (xn, 119, 3100, ca 1, mx), (xf, 120, 3100, ca 1, mf), (xt, 121, 3100, ca 1, mt), (xb, 122, 3100, ca 1, mb), (xe, 123, 3100, ca 1, me), (xi, 124, 3100, ca 3, mi), (xg, 125, 3100, ca 1, mn), (xp, 127, 3300, ca 1, fu)]) [0, 1, 2, 3, 4, 5, 6, 7, 8, 9] rfl rfl (I1 := []) [] rfl rfl).more hb_15)
  clear hh ht_1 hvm_1 hz_1 hk_1 hS_1 hb_11 hb_12 hb_13 hb_14 hb_15
  obtain ⟨hr_2_0, hr_2_1, hr_2_2⟩ := hr_2
  refine lv_istore_n (lv' := [(2, .int r_2), (0, .ref r0), (1, .int a1)]) hx hb dX14_isPosition_8 rfl hl (by decide) rfl (fun ls hl => ?_)
  refine lv_aload_n hx hb dX14_isPosition_9 rfl (lv_at hl 1 rfl) ?_
  refine lv_iload_n hx hb dX14_isPosition_10 rfl (lv_at hl 2 rfl) ?_
  refine j_ldcSw hx hb hown rstr546 dX14_isPosition_11 ?_
  refine va_calli (A0 := jA base) (H0 := s.heap) (va_runV (As := [.int a1, .ref str546]) (rest := []) ⟨hx, hb, hml, hown, hts⟩ (uX14_memberR l dC dI ca base B hB hAp hB16 hB117 hB118 hB119 hB120 hB121 hB127 G0 H_1 r0 a1 str546 9 (jChT "character") zm xh xn xf xt xb xe xi xg xp T9 nd9 po9 ms mh mx mf mt mb me mi mn fu) (cwV 2 hts (jgV (jWr_55 _ (List.mem_of_getElem? (i := 15) rfl)) (jWr_55 _ (List.mem_of_getElem? (i := 16) rfl)) (jWr_55 _ (List.mem_of_getElem? (i := 17) rfl)) (jWr_1 _ (List.mem_of_getElem? (i := 5) rfl)) (jWr_55 _ (List.mem_of_getElem? (i := 18) rfl))) rfl rfl rfl (by decide +kernel) ⟨by rw [← hR]; exact Nat.le_of_ble_eq_true rfl, by rw [← hR]; exact Nat.le_of_ble_eq_true rfl⟩) ⟨fun a U g mk q => by obtain ⟨q0, q1, q2, qK, q10, q11, q12, q13, q14, q15, q16, q17, q18, q19, q20, q21, q22, q23, q24⟩ := q; exact ⟨q0, q1, q2, jG.calling g mk a qK, (q10.moved (Vm.Alike.refl U.vm)), q11, q12, q13, q14, q15, q16, q17, q18, q19, q20, q21, q22, q23, q24⟩, hh_1.recv (C := RX14) (T := TX14) (N := 74) hB16 rfl (by decide) hg_r0 hK, fun U hU hW => ⟨rfl, hU, hh_1.2.1, hG.step hW hU hh_1.1, (hTstr546.moved hW.alike).kept hh_1.1.2.1, hg_r0, hg_zm, hg_xh, hg_xn, hg_xf, hg_xt, hg_xb, hg_xe, hg_xi, hg_xg, hg_xp, (hh_1.2.2.1.sub (L1 := [(r0, 16, 17, .ref zm), (r0, 16, 18, .ref xh), (r0, 16, 19, .ref xn), (r0, 16, 20, .ref xf), (r0, 16, 21, .ref xt), (r0, 16, 22, .ref xb), (r0, 16, 23, .ref xe), (r0, 16, 24, .ref xi), (r0, 16, 25, .ref xg), (r0, 16, 27, .ref xp)]) [0, 1, 2, 3, 4, 5, 6, 7, 8, 9] rfl), (hh_1.2.2.2.2.2.2.2.1.sub (L1 := [(zm, 117, 3100, ca 1, ms), (xh, 118, 3100, ca 1, mh), (xn, 119, 3100, ca 1, mx), (xf, 120, 3100, ca 1, mf), (xt, 121, 3100, ca 1, mt), (xb, 122, 3100, ca 1, mb), (xe, 123, 3100, ca 1, me), (xi, 124, 3100, ca 3, mi), (xg, 125, 3100, ca 1, mn), (xp, 127, 3300, ca 1, fu)]) [0, 1, 2, 3, 4, 5, 6, 7, 8, 9] rfl), by first | omega | (refine ⟨?_, ?_, ?_, ?_, ?_, ?_, ?_⟩ <;> (first | omega | rfl | assumption | decide | exact Or.inl rfl | exact Or.inr rfl | (simp only; omega)))⟩⟩ rfl rfl hl.1 rfl (lv_room (Nat.le_of_ble_eq_true rfl)) dX14_isPosition_14 ⟨Nat.zero_le _, Nat.zero_le _⟩) hh_1.1 (fun q _ h => h) (fun q h => h) (fun r_4 u_3 t_3 H_3 locs_3 ht_3 hvm_3 hr_4 hb_3 hz_3 hk_3 hS_3 => ?_)
  rw [ht_3] at hb_3
  obtain ⟨hb_31, hb_32, hb_33, hb_34, hb_35⟩ := hb_3
  have hh_3 : jSt (dC, dI) B base G0 G0 EX14_isPositionR s.heap 0 0 [(r0, 16, 17, .ref zm), (r0, 16, 18, .ref xh), (r0, 16, 19, .ref xn), (r0, 16, 20, .ref xf), (r0, 16, 21, .ref xt), (r0, 16, 22, .ref xb), (r0, 16, 23, .ref xe), (r0, 16, 24, .ref xi), (r0, 16, 25, .ref xg), (r0, 16, 27, .ref xp)] [(zm, 117, 3100, ca 1, ms), (xh, 118, 3100, ca 1, mh), (xn, 119, 3100, ca 1, mx), (xf, 120, 3100, ca 1, mf), (xt, 121, 3100, ca 1, mt), (xb, 122, 3100, ca 1, mb), (xe, 123, 3100, ca 1, me), (xi, 124, 3100, ca 3, mi), (xg, 125, 3100, ca 1, mn), (xp, 127, 3300, ca 1, fu)] [] H_3 locs_3 := ((hh_1.call hb_31 hb_32 hb_33 hb_34 hS_3 rfl (L1 := [(r0, 16, 17, .ref zm), (r0, 16, 18, .ref xh), (r0, 16, 19, .ref xn), (r0, 16, 20, .ref xf), (r0, 16, 21, .ref xt), (r0, 16, 22, .ref xb), (r0, 16, 23, .ref xe), (r0, 16, 24, .ref xi), (r0, 16, 25, .ref xg), (r0, 16, 27, .ref xp)]) [0, 1, 2, 3, 4, 5, 6, 7, 8, 9] rfl rfl (M1 := [(zm, 117, 3100, ca 1, ms), (xh, 118, 3100, ca 1, mh), (xn, 119, 3100, ca 1, mx), (xf, 120, 3100, ca 1, mf), (xt, 121, 3100, ca 1, mt), (xb, 122, 3100, ca 1, mb), (xe, 123, 3100, ca 1, me), (xi, 124, 3100, ca 3, mi), (xg, 125, 3100, ca 1, mn), (xp, 127, 3300, ca 1, fu)]) [0, 1, 2, 3, 4, 5, 6, 7, 8, 9] rfl rfl (I1 := []) [] rfl rfl).more hb_35)
  clear hh_1 ht_3 hvm_3 hz_3 hk_3 hS_3 hb_31 hb_32 hb_33 hb_34 hb_35
  obtain ⟨hr_4_0, hr_4_1, hr_4_2⟩ := hr_4
  refine lv_istore_n (lv' := [(3, .int r_4), (2, .int r_2), (0, .ref r0), (1, .int a1)]) hx hb dX14_isPosition_17 rfl hl (by decide) rfl (fun ls hl => ?_)
  refine lv_aload_n hx hb dX14_isPosition_18 rfl (lv_at hl 2 rfl) ?_
  refine lv_iload_n hx hb dX14_isPosition_19 rfl (lv_at hl 1 rfl) ?_
  refine va_calli (A0 := jA base) (H0 := s.heap) (va_runV (As := [.int r_2]) (rest := []) ⟨hx, hb, hml, hown, hts⟩ (uX14_isWholeR l dC dI ca base B hB hAp hB16 hB117 hB124 G0 H_3 r0 r_2 zm xh xn xf xt xb xe xi xg xp T9 nd9 po9 ms mh mx mf mt mb me mi mn fu) (cwV 1 hts (jgV (jWr_56 _ (List.mem_of_getElem? (i := 11) rfl)) (jWr_56 _ (List.mem_of_getElem? (i := 12) rfl)) (jWr_56 _ (List.mem_of_getElem? (i := 13) rfl)) (jWr_1 _ (List.mem_of_getElem? (i := 5) rfl)) (jWr_56 _ (List.mem_of_getElem? (i := 14) rfl))) rfl rfl rfl (by decide +kernel) ⟨by rw [← hR]; exact Nat.le_of_ble_eq_true rfl, by rw [← hR]; exact Nat.le_of_ble_eq_true rfl⟩) ⟨fun a U g mk q => by obtain ⟨q0, q1, q2, qK, q10, q11, q12, q13, q14, q15, q16, q17, q18, q19, q20, q21, q22, q23⟩ := q; exact ⟨q0, q1, q2, jG.calling g mk a qK, q10, q11, q12, q13, q14, q15, q16, q17, q18, q19, q20, q21, q22, q23⟩, hh_3.recv (C := RX14) (T := TX14) (N := 74) hB16 rfl (by decide) hg_r0 hK, fun U hU hW => ⟨rfl, hU, hh_3.2.1, hG.step hW hU hh_3.1, hg_r0, hg_zm, hg_xh, hg_xn, hg_xf, hg_xt, hg_xb, hg_xe, hg_xi, hg_xg, hg_xp, (hh_3.2.2.1.sub (L1 := [(r0, 16, 17, .ref zm), (r0, 16, 18, .ref xh), (r0, 16, 19, .ref xn), (r0, 16, 20, .ref xf), (r0, 16, 21, .ref xt), (r0, 16, 22, .ref xb), (r0, 16, 23, .ref xe), (r0, 16, 24, .ref xi), (r0, 16, 25, .ref xg), (r0, 16, 27, .ref xp)]) [0, 1, 2, 3, 4, 5, 6, 7, 8, 9] rfl), (hh_3.2.2.2.2.2.2.2.1.sub (L1 := [(zm, 117, 3100, ca 1, ms), (xh, 118, 3100, ca 1, mh), (xn, 119, 3100, ca 1, mx), (xf, 120, 3100, ca 1, mf), (xt, 121, 3100, ca 1, mt), (xb, 122, 3100, ca 1, mb), (xe, 123, 3100, ca 1, me), (xi, 124, 3100, ca 3, mi), (xg, 125, 3100, ca 1, mn), (xp, 127, 3300, ca 1, fu)]) [0, 1, 2, 3, 4, 5, 6, 7, 8, 9] rfl), by first | omega | (refine ⟨?_, ?_, ?_, ?_⟩ <;> (first | omega | rfl | assumption | decide | exact Or.inl rfl | exact Or.inr rfl | (simp only; omega)))⟩⟩ rfl rfl hl.1 rfl (lv_room (Nat.le_of_ble_eq_true rfl)) dX14_isPosition_20 ⟨Nat.zero_le _, Nat.zero_le _⟩) hh_3.1 (fun q _ h => h) (fun q h => h) (fun r_6 u_5 t_5 H_5 locs_5 ht_5 hvm_5 hr_6 hb_5 hz_5 hk_5 hS_5 => ?_)
  rw [ht_5] at hb_5
  obtain ⟨hb_51, hb_52, hb_53, hb_54, hb_55⟩ := hb_5
  have hh_5 : jSt (dC, dI) B base G0 G0 EX14_isPositionR s.heap 0 0 [(r0, 16, 17, .ref zm), (r0, 16, 18, .ref xh), (r0, 16, 19, .ref xn), (r0, 16, 20, .ref xf), (r0, 16, 21, .ref xt), (r0, 16, 22, .ref xb), (r0, 16, 23, .ref xe), (r0, 16, 24, .ref xi), (r0, 16, 25, .ref xg), (r0, 16, 27, .ref xp)] [(zm, 117, 3100, ca 1, ms), (xh, 118, 3100, ca 1, mh), (xn, 119, 3100, ca 1, mx), (xf, 120, 3100, ca 1, mf), (xt, 121, 3100, ca 1, mt), (xb, 122, 3100, ca 1, mb), (xe, 123, 3100, ca 1, me), (xi, 124, 3100, ca 3, mi), (xg, 125, 3100, ca 1, mn), (xp, 127, 3300, ca 1, fu)] [] H_5 locs_5 := ((hh_3.call hb_51 hb_52 hb_53 hb_54 hS_5 rfl (L1 := [(r0, 16, 17, .ref zm), (r0, 16, 18, .ref xh), (r0, 16, 19, .ref xn), (r0, 16, 20, .ref xf), (r0, 16, 21, .ref xt), (r0, 16, 22, .ref xb), (r0, 16, 23, .ref xe), (r0, 16, 24, .ref xi), (r0, 16, 25, .ref xg), (r0, 16, 27, .ref xp)]) [0, 1, 2, 3, 4, 5, 6, 7, 8, 9] rfl rfl (M1 := [(zm, 117, 3100, ca 1, ms), (xh, 118, 3100, ca 1, mh), (xn, 119, 3100, ca 1, mx), (xf, 120, 3100, ca 1, mf), (xt, 121, 3100, ca 1, mt), (xb, 122, 3100, ca 1, mb), (xe, 123, 3100, ca 1, me), (xi, 124, 3100, ca 3, mi), (xg, 125, 3100, ca 1, mn), (xp, 127, 3300, ca 1, fu)]) [0, 1, 2, 3, 4, 5, 6, 7, 8, 9] rfl rfl (I1 := []) [] rfl rfl).more hb_55)
  clear hh_3 ht_5 hvm_5 hz_5 hk_5 hS_5 hb_51 hb_52 hb_53 hb_54 hb_55
  obtain ⟨hr_6b, hr_6p⟩ := hr_6
  have hd2 := hr_6p
  have hr_6' := jb_01 hr_6b
  refine lv_if_eq (tgt := 56) hx hb dX14_isPosition_23 (by decide) (fun c_7 => ?_) (fun c_7 => ?_)
  · skip
    have c_7' : r_6.toInt = 0 := jb_eq (rfl) ((by decide)) c_7
    first | (have hr_6pq := hr_6p.resolve_left (by omega); clear hr_6p) | (have hr_6pq := hr_6p.resolve_right (by omega); clear hr_6p) | try clear hr_6p
    have hn2 := (hd2.resolve_left (fun q => by omega)).2
    refine lv_iconst (v := 0) hx hb dX14_isPosition_56 (by decide) ?_
    rw [hQ]
    exact W.zret (v := 0) hx hb hr (jb_nz (Or.inl rfl)) (fun t ht hW => ⟨⟨0, (), rfl, ⟨(Or.inl rfl), by refine Or.inr ⟨by omega, fun q => ?_⟩; unfold jdPo at q; rw [← hr_2_0, ← hr_4_0] at q; exact hn2 q.1⟩, hh_5.rt (M1 := []) [] rfl ht⟩, by rw [ht]; try exact hh_5.1.1, fun q h9 hq => by rw [ht]; try exact hh_5.1.2.1 q h9 hq⟩) hh_5.1.2.2 dX14_isPosition_57
  · skip
    have c_7' : r_6.toInt ≠ 0 := jb_eq_n (rfl) ((by decide)) c_7
    first | (have hr_6pq := hr_6p.resolve_left (by omega); clear hr_6p) | (have hr_6pq := hr_6p.resolve_right (by omega); clear hr_6p) | try clear hr_6p
    have hk2 := (hd2.resolve_right (fun q => by omega)).2
    refine lv_aload_n hx hb dX14_isPosition_26 rfl (lv_at hl 2 rfl) ?_
    refine lv_iload_n hx hb dX14_isPosition_27 rfl (lv_at hl 0 rfl) ?_
    refine va_calli (A0 := jA base) (H0 := s.heap) (va_runV (As := [.int r_4]) (rest := []) ⟨hx, hb, hml, hown, hts⟩ (uX14_isWholeR l dC dI ca base B hB hAp hB16 hB117 hB124 G0 H_5 r0 r_4 zm xh xn xf xt xb xe xi xg xp T9 nd9 po9 ms mh mx mf mt mb me mi mn fu) (cwV 1 hts (jgV (jWr_56 _ (List.mem_of_getElem? (i := 11) rfl)) (jWr_56 _ (List.mem_of_getElem? (i := 12) rfl)) (jWr_56 _ (List.mem_of_getElem? (i := 13) rfl)) (jWr_1 _ (List.mem_of_getElem? (i := 5) rfl)) (jWr_56 _ (List.mem_of_getElem? (i := 14) rfl))) rfl rfl rfl (by decide +kernel) ⟨by rw [← hR]; exact Nat.le_of_ble_eq_true rfl, by rw [← hR]; exact Nat.le_of_ble_eq_true rfl⟩) ⟨fun a U g mk q => by obtain ⟨q0, q1, q2, qK, q10, q11, q12, q13, q14, q15, q16, q17, q18, q19, q20, q21, q22, q23⟩ := q; exact ⟨q0, q1, q2, jG.calling g mk a qK, q10, q11, q12, q13, q14, q15, q16, q17, q18, q19, q20, q21, q22, q23⟩, hh_5.recv (C := RX14) (T := TX14) (N := 74) hB16 rfl (by decide) hg_r0 hK, fun U hU hW => ⟨rfl, hU, hh_5.2.1, hG.step hW hU hh_5.1, hg_r0, hg_zm, hg_xh, hg_xn, hg_xf, hg_xt, hg_xb, hg_xe, hg_xi, hg_xg, hg_xp, (hh_5.2.2.1.sub (L1 := [(r0, 16, 17, .ref zm), (r0, 16, 18, .ref xh), (r0, 16, 19, .ref xn), (r0, 16, 20, .ref xf), (r0, 16, 21, .ref xt), (r0, 16, 22, .ref xb), (r0, 16, 23, .ref xe), (r0, 16, 24, .ref xi), (r0, 16, 25, .ref xg), (r0, 16, 27, .ref xp)]) [0, 1, 2, 3, 4, 5, 6, 7, 8, 9] rfl), (hh_5.2.2.2.2.2.2.2.1.sub (L1 := [(zm, 117, 3100, ca 1, ms), (xh, 118, 3100, ca 1, mh), (xn, 119, 3100, ca 1, mx), (xf, 120, 3100, ca 1, mf), (xt, 121, 3100, ca 1, mt), (xb, 122, 3100, ca 1, mb), (xe, 123, 3100, ca 1, me), (xi, 124, 3100, ca 3, mi), (xg, 125, 3100, ca 1, mn), (xp, 127, 3300, ca 1, fu)]) [0, 1, 2, 3, 4, 5, 6, 7, 8, 9] rfl), by first | omega | (refine ⟨?_, ?_, ?_, ?_⟩ <;> (first | omega | rfl | assumption | decide | exact Or.inl rfl | exact Or.inr rfl | (simp only; omega)))⟩⟩ rfl rfl hl.1 rfl (lv_room (Nat.le_of_ble_eq_true rfl)) dX14_isPosition_28 ⟨Nat.zero_le _, Nat.zero_le _⟩) hh_5.1 (fun q _ h => h) (fun q h => h) (fun r_9 u_8 t_8 H_8 locs_8 ht_8 hvm_8 hr_9 hb_8 hz_8 hk_8 hS_8 => ?_)
    rw [ht_8] at hb_8
    obtain ⟨hb_81, hb_82, hb_83, hb_84, hb_85⟩ := hb_8
    have hh_8 : jSt (dC, dI) B base G0 G0 EX14_isPositionR s.heap 0 0 [(r0, 16, 17, .ref zm), (r0, 16, 18, .ref xh), (r0, 16, 19, .ref xn), (r0, 16, 20, .ref xf), (r0, 16, 21, .ref xt), (r0, 16, 22, .ref xb), (r0, 16, 23, .ref xe), (r0, 16, 24, .ref xi), (r0, 16, 25, .ref xg), (r0, 16, 27, .ref xp)] [(zm, 117, 3100, ca 1, ms), (xh, 118, 3100, ca 1, mh), (xn, 119, 3100, ca 1, mx), (xf, 120, 3100, ca 1, mf), (xt, 121, 3100, ca 1, mt), (xb, 122, 3100, ca 1, mb), (xe, 123, 3100, ca 1, me), (xi, 124, 3100, ca 3, mi), (xg, 125, 3100, ca 1, mn), (xp, 127, 3300, ca 1, fu)] [] H_8 locs_8 := ((hh_5.call hb_81 hb_82 hb_83 hb_84 hS_8 rfl (L1 := [(r0, 16, 17, .ref zm), (r0, 16, 18, .ref xh), (r0, 16, 19, .ref xn), (r0, 16, 20, .ref xf), (r0, 16, 21, .ref xt), (r0, 16, 22, .ref xb), (r0, 16, 23, .ref xe), (r0, 16, 24, .ref xi), (r0, 16, 25, .ref xg), (r0, 16, 27, .ref xp)]) [0, 1, 2, 3, 4, 5, 6, 7, 8, 9] rfl rfl (M1 := [(zm, 117, 3100, ca 1, ms), (xh, 118, 3100, ca 1, mh), (xn, 119, 3100, ca 1, mx), (xf, 120, 3100, ca 1, mf), (xt, 121, 3100, ca 1, mt), (xb, 122, 3100, ca 1, mb), (xe, 123, 3100, ca 1, me), (xi, 124, 3100, ca 3, mi), (xg, 125, 3100, ca 1, mn), (xp, 127, 3300, ca 1, fu)]) [0, 1, 2, 3, 4, 5, 6, 7, 8, 9] rfl rfl (I1 := []) [] rfl rfl).more hb_85)
    clear hh_5 ht_8 hvm_8 hz_8 hk_8 hS_8 hb_81 hb_82 hb_83 hb_84 hb_85
    obtain ⟨hr_9b, hr_9p⟩ := hr_9
    have hd3 := hr_9p
    have hr_9' := jb_01 hr_9b
    refine lv_if_eq (tgt := 56) hx hb dX14_isPosition_31 (by decide) (fun c_10 => ?_) (fun c_10 => ?_)
    · skip
      have c_10' : r_9.toInt = 0 := jb_eq (rfl) ((by decide)) c_10
      first | (have hr_9pq := hr_9p.resolve_left (by omega); clear hr_9p) | (have hr_9pq := hr_9p.resolve_right (by omega); clear hr_9p) | try clear hr_9p
      have hn3 := (hd3.resolve_left (fun q => by omega)).2
      refine lv_iconst (v := 0) hx hb dX14_isPosition_56 (by decide) ?_
      rw [hQ]
      exact W.zret (v := 0) hx hb hr (jb_nz (Or.inl rfl)) (fun t ht hW => ⟨⟨0, (), rfl, ⟨(Or.inl rfl), by refine Or.inr ⟨by omega, fun q => ?_⟩; unfold jdPo at q; rw [← hr_2_0, ← hr_4_0] at q; exact hn3 q.2.1⟩, hh_8.rt (M1 := []) [] rfl ht⟩, by rw [ht]; try exact hh_8.1.1, fun q h9 hq => by rw [ht]; try exact hh_8.1.2.1 q h9 hq⟩) hh_8.1.2.2 dX14_isPosition_57
    · skip
      have c_10' : r_9.toInt ≠ 0 := jb_eq_n (rfl) ((by decide)) c_10
      first | (have hr_9pq := hr_9p.resolve_left (by omega); clear hr_9p) | (have hr_9pq := hr_9p.resolve_right (by omega); clear hr_9p) | try clear hr_9p
      have hk3 := (hd3.resolve_right (fun q => by omega)).2
      have hka2 := jqK.p (T := T9) (v := nd9) (i := r_2.toInt) (by omega)
      have hw2 := (hp2.whl (a := r_2.toInt) hka2.1 hka2.2.1).resolve_right (fun q => q.2 hk2)
      have hka3 := jqK.p (T := T9) (v := nd9) (i := r_4.toInt) (by omega)
      have hw3 := (hp2.whl (a := r_4.toInt) hka3.1 hka3.2.1).resolve_right (fun q => q.2 hk3)
      refine lv_aload_n hx hb dX14_isPosition_34 rfl (lv_at hl 2 rfl) ?_
      refine j7_read hx hb hown hK (C := RX14) (T := TX14) (N := 74) rfl hly_16_25 hlk_62 (hh_8.at 8 rfl) dX14_isPosition_35 ?_
      refine lv_iload_n hx hb dX14_isPosition_38 rfl (lv_at hl 1 rfl) ?_
      refine j7_ialdM hx hb hK hh_8 hB125 1 rfl (by decide) hg_xg (x := r_2.toInt) (rfl) (by omega) (j := 8) rfl dX14_isPosition_39 (fun z_11 ez_11 (hz_11 : True) => ?_)
      have hqz_11 : z_11.toInt = jSo mn (r_2.toInt) := by unfold jSo; rw [ez_11]
      refine lv_if_lt (tgt := 56) hx hb dX14_isPosition_40 (by decide) (fun c_12 => ?_) (fun c_12 => ?_)
      · skip
        have c_12' : z_11.toInt < 0 := jb_lt (rfl) ((by decide)) c_12
        refine lv_iconst (v := 0) hx hb dX14_isPosition_56 (by decide) ?_
        rw [hQ]
        exact W.zret (v := 0) hx hb hr (jb_nz (Or.inl rfl)) (fun t ht hW => ⟨⟨0, (), rfl, ⟨(Or.inl rfl), by refine Or.inr ⟨by omega, fun q => ?_⟩; unfold jdPo at q; rw [← hr_2_0, ← hr_4_0] at q; have h9 := hw2.2.2.2; have h8 := hqz_11; have h7 := q.2.2; omega⟩, hh_8.rt (M1 := []) [] rfl ht⟩, by rw [ht]; try exact hh_8.1.1, fun q h9 hq => by rw [ht]; try exact hh_8.1.2.1 q h9 hq⟩) hh_8.1.2.2 dX14_isPosition_57
      · skip
        have c_12' : z_11.toInt ≥ 0 := jb_lt_n (rfl) ((by decide)) c_12
        refine lv_aload_n hx hb dX14_isPosition_43 rfl (lv_at hl 2 rfl) ?_
        refine j7_read hx hb hown hK (C := RX14) (T := TX14) (N := 74) rfl hly_16_25 hlk_62 (hh_8.at 8 rfl) dX14_isPosition_44 ?_
        refine lv_iload_n hx hb dX14_isPosition_47 rfl (lv_at hl 0 rfl) ?_
        refine j7_ialdM hx hb hK hh_8 hB125 1 rfl (by decide) hg_xg (x := r_4.toInt) (rfl) (by omega) (j := 8) rfl dX14_isPosition_48 (fun z_13 ez_13 (hz_13 : True) => ?_)
        have hqz_13 : z_13.toInt = jSo mn (r_4.toInt) := by unfold jSo; rw [ez_13]
        refine lv_if_lt (tgt := 56) hx hb dX14_isPosition_49 (by decide) (fun c_14 => ?_) (fun c_14 => ?_)
        · skip
          have c_14' : z_13.toInt < 0 := jb_lt (rfl) ((by decide)) c_14
          refine lv_iconst (v := 0) hx hb dX14_isPosition_56 (by decide) ?_
          rw [hQ]
          exact W.zret (v := 0) hx hb hr (jb_nz (Or.inl rfl)) (fun t ht hW => ⟨⟨0, (), rfl, ⟨(Or.inl rfl), by refine Or.inr ⟨by omega, fun q => ?_⟩; unfold jdPo at q; rw [← hr_2_0, ← hr_4_0] at q; have h9 := hw3.2.2.2; have h8 := hqz_13; have h7 := q.2.2; omega⟩, hh_8.rt (M1 := []) [] rfl ht⟩, by rw [ht]; try exact hh_8.1.1, fun q h9 hq => by rw [ht]; try exact hh_8.1.2.1 q h9 hq⟩) hh_8.1.2.2 dX14_isPosition_57
        · skip
          have c_14' : z_13.toInt ≥ 0 := jb_lt_n (rfl) ((by decide)) c_14
          refine lv_iconst (v := 1) hx hb dX14_isPosition_52 (by decide) ?_
          refine lv_goto (tgt := 57) hx hb dX14_isPosition_53 (by decide) ?_
          rw [hQ]
          exact W.zret (v := 1) hx hb hr (jb_nz (Or.inr rfl)) (fun t ht hW => ⟨⟨1, (), rfl, ⟨(Or.inr rfl), by refine Or.inl ⟨by omega, ?_⟩; unfold jdPo; rw [← hr_2_0, ← hr_4_0]; exact ⟨hk2, hk3, by have h9 := hw2.2.2.2; have h8 := hqz_11; omega, by have h9 := hw3.2.2.2; have h8 := hqz_13; omega⟩⟩, hh_8.rt (M1 := []) [] rfl ht⟩, by rw [ht]; try exact hh_8.1.1, fun q h9 hq => by rw [ht]; try exact hh_8.1.2.1 q h9 hq⟩) hh_8.1.2.2 dX14_isPosition_57
set_option maxHeartbeats 4000000 in
set_option maxRecDepth 20000 in
theorem uX14_lineBeginR (l : Launch) (dC : Nat → ClassId) (dI : Nat → Nat → Nat) (ca : Nat → ClassId) (base : Nat) (B : jF) (hB : jBok B) (hAp : jAp (dC, dI)) (hB112 : ∀ n G a H, B 112 n G a H ↔ jAr (dC, dI) (ca 1) (fun j z => True) n a H) (G0 : jT) (H0 : Heap) (r0 : Nat) (a1 : Int32) (a2 : Int32) (n0 : Nat) (f0 : Nat → Int32) : Met l yX14_lineBegin (jw yX14_lineBegin cX14_lineBegin 5 (some .int)) ({ frames := 0, cells := 0, slots := 0, locals := 0 }) (va_Pc [.ref r0, .int a1, .int a2] (fun U => U.heap = H0 ∧ jX B base G0 [] H0 ∧ jG dC dI ca base U ∧ G0 r0 = some (112, n0) ∧ jP (dC, dI) G0 H0 [] ∧ jMc (dC, dI) G0 H0 [(r0, 112, n0, ca 1, f0)] ∧ 0 ≤ a1.toInt ∧ a1.toInt ≤ n0 ∧ n0 ≤ 200000 ∧ 0 ≤ a2.toInt)) (va_Qi (S := Unit) (fun r u => ((jdL (jSo f0) a1.toInt a2.toInt (a1.toInt).toNat 0 0 = (r.toInt, a2.toInt) ∧ 0 ≤ r.toInt ∧ r.toInt ≤ a1.toInt) ∨ (r.toInt = -1 ∧ (jdL (jSo f0) a1.toInt a2.toInt (a1.toInt).toNat 0 0).2 < a2.toInt))) (fun u t => jRt (dC, dI) B base G0 EX14_lineBeginR H0 [] t.heap) (jA base)) 0 0 (jA base) := by
  refine Met.ofW (cc := cX14_lineBegin) (maxL := 5) (ret := (some .int)) (by decide) rfl ?_
  intro p e s m args below meth c s₁ Bd hml hv
  obtain ⟨rfl, hH0, hX, hG, hg_r0, hP0, hM0, hp0, hp1, hp2, hp3⟩ := hv
  have hK := hG.1
  have hx := Bd.exec
  have hb := Bd.bytes
  have hr := Bd.returns
  have hts := atoms_spec (ws := (jw yX14_lineBegin cX14_lineBegin 5 (some .int))) Bd.pre
  have htw : ∀ w ∈ jWl, w.before _ s = true := fun w h => hts w (List.mem_cons_of_mem _ h)
  have hown : s.vm.findClass RX14 = some m.cls := findClass_of_methodNamed Bd.named
  have hlocks := Bd.notSynchronized
  obtain ⟨Q, hQ⟩ : ∃ Q, Q = MQ below (va_Qi (S := Unit) (fun r u => ((jdL (jSo f0) a1.toInt a2.toInt (a1.toInt).toNat 0 0 = (r.toInt, a2.toInt) ∧ 0 ≤ r.toInt ∧ r.toInt ≤ a1.toInt) ∨ (r.toInt = -1 ∧ (jdL (jSo f0) a1.toInt a2.toInt (a1.toInt).toNat 0 0).2 < a2.toInt))) (fun u t => jRt (dC, dI) B base G0 EX14_lineBeginR H0 [] t.heap) (jA base)) ([.ref r0, .int a1, .int a2] : List Value).toArray s 0 0 (jA base) := ⟨_, rfl⟩
  rw [← hQ]
  have hl := lv_entry ([.ref r0, .int a1, .int a2]) (n := 5) (Nat.le_of_ble_eq_true rfl)
  rw [lg_entry_eq]
  generalize (lg_sl ([.ref r0, .int a1, .int a2]) ++ List.replicate (5 - (lg_sl ([.ref r0, .int a1, .int a2])).length) Slot.unset).toArray = ls at hl ⊢
  have hl : lv_has ls 5 [(0, .ref r0), (1, .int a1), (2, .int a2)] := hl
  generalize hR : (headSpec (jw yX14_lineBegin cX14_lineBegin 5 (some .int)) ({ frames := 0, cells := 0, slots := 0, locals := 0 })).room = R
  subst hH0
  have hh : jSt (dC, dI) B base G0 G0 EX14_lineBeginR s.heap 0 0 [] [(r0, 112, n0, ca 1, f0)] [] s.heap [] := jSt.start hX hP0 hM0 jIs.nil
  clear hX hP0
  have hkm1 : ((-1) : Int32).toInt = (-1) := by decide
  have hk0 : (0 : Int32).toInt = 0 := by decide
  have hk1 : (1 : Int32).toInt = 1 := by decide
  have hk2 : (2 : Int32).toInt = 2 := by decide
  have hk10 : (10 : Int32).toInt = 10 := by decide
  have hk13 : (13 : Int32).toInt = 13 := by decide
  have hrg_a1 := jb_rng a1
  have hrg_a2 := jb_rng a2
  refine lv_iconst (v := 0) hx hb dX14_lineBegin_0 (by decide) ?_
  refine lv_istore_n (lv' := [(3, .int 0), (0, .ref r0), (1, .int a1), (2, .int a2)]) hx hb dX14_lineBegin_1 rfl hl (by decide) rfl (fun ls hl => ?_)
  refine lv_iconst (v := 0) hx hb dX14_lineBegin_2 (by decide) ?_
  refine lv_istore (lv' := [(4, .int 0), (3, .int 0), (0, .ref r0), (1, .int a1), (2, .int a2)]) hx hb dX14_lineBegin_3 hl (by decide) rfl (fun ls hl => ?_)
  have L5 : ∀ (N : Nat) (v3_1 : Int32) (v4_1 : Int32) (H_1 : Heap) (locs_1 : List Loc), jSt (dC, dI) B base G0 G0 EX14_lineBeginR s.heap 0 0 [] [(r0, 112, n0, ca 1, f0)] [] H_1 locs_1 → (0 ≤ v4_1.toInt ∧ v4_1.toInt ≤ v3_1.toInt ∧ v3_1.toInt ≤ a1.toInt ∧ v4_1.toInt ≤ a2.toInt ∧ 0 ≤ v3_1.toInt ∧ jdL (jSo f0) a1.toInt a2.toInt (a1.toInt - v3_1.toInt).toNat v3_1.toInt v4_1.toInt = jdL (jSo f0) a1.toInt a2.toInt (a1.toInt).toNat 0 0) → (a2.toInt - v4_1.toInt : Int) < N → ∀ ls : Array Slot, lv_has ls 5 [(0, .ref r0), (1, .int a1), (2, .int a2), (3, .int v3_1), (4, .int v4_1)] → W p l e R s m ([.ref r0, .int a1, .int a2] : List Value).toArray below meth c H_1 locs_1 0 0 Q (F0 m 5 ls []) := by
    intro N
    induction N with
    | zero => intro v3_1 v4_1 H_1 locs_1 hh_1  hi_1 hm; exact absurd hm (by omega)
    | succ N L5 =>
      intro v3_1 v4_1 H_1 locs_1 hh_1  hi_1 hm_1 ls hl
      obtain ⟨hi_1_0, hi_1_1, hi_1_2, hi_1_3, hi_1_4, hi_1_5⟩ := hi_1
      refine lv_iload hx hb dX14_lineBegin_5 (lv_at hl 4 rfl) ?_
      refine lv_iload_n hx hb dX14_lineBegin_7 rfl (lv_at hl 2 rfl) ?_
      refine lv_icmp_ge (tgt := 84) hx hb dX14_lineBegin_8 (by decide) (fun c_2 => ?_) (fun c_2 => ?_)
      · skip
        have c_2' : v4_1.toInt ≥ a2.toInt := jb_ge (rfl) (rfl) c_2
        refine lv_iload_n hx hb dX14_lineBegin_84 rfl (lv_at hl 3 rfl) ?_
        rw [hQ]
        exact W.iret (v := v3_1) hx hb hr (fun t ht hW => ⟨⟨v3_1, (), rfl, by refine Or.inl ⟨?_, by omega, by omega⟩; rw [← hi_1_5, jdL_e (Or.inr (by omega))]; rw [show v4_1.toInt = a2.toInt by omega], hh_1.rt (M1 := []) [] rfl ht⟩, by rw [ht]; try exact hh_1.1.1, fun q h9 hq => by rw [ht]; try exact hh_1.1.2.1 q h9 hq⟩) hh_1.1.2.2 dX14_lineBegin_85
      · skip
        have c_2' : v4_1.toInt < a2.toInt := jb_ge_n (rfl) (rfl) c_2
        have L11 : ∀ (N : Nat) (v3_3 : Int32) (H_3 : Heap) (locs_3 : List Loc), jSt (dC, dI) B base G0 G0 EX14_lineBeginR s.heap 0 0 [] [(r0, 112, n0, ca 1, f0)] [] H_3 locs_3 → (v4_1.toInt ≤ v3_3.toInt ∧ v3_3.toInt ≤ a1.toInt ∧ 0 ≤ v3_3.toInt ∧ jdL (jSo f0) a1.toInt a2.toInt (a1.toInt - v3_3.toInt).toNat v3_3.toInt v4_1.toInt = jdL (jSo f0) a1.toInt a2.toInt (a1.toInt).toNat 0 0) → (a1.toInt - v3_3.toInt : Int) < N → ∀ ls : Array Slot, lv_has ls 5 [(0, .ref r0), (1, .int a1), (2, .int a2), (3, .int v3_3), (4, .int v4_1)] → W p l e R s m ([.ref r0, .int a1, .int a2] : List Value).toArray below meth c H_3 locs_3 0 0 Q (F0 m 11 ls []) := by
          intro N
          induction N with
          | zero => intro v3_3 H_3 locs_3 hh_3  hi_3 hm; exact absurd hm (by omega)
          | succ N L11 =>
            intro v3_3 H_3 locs_3 hh_3  hi_3 hm_3 ls hl
            obtain ⟨hi_3_0, hi_3_1, hi_3_2, hi_3_3⟩ := hi_3
            refine lv_iload_n hx hb dX14_lineBegin_11 rfl (lv_at hl 3 rfl) ?_
            refine lv_iload_n hx hb dX14_lineBegin_12 rfl (lv_at hl 1 rfl) ?_
            refine lv_icmp_ge (tgt := 38) hx hb dX14_lineBegin_13 (by decide) (fun c_4 => ?_) (fun c_4 => ?_)
            · skip
              have c_4' : v3_3.toInt ≥ a1.toInt := jb_ge (rfl) (rfl) c_4
              refine lv_iload_n hx hb dX14_lineBegin_38 rfl (lv_at hl 3 rfl) ?_
              refine lv_iload_n hx hb dX14_lineBegin_39 rfl (lv_at hl 1 rfl) ?_
              refine lv_icmp_ne (tgt := 45) hx hb dX14_lineBegin_40 (by decide) (fun c_5 => ?_) (fun c_5 => ?_)
              · skip
                have c_5' : v3_3.toInt ≠ a1.toInt := jb_ne (rfl) (rfl) c_5
                refine lv_iload_n hx hb dX14_lineBegin_45 rfl (lv_at hl 3 rfl) ?_
                refine lv_aload_n hx hb dX14_lineBegin_46 rfl (lv_at hl 0 rfl) ?_
                refine lv_iload_n hx hb dX14_lineBegin_47 rfl (lv_at hl 3 rfl) ?_
                refine j7_ialdM hx hb hK hh_3 hB112 1 rfl (by decide) hg_r0 (x := v3_3.toInt) (rfl) (by omega) (j := 0) rfl dX14_lineBegin_48 (fun z_6 ez_6 (hz_6 : True) => ?_)
                have hqz_6 : z_6.toInt = jSo f0 (v3_3.toInt) := by unfold jSo; rw [ez_6]
                refine lv_bipush (v := 13) hx hb dX14_lineBegin_49 (by decide) ?_
                refine lv_icmp_ne (tgt := 75) hx hb dX14_lineBegin_51 (by decide) (fun c_7 => ?_) (fun c_7 => ?_)
                · skip
                  have c_7' : z_6.toInt ≠ 13 := jb_ne (rfl) ((by decide)) c_7
                  refine lv_iconst (v := 1) hx hb dX14_lineBegin_75 (by decide) ?_
                  refine lv_iadd hx hb dX14_lineBegin_76 ?_
                  refine lv_topi (fun z_8 ez_8 => ?_)
                  have hz_8 : z_8.toInt = v3_3.toInt + 1 := by rw [ez_8]; exact jb_iadd2 (rfl) ((by decide)) (by omega)
                  refine lv_istore_n (lv' := [(3, .int z_8), (0, .ref r0), (1, .int a1), (2, .int a2), (4, .int v4_1)]) hx hb dX14_lineBegin_77 rfl hl (by decide) rfl (fun ls hl => ?_)
                  obtain ⟨z_9, ez_9⟩ : ∃ y : Int32, y = v4_1 + 1 := ⟨_, rfl⟩
                  refine lv_iinc (v := z_9) (lv' := [(4, .int z_9), (3, .int z_8), (0, .ref r0), (1, .int a1), (2, .int a2)]) hx hb dX14_lineBegin_78 hl (k := 4) rfl (by rw [ez_9]; rfl) (by decide) rfl (fun ls hl => ?_)
                  have hz_9 : z_9.toInt = v4_1.toInt + 1 := by rw [ez_9]; exact jb_iadd2 (rfl) (by decide) (by omega)
                  refine lv_goto (tgt := 5) hx hb dX14_lineBegin_81 (by decide) ?_
                  exact L5 z_8 z_9 _ _ hh_3 (by exfalso; omega) (by omega) _ (lv_sub hl [2, 3, 4, 1, 0] rfl)
                · skip
                  have c_7' : z_6.toInt = 13 := jb_ne_n (rfl) ((by decide)) c_7
                  refine lv_iload_n hx hb dX14_lineBegin_54 rfl (lv_at hl 3 rfl) ?_
                  refine lv_iconst (v := 1) hx hb dX14_lineBegin_55 (by decide) ?_
                  refine lv_iadd hx hb dX14_lineBegin_56 ?_
                  refine lv_topi (fun z_10 ez_10 => ?_)
                  have hz_10 : z_10.toInt = v3_3.toInt + 1 := by rw [ez_10]; exact jb_iadd2 (rfl) ((by decide)) (by omega)
                  refine lv_iload_n hx hb dX14_lineBegin_57 rfl (lv_at hl 1 rfl) ?_
                  refine lv_icmp_ge (tgt := 75) hx hb dX14_lineBegin_58 (by decide) (fun c_11 => ?_) (fun c_11 => ?_)
                  · skip
                    have c_11' : z_10.toInt ≥ a1.toInt := jb_ge (rfl) (rfl) c_11
                    refine lv_iconst (v := 1) hx hb dX14_lineBegin_75 (by decide) ?_
                    refine lv_iadd hx hb dX14_lineBegin_76 ?_
                    refine lv_topi (fun z_12 ez_12 => ?_)
                    have hz_12 : z_12.toInt = v3_3.toInt + 1 := by rw [ez_12]; exact jb_iadd2 (rfl) ((by decide)) (by omega)
                    refine lv_istore_n (lv' := [(3, .int z_12), (0, .ref r0), (1, .int a1), (2, .int a2), (4, .int v4_1)]) hx hb dX14_lineBegin_77 rfl hl (by decide) rfl (fun ls hl => ?_)
                    obtain ⟨z_13, ez_13⟩ : ∃ y : Int32, y = v4_1 + 1 := ⟨_, rfl⟩
                    refine lv_iinc (v := z_13) (lv' := [(4, .int z_13), (3, .int z_12), (0, .ref r0), (1, .int a1), (2, .int a2)]) hx hb dX14_lineBegin_78 hl (k := 4) rfl (by rw [ez_13]; rfl) (by decide) rfl (fun ls hl => ?_)
                    have hz_13 : z_13.toInt = v4_1.toInt + 1 := by rw [ez_13]; exact jb_iadd2 (rfl) (by decide) (by omega)
                    refine lv_goto (tgt := 5) hx hb dX14_lineBegin_81 (by decide) ?_
                    exact L5 z_12 z_13 _ _ hh_3 (by exfalso; omega) (by omega) _ (lv_sub hl [2, 3, 4, 1, 0] rfl)
                  · skip
                    have c_11' : z_10.toInt < a1.toInt := jb_ge_n (rfl) (rfl) c_11
                    refine lv_aload_n hx hb dX14_lineBegin_61 rfl (lv_at hl 0 rfl) ?_
                    refine lv_iload_n hx hb dX14_lineBegin_62 rfl (lv_at hl 3 rfl) ?_
                    refine lv_iconst (v := 1) hx hb dX14_lineBegin_63 (by decide) ?_
                    refine lv_iadd hx hb dX14_lineBegin_64 ?_
                    refine lv_topi (fun z_14 ez_14 => ?_)
                    have hz_14 : z_14.toInt = v3_3.toInt + 1 := by rw [ez_14]; exact jb_iadd2 (rfl) ((by decide)) (by omega)
                    refine j7_ialdM hx hb hK hh_3 hB112 1 rfl (by decide) hg_r0 (x := z_14.toInt) (rfl) (by omega) (j := 0) rfl dX14_lineBegin_65 (fun z_15 ez_15 (hz_15 : True) => ?_)
                    have hqz_15 : z_15.toInt = jSo f0 ((v3_3.toInt + 1)) := by unfold jSo; rw [ez_15, show z_14.toInt = (v3_3.toInt + 1) by omega]
                    refine lv_bipush (v := 10) hx hb dX14_lineBegin_66 (by decide) ?_
                    refine lv_icmp_ne (tgt := 75) hx hb dX14_lineBegin_68 (by decide) (fun c_16 => ?_) (fun c_16 => ?_)
                    · skip
                      have c_16' : z_15.toInt ≠ 10 := jb_ne (rfl) ((by decide)) c_16
                      refine lv_iconst (v := 1) hx hb dX14_lineBegin_75 (by decide) ?_
                      refine lv_iadd hx hb dX14_lineBegin_76 ?_
                      refine lv_topi (fun z_17 ez_17 => ?_)
                      have hz_17 : z_17.toInt = v3_3.toInt + 1 := by rw [ez_17]; exact jb_iadd2 (rfl) ((by decide)) (by omega)
                      refine lv_istore_n (lv' := [(3, .int z_17), (0, .ref r0), (1, .int a1), (2, .int a2), (4, .int v4_1)]) hx hb dX14_lineBegin_77 rfl hl (by decide) rfl (fun ls hl => ?_)
                      obtain ⟨z_18, ez_18⟩ : ∃ y : Int32, y = v4_1 + 1 := ⟨_, rfl⟩
                      refine lv_iinc (v := z_18) (lv' := [(4, .int z_18), (3, .int z_17), (0, .ref r0), (1, .int a1), (2, .int a2)]) hx hb dX14_lineBegin_78 hl (k := 4) rfl (by rw [ez_18]; rfl) (by decide) rfl (fun ls hl => ?_)
                      have hz_18 : z_18.toInt = v4_1.toInt + 1 := by rw [ez_18]; exact jb_iadd2 (rfl) (by decide) (by omega)
                      refine lv_goto (tgt := 5) hx hb dX14_lineBegin_81 (by decide) ?_
                      exact L5 z_17 z_18 _ _ hh_3 (by exfalso; omega) (by omega) _ (lv_sub hl [2, 3, 4, 1, 0] rfl)
                    · skip
                      have c_16' : z_15.toInt = 10 := jb_ne_n (rfl) ((by decide)) c_16
                      refine lv_iconst (v := 2) hx hb dX14_lineBegin_71 (by decide) ?_
                      refine lv_goto (tgt := 76) hx hb dX14_lineBegin_72 (by decide) ?_
                      refine lv_iadd hx hb dX14_lineBegin_76 ?_
                      refine lv_topi (fun z_19 ez_19 => ?_)
                      have hz_19 : z_19.toInt = v3_3.toInt + 2 := by rw [ez_19]; exact jb_iadd2 (rfl) ((by decide)) (by omega)
                      refine lv_istore_n (lv' := [(3, .int z_19), (0, .ref r0), (1, .int a1), (2, .int a2), (4, .int v4_1)]) hx hb dX14_lineBegin_77 rfl hl (by decide) rfl (fun ls hl => ?_)
                      obtain ⟨z_20, ez_20⟩ : ∃ y : Int32, y = v4_1 + 1 := ⟨_, rfl⟩
                      refine lv_iinc (v := z_20) (lv' := [(4, .int z_20), (3, .int z_19), (0, .ref r0), (1, .int a1), (2, .int a2)]) hx hb dX14_lineBegin_78 hl (k := 4) rfl (by rw [ez_20]; rfl) (by decide) rfl (fun ls hl => ?_)
                      have hz_20 : z_20.toInt = v4_1.toInt + 1 := by rw [ez_20]; exact jb_iadd2 (rfl) (by decide) (by omega)
                      refine lv_goto (tgt := 5) hx hb dX14_lineBegin_81 (by decide) ?_
                      exact L5 z_19 z_20 _ _ hh_3 (by exfalso; omega) (by omega) _ (lv_sub hl [2, 3, 4, 1, 0] rfl)
              · skip
                have c_5' : v3_3.toInt = a1.toInt := jb_ne_n (rfl) (rfl) c_5
                refine lv_iconst (v := (-1)) hx hb dX14_lineBegin_43 (by decide) ?_
                rw [hQ]
                exact W.iret (v := (-1)) hx hb hr (fun t ht hW => ⟨⟨(-1), (), rfl, by refine Or.inr ⟨by omega, ?_⟩; have h9 := hi_3_3; rw [jdL_e (Or.inl (by omega))] at h9; rw [← h9]; dsimp only; omega, hh_3.rt (M1 := []) [] rfl ht⟩, by rw [ht]; try exact hh_3.1.1, fun q h9 hq => by rw [ht]; try exact hh_3.1.2.1 q h9 hq⟩) hh_3.1.2.2 dX14_lineBegin_44
            · skip
              have c_4' : v3_3.toInt < a1.toInt := jb_ge_n (rfl) (rfl) c_4
              refine lv_aload_n hx hb dX14_lineBegin_16 rfl (lv_at hl 0 rfl) ?_
              refine lv_iload_n hx hb dX14_lineBegin_17 rfl (lv_at hl 3 rfl) ?_
              refine j7_ialdM hx hb hK hh_3 hB112 1 rfl (by decide) hg_r0 (x := v3_3.toInt) (rfl) (by omega) (j := 0) rfl dX14_lineBegin_18 (fun z_21 ez_21 (hz_21 : True) => ?_)
              have hqz_21 : z_21.toInt = jSo f0 (v3_3.toInt) := by unfold jSo; rw [ez_21]
              refine lv_bipush (v := 10) hx hb dX14_lineBegin_19 (by decide) ?_
              refine lv_icmp_eq (tgt := 38) hx hb dX14_lineBegin_21 (by decide) (fun c_22 => ?_) (fun c_22 => ?_)
              · skip
                have c_22' : z_21.toInt = 10 := jb_eq (rfl) ((by decide)) c_22
                refine lv_iload_n hx hb dX14_lineBegin_38 rfl (lv_at hl 3 rfl) ?_
                refine lv_iload_n hx hb dX14_lineBegin_39 rfl (lv_at hl 1 rfl) ?_
                refine lv_icmp_ne (tgt := 45) hx hb dX14_lineBegin_40 (by decide) (fun c_23 => ?_) (fun c_23 => ?_)
                · skip
                  have c_23' : v3_3.toInt ≠ a1.toInt := jb_ne (rfl) (rfl) c_23
                  refine lv_iload_n hx hb dX14_lineBegin_45 rfl (lv_at hl 3 rfl) ?_
                  refine lv_aload_n hx hb dX14_lineBegin_46 rfl (lv_at hl 0 rfl) ?_
                  refine lv_iload_n hx hb dX14_lineBegin_47 rfl (lv_at hl 3 rfl) ?_
                  refine j7_ialdM hx hb hK hh_3 hB112 1 rfl (by decide) hg_r0 (x := v3_3.toInt) (rfl) (by omega) (j := 0) rfl dX14_lineBegin_48 (fun z_24 ez_24 (hz_24 : True) => ?_)
                  have hqz_24 : z_24.toInt = jSo f0 (v3_3.toInt) := by unfold jSo; rw [ez_24]
                  refine lv_bipush (v := 13) hx hb dX14_lineBegin_49 (by decide) ?_
                  refine lv_icmp_ne (tgt := 75) hx hb dX14_lineBegin_51 (by decide) (fun c_25 => ?_) (fun c_25 => ?_)
                  · skip
                    have c_25' : z_24.toInt ≠ 13 := jb_ne (rfl) ((by decide)) c_25
                    refine lv_iconst (v := 1) hx hb dX14_lineBegin_75 (by decide) ?_
                    refine lv_iadd hx hb dX14_lineBegin_76 ?_
                    refine lv_topi (fun z_26 ez_26 => ?_)
                    have hz_26 : z_26.toInt = v3_3.toInt + 1 := by rw [ez_26]; exact jb_iadd2 (rfl) ((by decide)) (by omega)
                    refine lv_istore_n (lv' := [(3, .int z_26), (0, .ref r0), (1, .int a1), (2, .int a2), (4, .int v4_1)]) hx hb dX14_lineBegin_77 rfl hl (by decide) rfl (fun ls hl => ?_)
                    obtain ⟨z_27, ez_27⟩ : ∃ y : Int32, y = v4_1 + 1 := ⟨_, rfl⟩
                    refine lv_iinc (v := z_27) (lv' := [(4, .int z_27), (3, .int z_26), (0, .ref r0), (1, .int a1), (2, .int a2)]) hx hb dX14_lineBegin_78 hl (k := 4) rfl (by rw [ez_27]; rfl) (by decide) rfl (fun ls hl => ?_)
                    have hz_27 : z_27.toInt = v4_1.toInt + 1 := by rw [ez_27]; exact jb_iadd2 (rfl) (by decide) (by omega)
                    refine lv_goto (tgt := 5) hx hb dX14_lineBegin_81 (by decide) ?_
                    exact L5 z_26 z_27 _ _ hh_3 (by refine ⟨by omega, by omega, by omega, by omega, by omega, ?_⟩; exact (jdL.e1 (by omega) (by omega) (Or.inl (by have h9 := hqz_24; have h8 := hqz_21; omega)) (by omega) (by omega)).trans hi_3_3) (by omega) _ (lv_sub hl [2, 3, 4, 1, 0] rfl)
                  · skip
                    have c_25' : z_24.toInt = 13 := jb_ne_n (rfl) ((by decide)) c_25
                    refine lv_iload_n hx hb dX14_lineBegin_54 rfl (lv_at hl 3 rfl) ?_
                    refine lv_iconst (v := 1) hx hb dX14_lineBegin_55 (by decide) ?_
                    refine lv_iadd hx hb dX14_lineBegin_56 ?_
                    refine lv_topi (fun z_28 ez_28 => ?_)
                    have hz_28 : z_28.toInt = v3_3.toInt + 1 := by rw [ez_28]; exact jb_iadd2 (rfl) ((by decide)) (by omega)
                    refine lv_iload_n hx hb dX14_lineBegin_57 rfl (lv_at hl 1 rfl) ?_
                    refine lv_icmp_ge (tgt := 75) hx hb dX14_lineBegin_58 (by decide) (fun c_29 => ?_) (fun c_29 => ?_)
                    · skip
                      have c_29' : z_28.toInt ≥ a1.toInt := jb_ge (rfl) (rfl) c_29
                      refine lv_iconst (v := 1) hx hb dX14_lineBegin_75 (by decide) ?_
                      refine lv_iadd hx hb dX14_lineBegin_76 ?_
                      refine lv_topi (fun z_30 ez_30 => ?_)
                      have hz_30 : z_30.toInt = v3_3.toInt + 1 := by rw [ez_30]; exact jb_iadd2 (rfl) ((by decide)) (by omega)
                      refine lv_istore_n (lv' := [(3, .int z_30), (0, .ref r0), (1, .int a1), (2, .int a2), (4, .int v4_1)]) hx hb dX14_lineBegin_77 rfl hl (by decide) rfl (fun ls hl => ?_)
                      obtain ⟨z_31, ez_31⟩ : ∃ y : Int32, y = v4_1 + 1 := ⟨_, rfl⟩
                      refine lv_iinc (v := z_31) (lv' := [(4, .int z_31), (3, .int z_30), (0, .ref r0), (1, .int a1), (2, .int a2)]) hx hb dX14_lineBegin_78 hl (k := 4) rfl (by rw [ez_31]; rfl) (by decide) rfl (fun ls hl => ?_)
                      have hz_31 : z_31.toInt = v4_1.toInt + 1 := by rw [ez_31]; exact jb_iadd2 (rfl) (by decide) (by omega)
                      refine lv_goto (tgt := 5) hx hb dX14_lineBegin_81 (by decide) ?_
                      exact L5 z_30 z_31 _ _ hh_3 (by refine ⟨by omega, by omega, by omega, by omega, by omega, ?_⟩; exact (jdL.e1 (by omega) (by omega) (Or.inr ⟨by have h9 := hqz_24; omega, fun q => by omega⟩) (by omega) (by omega)).trans hi_3_3) (by omega) _ (lv_sub hl [2, 3, 4, 1, 0] rfl)
                    · skip
                      have c_29' : z_28.toInt < a1.toInt := jb_ge_n (rfl) (rfl) c_29
                      refine lv_aload_n hx hb dX14_lineBegin_61 rfl (lv_at hl 0 rfl) ?_
                      refine lv_iload_n hx hb dX14_lineBegin_62 rfl (lv_at hl 3 rfl) ?_
                      refine lv_iconst (v := 1) hx hb dX14_lineBegin_63 (by decide) ?_
                      refine lv_iadd hx hb dX14_lineBegin_64 ?_
                      refine lv_topi (fun z_32 ez_32 => ?_)
                      have hz_32 : z_32.toInt = v3_3.toInt + 1 := by rw [ez_32]; exact jb_iadd2 (rfl) ((by decide)) (by omega)
                      refine j7_ialdM hx hb hK hh_3 hB112 1 rfl (by decide) hg_r0 (x := z_32.toInt) (rfl) (by omega) (j := 0) rfl dX14_lineBegin_65 (fun z_33 ez_33 (hz_33 : True) => ?_)
                      have hqz_33 : z_33.toInt = jSo f0 ((v3_3.toInt + 1)) := by unfold jSo; rw [ez_33, show z_32.toInt = (v3_3.toInt + 1) by omega]
                      refine lv_bipush (v := 10) hx hb dX14_lineBegin_66 (by decide) ?_
                      refine lv_icmp_ne (tgt := 75) hx hb dX14_lineBegin_68 (by decide) (fun c_34 => ?_) (fun c_34 => ?_)
                      · skip
                        have c_34' : z_33.toInt ≠ 10 := jb_ne (rfl) ((by decide)) c_34
                        refine lv_iconst (v := 1) hx hb dX14_lineBegin_75 (by decide) ?_
                        refine lv_iadd hx hb dX14_lineBegin_76 ?_
                        refine lv_topi (fun z_35 ez_35 => ?_)
                        have hz_35 : z_35.toInt = v3_3.toInt + 1 := by rw [ez_35]; exact jb_iadd2 (rfl) ((by decide)) (by omega)
                        refine lv_istore_n (lv' := [(3, .int z_35), (0, .ref r0), (1, .int a1), (2, .int a2), (4, .int v4_1)]) hx hb dX14_lineBegin_77 rfl hl (by decide) rfl (fun ls hl => ?_)
                        obtain ⟨z_36, ez_36⟩ : ∃ y : Int32, y = v4_1 + 1 := ⟨_, rfl⟩
                        refine lv_iinc (v := z_36) (lv' := [(4, .int z_36), (3, .int z_35), (0, .ref r0), (1, .int a1), (2, .int a2)]) hx hb dX14_lineBegin_78 hl (k := 4) rfl (by rw [ez_36]; rfl) (by decide) rfl (fun ls hl => ?_)
                        have hz_36 : z_36.toInt = v4_1.toInt + 1 := by rw [ez_36]; exact jb_iadd2 (rfl) (by decide) (by omega)
                        refine lv_goto (tgt := 5) hx hb dX14_lineBegin_81 (by decide) ?_
                        exact L5 z_35 z_36 _ _ hh_3 (by refine ⟨by omega, by omega, by omega, by omega, by omega, ?_⟩; exact (jdL.e1 (by omega) (by omega) (Or.inr ⟨by have h9 := hqz_24; omega, fun q => by have h9 := hqz_33; have h8 := q.2; rw [show v3_3.toInt + 1 = z_32.toInt by omega] at h8; omega⟩) (by omega) (by omega)).trans hi_3_3) (by omega) _ (lv_sub hl [2, 3, 4, 1, 0] rfl)
                      · skip
                        have c_34' : z_33.toInt = 10 := jb_ne_n (rfl) ((by decide)) c_34
                        refine lv_iconst (v := 2) hx hb dX14_lineBegin_71 (by decide) ?_
                        refine lv_goto (tgt := 76) hx hb dX14_lineBegin_72 (by decide) ?_
                        refine lv_iadd hx hb dX14_lineBegin_76 ?_
                        refine lv_topi (fun z_37 ez_37 => ?_)
                        have hz_37 : z_37.toInt = v3_3.toInt + 2 := by rw [ez_37]; exact jb_iadd2 (rfl) ((by decide)) (by omega)
                        refine lv_istore_n (lv' := [(3, .int z_37), (0, .ref r0), (1, .int a1), (2, .int a2), (4, .int v4_1)]) hx hb dX14_lineBegin_77 rfl hl (by decide) rfl (fun ls hl => ?_)
                        obtain ⟨z_38, ez_38⟩ : ∃ y : Int32, y = v4_1 + 1 := ⟨_, rfl⟩
                        refine lv_iinc (v := z_38) (lv' := [(4, .int z_38), (3, .int z_37), (0, .ref r0), (1, .int a1), (2, .int a2)]) hx hb dX14_lineBegin_78 hl (k := 4) rfl (by rw [ez_38]; rfl) (by decide) rfl (fun ls hl => ?_)
                        have hz_38 : z_38.toInt = v4_1.toInt + 1 := by rw [ez_38]; exact jb_iadd2 (rfl) (by decide) (by omega)
                        refine lv_goto (tgt := 5) hx hb dX14_lineBegin_81 (by decide) ?_
                        exact L5 z_37 z_38 _ _ hh_3 (by refine ⟨by omega, by omega, by omega, by omega, by omega, ?_⟩; exact (jdL.e2 (by omega) (by have h9 := hqz_24; omega) (by omega) (by have h9 := hqz_33; first | omega | (rw [show v3_3.toInt + 1 = z_32.toInt by omega]; omega)) (by omega) (by omega)).trans hi_3_3) (by omega) _ (lv_sub hl [2, 3, 4, 1, 0] rfl)
                · skip
                  have c_23' : v3_3.toInt = a1.toInt := jb_ne_n (rfl) (rfl) c_23
                  refine lv_iconst (v := (-1)) hx hb dX14_lineBegin_43 (by decide) ?_
                  rw [hQ]
                  exact W.iret (v := (-1)) hx hb hr (fun t ht hW => ⟨⟨(-1), (), rfl, by refine Or.inr ⟨by omega, ?_⟩; have h9 := hi_3_3; rw [jdL_e (Or.inl (by omega))] at h9; rw [← h9]; dsimp only; omega, hh_3.rt (M1 := []) [] rfl ht⟩, by rw [ht]; try exact hh_3.1.1, fun q h9 hq => by rw [ht]; try exact hh_3.1.2.1 q h9 hq⟩) hh_3.1.2.2 dX14_lineBegin_44
              · skip
                have c_22' : z_21.toInt ≠ 10 := jb_eq_n (rfl) ((by decide)) c_22
                refine lv_aload_n hx hb dX14_lineBegin_24 rfl (lv_at hl 0 rfl) ?_
                refine lv_iload_n hx hb dX14_lineBegin_25 rfl (lv_at hl 3 rfl) ?_
                refine j7_ialdM hx hb hK hh_3 hB112 1 rfl (by decide) hg_r0 (x := v3_3.toInt) (rfl) (by omega) (j := 0) rfl dX14_lineBegin_26 (fun z_39 ez_39 (hz_39 : True) => ?_)
                have hqz_39 : z_39.toInt = jSo f0 (v3_3.toInt) := by unfold jSo; rw [ez_39]
                refine lv_bipush (v := 13) hx hb dX14_lineBegin_27 (by decide) ?_
                refine lv_icmp_eq (tgt := 38) hx hb dX14_lineBegin_29 (by decide) (fun c_40 => ?_) (fun c_40 => ?_)
                · skip
                  have c_40' : z_39.toInt = 13 := jb_eq (rfl) ((by decide)) c_40
                  refine lv_iload_n hx hb dX14_lineBegin_38 rfl (lv_at hl 3 rfl) ?_
                  refine lv_iload_n hx hb dX14_lineBegin_39 rfl (lv_at hl 1 rfl) ?_
                  refine lv_icmp_ne (tgt := 45) hx hb dX14_lineBegin_40 (by decide) (fun c_41 => ?_) (fun c_41 => ?_)
                  · skip
                    have c_41' : v3_3.toInt ≠ a1.toInt := jb_ne (rfl) (rfl) c_41
                    refine lv_iload_n hx hb dX14_lineBegin_45 rfl (lv_at hl 3 rfl) ?_
                    refine lv_aload_n hx hb dX14_lineBegin_46 rfl (lv_at hl 0 rfl) ?_
                    refine lv_iload_n hx hb dX14_lineBegin_47 rfl (lv_at hl 3 rfl) ?_
                    refine j7_ialdM hx hb hK hh_3 hB112 1 rfl (by decide) hg_r0 (x := v3_3.toInt) (rfl) (by omega) (j := 0) rfl dX14_lineBegin_48 (fun z_42 ez_42 (hz_42 : True) => ?_)
                    have hqz_42 : z_42.toInt = jSo f0 (v3_3.toInt) := by unfold jSo; rw [ez_42]
                    refine lv_bipush (v := 13) hx hb dX14_lineBegin_49 (by decide) ?_
                    refine lv_icmp_ne (tgt := 75) hx hb dX14_lineBegin_51 (by decide) (fun c_43 => ?_) (fun c_43 => ?_)
                    · skip
                      have c_43' : z_42.toInt ≠ 13 := jb_ne (rfl) ((by decide)) c_43
                      refine lv_iconst (v := 1) hx hb dX14_lineBegin_75 (by decide) ?_
                      refine lv_iadd hx hb dX14_lineBegin_76 ?_
                      refine lv_topi (fun z_44 ez_44 => ?_)
                      have hz_44 : z_44.toInt = v3_3.toInt + 1 := by rw [ez_44]; exact jb_iadd2 (rfl) ((by decide)) (by omega)
                      refine lv_istore_n (lv' := [(3, .int z_44), (0, .ref r0), (1, .int a1), (2, .int a2), (4, .int v4_1)]) hx hb dX14_lineBegin_77 rfl hl (by decide) rfl (fun ls hl => ?_)
                      obtain ⟨z_45, ez_45⟩ : ∃ y : Int32, y = v4_1 + 1 := ⟨_, rfl⟩
                      refine lv_iinc (v := z_45) (lv' := [(4, .int z_45), (3, .int z_44), (0, .ref r0), (1, .int a1), (2, .int a2)]) hx hb dX14_lineBegin_78 hl (k := 4) rfl (by rw [ez_45]; rfl) (by decide) rfl (fun ls hl => ?_)
                      have hz_45 : z_45.toInt = v4_1.toInt + 1 := by rw [ez_45]; exact jb_iadd2 (rfl) (by decide) (by omega)
                      refine lv_goto (tgt := 5) hx hb dX14_lineBegin_81 (by decide) ?_
                      exact L5 z_44 z_45 _ _ hh_3 (by refine ⟨by omega, by omega, by omega, by omega, by omega, ?_⟩; exact (jdL.e1 (by omega) (by omega) (Or.inl (by have h9 := hqz_42; have h8 := hqz_21; have h7 := hqz_39; omega)) (by omega) (by omega)).trans hi_3_3) (by omega) _ (lv_sub hl [2, 3, 4, 1, 0] rfl)
                    · skip
                      have c_43' : z_42.toInt = 13 := jb_ne_n (rfl) ((by decide)) c_43
                      refine lv_iload_n hx hb dX14_lineBegin_54 rfl (lv_at hl 3 rfl) ?_
                      refine lv_iconst (v := 1) hx hb dX14_lineBegin_55 (by decide) ?_
                      refine lv_iadd hx hb dX14_lineBegin_56 ?_
                      refine lv_topi (fun z_46 ez_46 => ?_)
                      have hz_46 : z_46.toInt = v3_3.toInt + 1 := by rw [ez_46]; exact jb_iadd2 (rfl) ((by decide)) (by omega)
                      refine lv_iload_n hx hb dX14_lineBegin_57 rfl (lv_at hl 1 rfl) ?_
                      refine lv_icmp_ge (tgt := 75) hx hb dX14_lineBegin_58 (by decide) (fun c_47 => ?_) (fun c_47 => ?_)
                      · skip
                        have c_47' : z_46.toInt ≥ a1.toInt := jb_ge (rfl) (rfl) c_47
                        refine lv_iconst (v := 1) hx hb dX14_lineBegin_75 (by decide) ?_
                        refine lv_iadd hx hb dX14_lineBegin_76 ?_
                        refine lv_topi (fun z_48 ez_48 => ?_)
                        have hz_48 : z_48.toInt = v3_3.toInt + 1 := by rw [ez_48]; exact jb_iadd2 (rfl) ((by decide)) (by omega)
                        refine lv_istore_n (lv' := [(3, .int z_48), (0, .ref r0), (1, .int a1), (2, .int a2), (4, .int v4_1)]) hx hb dX14_lineBegin_77 rfl hl (by decide) rfl (fun ls hl => ?_)
                        obtain ⟨z_49, ez_49⟩ : ∃ y : Int32, y = v4_1 + 1 := ⟨_, rfl⟩
                        refine lv_iinc (v := z_49) (lv' := [(4, .int z_49), (3, .int z_48), (0, .ref r0), (1, .int a1), (2, .int a2)]) hx hb dX14_lineBegin_78 hl (k := 4) rfl (by rw [ez_49]; rfl) (by decide) rfl (fun ls hl => ?_)
                        have hz_49 : z_49.toInt = v4_1.toInt + 1 := by rw [ez_49]; exact jb_iadd2 (rfl) (by decide) (by omega)
                        refine lv_goto (tgt := 5) hx hb dX14_lineBegin_81 (by decide) ?_
                        exact L5 z_48 z_49 _ _ hh_3 (by refine ⟨by omega, by omega, by omega, by omega, by omega, ?_⟩; exact (jdL.e1 (by omega) (by omega) (Or.inr ⟨by have h9 := hqz_42; omega, fun q => by omega⟩) (by omega) (by omega)).trans hi_3_3) (by omega) _ (lv_sub hl [2, 3, 4, 1, 0] rfl)
                      · skip
                        have c_47' : z_46.toInt < a1.toInt := jb_ge_n (rfl) (rfl) c_47
                        refine lv_aload_n hx hb dX14_lineBegin_61 rfl (lv_at hl 0 rfl) ?_
                        refine lv_iload_n hx hb dX14_lineBegin_62 rfl (lv_at hl 3 rfl) ?_
                        refine lv_iconst (v := 1) hx hb dX14_lineBegin_63 (by decide) ?_
                        refine lv_iadd hx hb dX14_lineBegin_64 ?_
                        refine lv_topi (fun z_50 ez_50 => ?_)
                        have hz_50 : z_50.toInt = v3_3.toInt + 1 := by rw [ez_50]; exact jb_iadd2 (rfl) ((by decide)) (by omega)
                        refine j7_ialdM hx hb hK hh_3 hB112 1 rfl (by decide) hg_r0 (x := z_50.toInt) (rfl) (by omega) (j := 0) rfl dX14_lineBegin_65 (fun z_51 ez_51 (hz_51 : True) => ?_)
                        have hqz_51 : z_51.toInt = jSo f0 ((v3_3.toInt + 1)) := by unfold jSo; rw [ez_51, show z_50.toInt = (v3_3.toInt + 1) by omega]
                        refine lv_bipush (v := 10) hx hb dX14_lineBegin_66 (by decide) ?_
                        refine lv_icmp_ne (tgt := 75) hx hb dX14_lineBegin_68 (by decide) (fun c_52 => ?_) (fun c_52 => ?_)
                        · skip
                          have c_52' : z_51.toInt ≠ 10 := jb_ne (rfl) ((by decide)) c_52
                          refine lv_iconst (v := 1) hx hb dX14_lineBegin_75 (by decide) ?_
                          refine lv_iadd hx hb dX14_lineBegin_76 ?_
                          refine lv_topi (fun z_53 ez_53 => ?_)
                          have hz_53 : z_53.toInt = v3_3.toInt + 1 := by rw [ez_53]; exact jb_iadd2 (rfl) ((by decide)) (by omega)
                          refine lv_istore_n (lv' := [(3, .int z_53), (0, .ref r0), (1, .int a1), (2, .int a2), (4, .int v4_1)]) hx hb dX14_lineBegin_77 rfl hl (by decide) rfl (fun ls hl => ?_)
                          obtain ⟨z_54, ez_54⟩ : ∃ y : Int32, y = v4_1 + 1 := ⟨_, rfl⟩
                          refine lv_iinc (v := z_54) (lv' := [(4, .int z_54), (3, .int z_53), (0, .ref r0), (1, .int a1), (2, .int a2)]) hx hb dX14_lineBegin_78 hl (k := 4) rfl (by rw [ez_54]; rfl) (by decide) rfl (fun ls hl => ?_)
                          have hz_54 : z_54.toInt = v4_1.toInt + 1 := by rw [ez_54]; exact jb_iadd2 (rfl) (by decide) (by omega)
                          refine lv_goto (tgt := 5) hx hb dX14_lineBegin_81 (by decide) ?_
                          exact L5 z_53 z_54 _ _ hh_3 (by refine ⟨by omega, by omega, by omega, by omega, by omega, ?_⟩; exact (jdL.e1 (by omega) (by omega) (Or.inr ⟨by have h9 := hqz_42; omega, fun q => by have h9 := hqz_51; have h8 := q.2; rw [show v3_3.toInt + 1 = z_50.toInt by omega] at h8; omega⟩) (by omega) (by omega)).trans hi_3_3) (by omega) _ (lv_sub hl [2, 3, 4, 1, 0] rfl)
                        · skip
                          have c_52' : z_51.toInt = 10 := jb_ne_n (rfl) ((by decide)) c_52
                          refine lv_iconst (v := 2) hx hb dX14_lineBegin_71 (by decide) ?_
                          refine lv_goto (tgt := 76) hx hb dX14_lineBegin_72 (by decide) ?_
                          refine lv_iadd hx hb dX14_lineBegin_76 ?_
                          refine lv_topi (fun z_55 ez_55 => ?_)
                          have hz_55 : z_55.toInt = v3_3.toInt + 2 := by rw [ez_55]; exact jb_iadd2 (rfl) ((by decide)) (by omega)
                          refine lv_istore_n (lv' := [(3, .int z_55), (0, .ref r0), (1, .int a1), (2, .int a2), (4, .int v4_1)]) hx hb dX14_lineBegin_77 rfl hl (by decide) rfl (fun ls hl => ?_)
                          obtain ⟨z_56, ez_56⟩ : ∃ y : Int32, y = v4_1 + 1 := ⟨_, rfl⟩
                          refine lv_iinc (v := z_56) (lv' := [(4, .int z_56), (3, .int z_55), (0, .ref r0), (1, .int a1), (2, .int a2)]) hx hb dX14_lineBegin_78 hl (k := 4) rfl (by rw [ez_56]; rfl) (by decide) rfl (fun ls hl => ?_)
                          have hz_56 : z_56.toInt = v4_1.toInt + 1 := by rw [ez_56]; exact jb_iadd2 (rfl) (by decide) (by omega)
                          refine lv_goto (tgt := 5) hx hb dX14_lineBegin_81 (by decide) ?_
                          exact L5 z_55 z_56 _ _ hh_3 (by refine ⟨by omega, by omega, by omega, by omega, by omega, ?_⟩; exact (jdL.e2 (by omega) (by have h9 := hqz_42; omega) (by omega) (by have h9 := hqz_51; first | omega | (rw [show v3_3.toInt + 1 = z_50.toInt by omega]; omega)) (by omega) (by omega)).trans hi_3_3) (by omega) _ (lv_sub hl [2, 3, 4, 1, 0] rfl)
                  · skip
                    have c_41' : v3_3.toInt = a1.toInt := jb_ne_n (rfl) (rfl) c_41
                    refine lv_iconst (v := (-1)) hx hb dX14_lineBegin_43 (by decide) ?_
                    rw [hQ]
                    exact W.iret (v := (-1)) hx hb hr (fun t ht hW => ⟨⟨(-1), (), rfl, by refine Or.inr ⟨by omega, ?_⟩; have h9 := hi_3_3; rw [jdL_e (Or.inl (by omega))] at h9; rw [← h9]; dsimp only; omega, hh_3.rt (M1 := []) [] rfl ht⟩, by rw [ht]; try exact hh_3.1.1, fun q h9 hq => by rw [ht]; try exact hh_3.1.2.1 q h9 hq⟩) hh_3.1.2.2 dX14_lineBegin_44
                · skip
                  have c_40' : z_39.toInt ≠ 13 := jb_eq_n (rfl) ((by decide)) c_40
                  obtain ⟨z_57, ez_57⟩ : ∃ y : Int32, y = v3_3 + 1 := ⟨_, rfl⟩
                  refine lv_iinc (v := z_57) (lv' := [(3, .int z_57), (0, .ref r0), (1, .int a1), (2, .int a2), (4, .int v4_1)]) hx hb dX14_lineBegin_32 hl (k := 3) rfl (by rw [ez_57]; rfl) (by decide) rfl (fun ls hl => ?_)
                  have hz_57 : z_57.toInt = v3_3.toInt + 1 := by rw [ez_57]; exact jb_iadd2 (rfl) (by decide) (by omega)
                  refine lv_goto (tgt := 11) hx hb dX14_lineBegin_35 (by decide) ?_
                  exact L11 z_57 _ _ hh_3 (by refine ⟨by omega, by omega, by omega, ?_⟩; exact (jdL.nl (by omega) (by omega) (by have h9 := hqz_21; omega) (by have h9 := hqz_39; omega) (by omega)).trans hi_3_3) (by omega) _ (lv_sub hl [1, 2, 3, 0, 4] rfl)
        exact L11 (a1.toInt - (v3_1 : Int32).toInt : Int).toNat.succ v3_1 _ _ hh_1 (by first | omega | (refine ⟨?_, ?_, ?_, ?_⟩ <;> (first | omega | rfl | assumption | decide | exact Or.inl rfl | exact Or.inr rfl | (simp only; omega)))) (by omega) _ (lv_sub hl [0, 1, 2, 3, 4] rfl)
  exact L5 (a2.toInt - (0 : Int32).toInt : Int).toNat.succ 0 0 _ _ hh (by refine ⟨by omega, by omega, by omega, by omega, by omega, ?_⟩; rw [hk0, Int.sub_zero]) (by omega) _ (lv_sub hl [2, 3, 4, 1, 0] rfl)
set_option maxHeartbeats 4000000 in
set_option maxRecDepth 20000 in
theorem uX14_placeOfR (l : Launch) (dC : Nat → ClassId) (dI : Nat → Nat → Nat) (ca : Nat → ClassId) (base : Nat) (B : jF) (hB : jBok B) (hAp : jAp (dC, dI)) (hB101 : ∀ n G a H, B 101 n G a H ↔ jAr (dC, dI) (ca 1) (fun j z => True) n a H) (hB112 : ∀ n G a H, B 112 n G a H ↔ jAr (dC, dI) (ca 1) (fun j z => True) n a H) (G0 : jT) (H0 : Heap) (r0 : Nat) (a1 : Int32) (a2 : Int32) (a3 : Int32) (n0 : Nat) (f0 : Nat → Int32) : Met l yX14_placeOf (jw yX14_placeOf cX14_placeOf 6 (some .int)) ({ frames := 1, cells := 0, slots := 0, locals := 24 }) (va_Pc [.ref r0, .int a1, .int a2, .int a3] (fun U => U.heap = H0 ∧ jX B base G0 [] H0 ∧ jG dC dI ca base U ∧ G0 r0 = some (112, n0) ∧ jP (dC, dI) G0 H0 [] ∧ jMc (dC, dI) G0 H0 [(r0, 112, n0, ca 1, f0)] ∧ 0 ≤ a1.toInt ∧ a1.toInt ≤ n0 ∧ n0 ≤ 200000 ∧ 0 ≤ a2.toInt ∧ 0 ≤ a3.toInt)) (va_Qi (S := Unit) (fun r u => (-1 ≤ r.toInt ∧ r.toInt ≤ a1.toInt ∧ r.toInt = jdP (jSo f0) a1.toInt a2.toInt a3.toInt)) (fun u t => jRt (dC, dI) B base G0 EX14_placeOfR H0 [] t.heap) (jA base)) 0 0 (jA base) := by
  refine Met.ofW (cc := cX14_placeOf) (maxL := 6) (ret := (some .int)) (by decide) rfl ?_
  intro p e s m args below meth c s₁ Bd hml hv
  obtain ⟨rfl, hH0, hX, hG, hg_r0, hP0, hM0, hp0, hp1, hp2, hp3, hp4⟩ := hv
  have hK := hG.1
  have hx := Bd.exec
  have hb := Bd.bytes
  have hr := Bd.returns
  have hts := atoms_spec (ws := (jw yX14_placeOf cX14_placeOf 6 (some .int))) Bd.pre
  have htw : ∀ w ∈ jWl, w.before _ s = true := fun w h => hts w (List.mem_cons_of_mem _ h)
  have hown : s.vm.findClass RX14 = some m.cls := findClass_of_methodNamed Bd.named
  have hlocks := Bd.notSynchronized
  obtain ⟨Q, hQ⟩ : ∃ Q, Q = MQ below (va_Qi (S := Unit) (fun r u => (-1 ≤ r.toInt ∧ r.toInt ≤ a1.toInt ∧ r.toInt = jdP (jSo f0) a1.toInt a2.toInt a3.toInt)) (fun u t => jRt (dC, dI) B base G0 EX14_placeOfR H0 [] t.heap) (jA base)) ([.ref r0, .int a1, .int a2, .int a3] : List Value).toArray s 0 0 (jA base) := ⟨_, rfl⟩
  rw [← hQ]
  have hl := lv_entry ([.ref r0, .int a1, .int a2, .int a3]) (n := 6) (Nat.le_of_ble_eq_true rfl)
  rw [lg_entry_eq]
  generalize (lg_sl ([.ref r0, .int a1, .int a2, .int a3]) ++ List.replicate (6 - (lg_sl ([.ref r0, .int a1, .int a2, .int a3])).length) Slot.unset).toArray = ls at hl ⊢
  have hl : lv_has ls 6 [(0, .ref r0), (1, .int a1), (2, .int a2), (3, .int a3)] := hl
  generalize hR : (headSpec (jw yX14_placeOf cX14_placeOf 6 (some .int)) ({ frames := 1, cells := 0, slots := 0, locals := 24 })).room = R
  subst hH0
  have hh : jSt (dC, dI) B base G0 G0 EX14_placeOfR s.heap 0 0 [] [(r0, 112, n0, ca 1, f0)] [] s.heap [] := jSt.start hX hP0 hM0 jIs.nil
  clear hX hP0
  have hkm1 : ((-1) : Int32).toInt = (-1) := by decide
  have hk0 : (0 : Int32).toInt = 0 := by decide
  have hk1 : (1 : Int32).toInt = 1 := by decide
  have hk10 : (10 : Int32).toInt = 10 := by decide
  have hk13 : (13 : Int32).toInt = 13 := by decide
  have hrg_a1 := jb_rng a1
  have hrg_a2 := jb_rng a2
  have hrg_a3 := jb_rng a3
  refine lv_aload_n hx hb dX14_placeOf_0 rfl (lv_at hl 0 rfl) ?_
  refine lv_iload_n hx hb dX14_placeOf_1 rfl (lv_at hl 1 rfl) ?_
  refine lv_iload_n hx hb dX14_placeOf_2 rfl (lv_at hl 2 rfl) ?_
  refine va_calli (A0 := jA base) (H0 := s.heap) (va_runS (As := [.ref r0, .int a1, .int a2]) (rest := []) ⟨hx, hb, hml, hown, hts⟩ (uX14_lineBeginR l dC dI ca base B hB hAp hB112 G0 s.heap r0 a1 a2 n0 f0) (va_cwS 3 hts (jgS (jWr_58 _ (List.mem_of_getElem? (i := 20) rfl)) (jWr_58 _ (List.mem_of_getElem? (i := 21) rfl)) (jWr_1 _ (List.mem_of_getElem? (i := 5) rfl)) (jWr_58 _ (List.mem_of_getElem? (i := 22) rfl))) rfl rfl rfl (by decide +kernel) ⟨by rw [← hR]; exact Nat.le_of_ble_eq_true rfl, by rw [← hR]; exact Nat.le_of_ble_eq_true rfl⟩) ⟨fun a U g mk q => by obtain ⟨q0, q1, q2, qK, q10, q11, q12, q13⟩ := q; exact ⟨q0, q1, q2, jG.calling g mk a qK, q10, q11, q12, q13⟩, fun U hU hW => ⟨rfl, hU, hh.2.1, hG.step hW hU hh.1, hg_r0, jP.nil, (hh.2.2.2.2.2.2.2.1.sub (L1 := [(r0, 112, n0, ca 1, f0)]) [0] rfl), by first | omega | (refine ⟨?_, ?_, ?_, ?_⟩ <;> (first | omega | rfl | assumption | decide | exact Or.inl rfl | exact Or.inr rfl | (simp only; omega)))⟩⟩ rfl rfl hl.1 rfl (lv_room (Nat.le_of_ble_eq_true rfl)) dX14_placeOf_3 ⟨Nat.zero_le _, Nat.zero_le _⟩) hh.1 (fun q _ h => h) (fun q h => h) (fun r_2 u_1 t_1 H_1 locs_1 ht_1 hvm_1 hr_2 hb_1 hz_1 hk_1 hS_1 => ?_)
  rw [ht_1] at hb_1
  obtain ⟨hb_11, hb_12, hb_13, hb_14, hb_15⟩ := hb_1
  have hh_1 : jSt (dC, dI) B base G0 G0 EX14_placeOfR s.heap 0 0 [] [(r0, 112, n0, ca 1, f0)] [] H_1 locs_1 := ((hh.call hb_11 hb_12 hb_13 hb_14 hS_1 rfl (L1 := []) [] rfl rfl (M1 := [(r0, 112, n0, ca 1, f0)]) [0] rfl rfl (I1 := []) [] rfl rfl).more hb_15)
  clear hh ht_1 hvm_1 hz_1 hk_1 hS_1 hb_11 hb_12 hb_13 hb_14 hb_15
  have hlb9 := hr_2
  refine lv_istore (lv' := [(4, .int r_2), (0, .ref r0), (1, .int a1), (2, .int a2), (3, .int a3)]) hx hb dX14_placeOf_6 hl (by decide) rfl (fun ls hl => ?_)
  refine lv_iload hx hb dX14_placeOf_8 (lv_at hl 0 rfl) ?_
  refine lv_if_ge (tgt := 15) hx hb dX14_placeOf_10 (by decide) (fun c_3 => ?_) (fun c_3 => ?_)
  · skip
    have c_3' : r_2.toInt ≥ 0 := jb_ge (rfl) ((by decide)) c_3
    first | (have hr_2q := hr_2.resolve_left (by omega); clear hr_2) | (have hr_2q := hr_2.resolve_right (by omega); clear hr_2) | skip
    have hlb8 := hlb9.resolve_right (fun q => by omega)
    refine lv_iload hx hb dX14_placeOf_15 (lv_at hl 0 rfl) ?_
    refine lv_istore (lv' := [(5, .int r_2), (4, .int r_2), (0, .ref r0), (1, .int a1), (2, .int a2), (3, .int a3)]) hx hb dX14_placeOf_17 hl (by decide) rfl (fun ls hl => ?_)
    have L19 : ∀ (N : Nat) (v5_4 : Int32) (kg : Nat) (H_4 : Heap) (locs_4 : List Loc), jSt (dC, dI) B base G0 G0 EX14_placeOfR s.heap 0 0 [] [(r0, 112, n0, ca 1, f0)] [] H_4 locs_4 → (r_2.toInt ≤ v5_4.toInt ∧ v5_4.toInt ≤ a1.toInt ∧ a1.toInt - v5_4.toInt ≤ kg ∧ jdC (jSo f0) a1.toInt r_2.toInt a3.toInt kg v5_4.toInt = jdC (jSo f0) a1.toInt r_2.toInt a3.toInt (a1.toInt).toNat r_2.toInt) → (a1.toInt - v5_4.toInt : Int) < N → ∀ ls : Array Slot, lv_has ls 6 [(0, .ref r0), (1, .int a1), (2, .int a2), (3, .int a3), (4, .int r_2), (5, .int v5_4)] → W p l e R s m ([.ref r0, .int a1, .int a2, .int a3] : List Value).toArray below meth c H_4 locs_4 0 0 Q (F0 m 19 ls []) := by
      intro N
      induction N with
      | zero => intro v5_4 kg H_4 locs_4 hh_4  hi_4 hm; exact absurd hm (by omega)
      | succ N L19 =>
        intro v5_4 kg H_4 locs_4 hh_4  hi_4 hm_4 ls hl
        obtain ⟨hi_4_0, hi_4_1, hi_4_2, hi_4_3⟩ := hi_4
        try clear hr_2
        refine lv_iload hx hb dX14_placeOf_19 (lv_at hl 5 rfl) ?_
        refine lv_iload_n hx hb dX14_placeOf_21 rfl (lv_at hl 1 rfl) ?_
        refine lv_icmp_ge (tgt := 58) hx hb dX14_placeOf_22 (by decide) (fun c_5 => ?_) (fun c_5 => ?_)
        · skip
          have c_5' : v5_4.toInt ≥ a1.toInt := jb_ge (rfl) (rfl) c_5
          refine lv_iload hx hb dX14_placeOf_58 (lv_at hl 5 rfl) ?_
          rw [hQ]
          exact W.iret (v := v5_4) hx hb hr (fun t ht hW => ⟨⟨v5_4, (), rfl, by refine ⟨by omega, by omega, ?_⟩; unfold jdP; rw [if_neg (by omega), hlb8.1, if_neg (by dsimp only; omega)]; exact (jdC_e (Or.inl (by omega))).symm.trans hi_4_3, hh_4.rt (M1 := []) [] rfl ht⟩, by rw [ht]; try exact hh_4.1.1, fun q h9 hq => by rw [ht]; try exact hh_4.1.2.1 q h9 hq⟩) hh_4.1.2.2 dX14_placeOf_60
        · skip
          have c_5' : v5_4.toInt < a1.toInt := jb_ge_n (rfl) (rfl) c_5
          refine lv_iload hx hb dX14_placeOf_25 (lv_at hl 5 rfl) ?_
          refine lv_iload hx hb dX14_placeOf_27 (lv_at hl 4 rfl) ?_
          refine lv_isub hx hb dX14_placeOf_29 ?_
          refine lv_topi (fun z_6 ez_6 => ?_)
          have hz_6 : z_6.toInt = v5_4.toInt - r_2.toInt := by rw [ez_6]; exact jb_isub2 (rfl) (rfl) (by omega)
          refine lv_iload_n hx hb dX14_placeOf_30 rfl (lv_at hl 3 rfl) ?_
          refine lv_icmp_ge (tgt := 58) hx hb dX14_placeOf_31 (by decide) (fun c_7 => ?_) (fun c_7 => ?_)
          · skip
            have c_7' : z_6.toInt ≥ a3.toInt := jb_ge (rfl) (rfl) c_7
            refine lv_iload hx hb dX14_placeOf_58 (lv_at hl 5 rfl) ?_
            rw [hQ]
            exact W.iret (v := v5_4) hx hb hr (fun t ht hW => ⟨⟨v5_4, (), rfl, by refine ⟨by omega, by omega, ?_⟩; unfold jdP; rw [if_neg (by omega), hlb8.1, if_neg (by dsimp only; omega)]; exact (jdC_e (Or.inr (Or.inl (by omega)))).symm.trans hi_4_3, hh_4.rt (M1 := []) [] rfl ht⟩, by rw [ht]; try exact hh_4.1.1, fun q h9 hq => by rw [ht]; try exact hh_4.1.2.1 q h9 hq⟩) hh_4.1.2.2 dX14_placeOf_60
          · skip
            have c_7' : z_6.toInt < a3.toInt := jb_ge_n (rfl) (rfl) c_7
            refine lv_aload_n hx hb dX14_placeOf_34 rfl (lv_at hl 0 rfl) ?_
            refine lv_iload hx hb dX14_placeOf_35 (lv_at hl 5 rfl) ?_
            refine j7_ialdM hx hb hK hh_4 hB112 1 rfl (by decide) hg_r0 (x := v5_4.toInt) (rfl) (by omega) (j := 0) rfl dX14_placeOf_37 (fun z_8 ez_8 (hz_8 : True) => ?_)
            have hqz_8 : z_8.toInt = jSo f0 (v5_4.toInt) := by unfold jSo; rw [ez_8]
            refine lv_bipush (v := 10) hx hb dX14_placeOf_38 (by decide) ?_
            refine lv_icmp_eq (tgt := 58) hx hb dX14_placeOf_40 (by decide) (fun c_9 => ?_) (fun c_9 => ?_)
            · skip
              have c_9' : z_8.toInt = 10 := jb_eq (rfl) ((by decide)) c_9
              refine lv_iload hx hb dX14_placeOf_58 (lv_at hl 5 rfl) ?_
              rw [hQ]
              exact W.iret (v := v5_4) hx hb hr (fun t ht hW => ⟨⟨v5_4, (), rfl, by refine ⟨by omega, by omega, ?_⟩; unfold jdP; rw [if_neg (by omega), hlb8.1, if_neg (by dsimp only; omega)]; exact (jdC_e (Or.inr (Or.inr (Or.inl (by have h9 := hqz_8; omega))))).symm.trans hi_4_3, hh_4.rt (M1 := []) [] rfl ht⟩, by rw [ht]; try exact hh_4.1.1, fun q h9 hq => by rw [ht]; try exact hh_4.1.2.1 q h9 hq⟩) hh_4.1.2.2 dX14_placeOf_60
            · skip
              have c_9' : z_8.toInt ≠ 10 := jb_eq_n (rfl) ((by decide)) c_9
              refine lv_aload_n hx hb dX14_placeOf_43 rfl (lv_at hl 0 rfl) ?_
              refine lv_iload hx hb dX14_placeOf_44 (lv_at hl 5 rfl) ?_
              refine j7_ialdM hx hb hK hh_4 hB112 1 rfl (by decide) hg_r0 (x := v5_4.toInt) (rfl) (by omega) (j := 0) rfl dX14_placeOf_46 (fun z_10 ez_10 (hz_10 : True) => ?_)
              have hqz_10 : z_10.toInt = jSo f0 (v5_4.toInt) := by unfold jSo; rw [ez_10]
              refine lv_bipush (v := 13) hx hb dX14_placeOf_47 (by decide) ?_
              refine lv_icmp_eq (tgt := 58) hx hb dX14_placeOf_49 (by decide) (fun c_11 => ?_) (fun c_11 => ?_)
              · skip
                have c_11' : z_10.toInt = 13 := jb_eq (rfl) ((by decide)) c_11
                refine lv_iload hx hb dX14_placeOf_58 (lv_at hl 5 rfl) ?_
                rw [hQ]
                exact W.iret (v := v5_4) hx hb hr (fun t ht hW => ⟨⟨v5_4, (), rfl, by refine ⟨by omega, by omega, ?_⟩; unfold jdP; rw [if_neg (by omega), hlb8.1, if_neg (by dsimp only; omega)]; exact (jdC_e (Or.inr (Or.inr (Or.inr (by have h9 := hqz_10; omega))))).symm.trans hi_4_3, hh_4.rt (M1 := []) [] rfl ht⟩, by rw [ht]; try exact hh_4.1.1, fun q h9 hq => by rw [ht]; try exact hh_4.1.2.1 q h9 hq⟩) hh_4.1.2.2 dX14_placeOf_60
              · skip
                have c_11' : z_10.toInt ≠ 13 := jb_eq_n (rfl) ((by decide)) c_11
                obtain ⟨z_12, ez_12⟩ : ∃ y : Int32, y = v5_4 + 1 := ⟨_, rfl⟩
                refine lv_iinc (v := z_12) (lv' := [(5, .int z_12), (0, .ref r0), (1, .int a1), (2, .int a2), (3, .int a3), (4, .int r_2)]) hx hb dX14_placeOf_52 hl (k := 5) rfl (by rw [ez_12]; rfl) (by decide) rfl (fun ls hl => ?_)
                have hz_12 : z_12.toInt = v5_4.toInt + 1 := by rw [ez_12]; exact jb_iadd2 (rfl) (by decide) (by omega)
                refine lv_goto (tgt := 19) hx hb dX14_placeOf_55 (by decide) ?_
                exact L19 z_12 (kg - 1) _ _ hh_4 (by refine ⟨by omega, by omega, by omega, ?_⟩; exact (jdC_s (by omega) (by omega) (by have h9 := hqz_8; omega) (by have h9 := hqz_10; omega) (by omega) (by omega)).trans hi_4_3) (by omega) _ (lv_sub hl [1, 2, 3, 4, 5, 0] rfl)
    exact L19 (a1.toInt - (r_2 : Int32).toInt : Int).toNat.succ r_2 ((a1.toInt).toNat) _ _ hh_1 (by refine ⟨by omega, by omega, by omega, rfl⟩) (by omega) _ (lv_sub hl [2, 3, 4, 5, 1, 0] rfl)
  · skip
    have c_3' : r_2.toInt < 0 := jb_ge_n (rfl) ((by decide)) c_3
    first | (have hr_2q := hr_2.resolve_left (by omega); clear hr_2) | (have hr_2q := hr_2.resolve_right (by omega); clear hr_2) | skip
    refine lv_iconst (v := (-1)) hx hb dX14_placeOf_13 (by decide) ?_
    rw [hQ]
    exact W.iret (v := (-1)) hx hb hr (fun t ht hW => ⟨⟨(-1), (), rfl, by refine ⟨by omega, by omega, ?_⟩; unfold jdP; have h9 := hlb9.resolve_left (fun q => by omega); rw [if_neg (by omega), if_pos h9.2]; exact hkm1, hh_1.rt (M1 := []) [] rfl ht⟩, by rw [ht]; try exact hh_1.1.1, fun q h9 hq => by rw [ht]; try exact hh_1.1.2.1 q h9 hq⟩) hh_1.1.2.2 dX14_placeOf_14
set_option maxHeartbeats 4000000 in
set_option maxRecDepth 20000 in
theorem uX14_isChangeR (l : Launch) (dC : Nat → ClassId) (dI : Nat → Nat → Nat) (ca : Nat → ClassId) (base : Nat) (B : jF) (hB : jBok B) (hAp : jAp (dC, dI)) (hB16 : ∀ n G a H, B 16 n G a H ↔ jOb (dC, dI) 16 74 (F16 n G) a H) (hB117 : ∀ n G a H, B 117 n G a H ↔ jAr (dC, dI) (ca 1) (fun j z => True) n a H) (hB118 : ∀ n G a H, B 118 n G a H ↔ jAr (dC, dI) (ca 1) (fun j z => -1 ≤ z.toInt ∧ z.toInt ≤ 3099) n a H) (hB119 : ∀ n G a H, B 119 n G a H ↔ jAr (dC, dI) (ca 1) (fun j z => z.toInt = -1 ∨ z.toInt = 0 ∨ ((j : Nat) < z.toInt ∧ z.toInt ≤ 3099)) n a H) (hB120 : ∀ n G a H, B 120 n G a H ↔ jAr (dC, dI) (ca 1) (fun j z => 0 ≤ z.toInt ∧ z.toInt ≤ 3300) n a H) (hB121 : ∀ n G a H, B 121 n G a H ↔ jAr (dC, dI) (ca 1) (fun j z => 0 ≤ z.toInt ∧ z.toInt ≤ 3300) n a H) (hB124 : ∀ n G a H, B 124 n G a H ↔ jAr (dC, dI) (ca 3) (fun j z => (z = 0 ∨ z = 1)) n a H) (hB125 : ∀ n G a H, B 125 n G a H ↔ jAr (dC, dI) (ca 1) (fun j z => True) n a H) (hB127 : ∀ n G a H, B 127 n G a H ↔ jAr (dC, dI) (ca 1) (fun j z => True) n a H) (G0 : jT) (H0 : Heap) (r0 : Nat) (a1 : Int32) (zm : Nat) (xh : Nat) (xn : Nat) (xf : Nat) (xt : Nat) (xb : Nat) (xe : Nat) (xi : Nat) (xg : Nat) (xp : Nat) (T9 : Nat → Int → Int) (nd9 po9 : Int) (ms : Nat → Int32) (mh : Nat → Int32) (mx : Nat → Int32) (mf : Nat → Int32) (mt : Nat → Int32) (mb : Nat → Int32) (me : Nat → Int32) (mi : Nat → Int32) (mn : Nat → Int32) (fu : Nat → Int32) : Met l yX14_isChange (jw yX14_isChange cX14_isChange 3 (some .boolean)) ({ frames := 7, cells := 0, slots := 0, locals := 212 }) (va_Pc [.ref r0, .int a1] (fun U => U.heap = H0 ∧ jX B base G0 [] H0 ∧ jG dC dI ca base U ∧ G0 r0 = some (16, 0) ∧ G0 zm = some (117, 3100) ∧ G0 xh = some (118, 3100) ∧ G0 xn = some (119, 3100) ∧ G0 xf = some (120, 3100) ∧ G0 xt = some (121, 3100) ∧ G0 xb = some (122, 3100) ∧ G0 xe = some (123, 3100) ∧ G0 xi = some (124, 3100) ∧ G0 xg = some (125, 3100) ∧ G0 xp = some (127, 3300) ∧ jP (dC, dI) G0 H0 [(r0, 16, 17, .ref zm), (r0, 16, 18, .ref xh), (r0, 16, 19, .ref xn), (r0, 16, 20, .ref xf), (r0, 16, 21, .ref xt), (r0, 16, 22, .ref xb), (r0, 16, 23, .ref xe), (r0, 16, 24, .ref xi), (r0, 16, 25, .ref xg), (r0, 16, 27, .ref xp)] ∧ jMc (dC, dI) G0 H0 [(zm, 117, 3100, ca 1, ms), (xh, 118, 3100, ca 1, mh), (xn, 119, 3100, ca 1, mx), (xf, 120, 3100, ca 1, mf), (xt, 121, 3100, ca 1, mt), (xb, 122, 3100, ca 1, mb), (xe, 123, 3100, ca 1, me), (xi, 124, 3100, ca 3, mi), (xg, 125, 3100, ca 1, mn), (xp, 127, 3300, ca 1, fu)] ∧ 0 ≤ nd9 ∧ nd9 ≤ 3100 ∧ jjRB T9 nd9 po9 ms mh mx mf mt mb me mi mn fu ∧ 0 ≤ a1.toInt ∧ a1.toInt < nd9 ∧ jSo mx 0 = -1)) (va_Qi (S := Unit) (fun r u => (r = 0 ∨ r = 1) ∧ (((r.toInt = 1 ∧ jdCk T9 nd9 a1.toInt) ∨ (r.toInt = 0 ∧ ¬ jdCk T9 nd9 a1.toInt)))) (fun u t => jRt (dC, dI) B base G0 EX14_isChangeR H0 [] t.heap) (jA base)) 0 0 (jA base) := by
  refine Met.ofW (cc := cX14_isChange) (maxL := 3) (ret := (some .boolean)) (by decide) rfl ?_
  intro p e s m args below meth c s₁ Bd hml hv
  obtain ⟨rfl, hH0, hX, hG, hg_r0, hg_zm, hg_xh, hg_xn, hg_xf, hg_xt, hg_xb, hg_xe, hg_xi, hg_xg, hg_xp, hP0, hM0, hp0, hp1, hp2, hp3, hp4, hp5⟩ := hv
  have hK := hG.1
  have hx := Bd.exec
  have hb := Bd.bytes
  have hr := Bd.returns
  have hts := atoms_spec (ws := (jw yX14_isChange cX14_isChange 3 (some .boolean))) Bd.pre
  have htw : ∀ w ∈ jWl, w.before _ s = true := fun w h => hts w (List.mem_cons_of_mem _ h)
  have hown : s.vm.findClass RX14 = some m.cls := findClass_of_methodNamed Bd.named
  have hlocks := Bd.notSynchronized
  obtain ⟨Q, hQ⟩ : ∃ Q, Q = MQ below (va_Qi (S := Unit) (fun r u => (r = 0 ∨ r = 1) ∧ (((r.toInt = 1 ∧ jdCk T9 nd9 a1.toInt) ∨ (r.toInt = 0 ∧ ¬ jdCk T9 nd9 a1.toInt)))) (fun u t => jRt (dC, dI) B base G0 EX14_isChangeR H0 [] t.heap) (jA base)) ([.ref r0, .int a1] : List Value).toArray s 0 0 (jA base) := ⟨_, rfl⟩
  rw [← hQ]
  have hl := lv_entry ([.ref r0, .int a1]) (n := 3) (Nat.le_of_ble_eq_true rfl)
  rw [lg_entry_eq]
  generalize (lg_sl ([.ref r0, .int a1]) ++ List.replicate (3 - (lg_sl ([.ref r0, .int a1])).length) Slot.unset).toArray = ls at hl ⊢
  have hl : lv_has ls 3 [(0, .ref r0), (1, .int a1)] := hl
  generalize hR : (headSpec (jw yX14_isChange cX14_isChange 3 (some .boolean)) ({ frames := 7, cells := 0, slots := 0, locals := 212 })).room = R
  subst hH0
  have hh : jSt (dC, dI) B base G0 G0 EX14_isChangeR s.heap 0 0 [(r0, 16, 17, .ref zm), (r0, 16, 18, .ref xh), (r0, 16, 19, .ref xn), (r0, 16, 20, .ref xf), (r0, 16, 21, .ref xt), (r0, 16, 22, .ref xb), (r0, 16, 23, .ref xe), (r0, 16, 24, .ref xi), (r0, 16, 25, .ref xg), (r0, 16, 27, .ref xp)] [(zm, 117, 3100, ca 1, ms), (xh, 118, 3100, ca 1, mh), (xn, 119, 3100, ca 1, mx), (xf, 120, 3100, ca 1, mf), (xt, 121, 3100, ca 1, mt), (xb, 122, 3100, ca 1, mb), (xe, 123, 3100, ca 1, me), (xi, 124, 3100, ca 3, mi), (xg, 125, 3100, ca 1, mn), (xp, 127, 3300, ca 1, fu)] [] s.heap [] := jSt.start hX hP0 hM0 jIs.nil
  clear hX hP0
  have hk0 : (0 : Int32).toInt = 0 := by decide
  have hk1 : (1 : Int32).toInt = 1 := by decide
  have hk6 : (6 : Int32).toInt = 6 := by decide
  have hly_16_17 := htw (u_lay RX14 TX14 17) (jWc_wsX140 _ (u_in_lay (by decide)))
  have hlk_37 := (htw (.fieldLink RX14 37 "ProofServerModel" "sort" "[I") (jWr_11 _ (List.mem_of_getElem? (i := 4) rfl)))
  obtain ⟨str519, rstr519, hstr5190⟩ := hG.strT (o := RX14) (k := 519) (tx := "text") (List.mem_of_getElem? (i := 2489) (by decide +kernel))
  have hTstr519 : jStrF base str519 4 (jChT "text") s s.heap := hstr5190.F (by decide +kernel)
  have hstr519 : jStr base str519 4 s s.heap := hTstr519.str
  obtain ⟨str548, rstr548, hstr5480⟩ := hG.strT (o := RX14) (k := 548) (tx := "range") (List.mem_of_getElem? (i := 2889) (by decide +kernel))
  have hTstr548 : jStrF base str548 5 (jChT "range") s s.heap := hstr5480.F (by decide +kernel)
  have hstr548 : jStr base str548 5 s s.heap := hTstr548.str
  obtain ⟨str553, rstr553, hstr5530⟩ := hG.strT (o := RX14) (k := 553) (tx := "start") (List.mem_of_getElem? (i := 2890) (by decide +kernel))
  have hTstr553 : jStrF base str553 5 (jChT "start") s s.heap := hstr5530.F (by decide +kernel)
  have hstr553 : jStr base str553 5 s s.heap := hTstr553.str
  obtain ⟨str555, rstr555, hstr5550⟩ := hG.strT (o := RX14) (k := 555) (tx := "end") (List.mem_of_getElem? (i := 2897) (by decide +kernel))
  have hTstr555 : jStrF base str555 3 (jChT "end") s s.heap := hstr5550.F (by decide +kernel)
  have hstr555 : jStr base str555 3 s s.heap := hTstr555.str
  have hrg_a1 := jb_rng a1
  refine lv_aload_n hx hb dX14_isChange_0 rfl (lv_at hl 0 rfl) ?_
  refine j7_read hx hb hown hK (C := RX14) (T := TX14) (N := 74) rfl hly_16_17 hlk_37 (hh.at 0 rfl) dX14_isChange_1 ?_
  refine lv_iload_n hx hb dX14_isChange_4 rfl (lv_at hl 1 rfl) ?_
  refine j7_ialdM hx hb hK hh hB117 1 rfl (by decide) hg_zm (x := a1.toInt) (rfl) (by omega) (j := 0) rfl dX14_isChange_5 (fun z_1 ez_1 (hz_1 : True) => ?_)
  have hqz_1 : z_1.toInt = jSo ms (a1.toInt) := by unfold jSo; rw [ez_1]
  refine lv_bipush (v := 6) hx hb dX14_isChange_6 (by decide) ?_
  refine lv_icmp_ne (tgt := 26) hx hb dX14_isChange_8 (by decide) (fun c_2 => ?_) (fun c_2 => ?_)
  · skip
    have c_2' : z_1.toInt ≠ 6 := jb_ne (rfl) ((by decide)) c_2
    refine lv_iconst (v := 0) hx hb dX14_isChange_26 (by decide) ?_
    rw [hQ]
    exact W.zret (v := 0) hx hb hr (jb_nz (Or.inl rfl)) (fun t ht hW => ⟨⟨0, (), rfl, ⟨(Or.inl rfl), by refine Or.inr ⟨by omega, fun q => by unfold jdCk at q; have h9 : jqM T9 nd9 (jChT "text") 4 a1.toInt = -1 := if_neg (by have h8 := hp2.obj (a := a1.toInt) (by omega) (by omega); have h7 := hqz_1; omega); have h6 := q.1; rw [h9, jqK.neg (by omega)] at h6; omega⟩⟩, hh.rt (M1 := []) [] rfl ht⟩, by rw [ht]; try exact hh.1.1, fun q h9 hq => by rw [ht]; try exact hh.1.2.1 q h9 hq⟩) hh.1.2.2 dX14_isChange_27
  · skip
    have c_2' : z_1.toInt = 6 := jb_ne_n (rfl) ((by decide)) c_2
    refine lv_aload_n hx hb dX14_isChange_11 rfl (lv_at hl 0 rfl) ?_
    refine lv_aload_n hx hb dX14_isChange_12 rfl (lv_at hl 0 rfl) ?_
    refine lv_iload_n hx hb dX14_isChange_13 rfl (lv_at hl 1 rfl) ?_
    refine j_ldcSw hx hb hown rstr519 dX14_isChange_14 ?_
    refine va_calli (A0 := jA base) (H0 := s.heap) (va_runV (As := [.int a1, .ref str519]) (rest := [.ref r0]) ⟨hx, hb, hml, hown, hts⟩ (uX14_memberR l dC dI ca base B hB hAp hB16 hB117 hB118 hB119 hB120 hB121 hB127 G0 s.heap r0 a1 str519 4 (jChT "text") zm xh xn xf xt xb xe xi xg xp T9 nd9 po9 ms mh mx mf mt mb me mi mn fu) (cwV 2 hts (jgV (jWr_55 _ (List.mem_of_getElem? (i := 15) rfl)) (jWr_55 _ (List.mem_of_getElem? (i := 16) rfl)) (jWr_55 _ (List.mem_of_getElem? (i := 17) rfl)) (jWr_1 _ (List.mem_of_getElem? (i := 5) rfl)) (jWr_55 _ (List.mem_of_getElem? (i := 18) rfl))) rfl rfl rfl (by decide +kernel) ⟨by rw [← hR]; exact Nat.le_of_ble_eq_true rfl, by rw [← hR]; exact Nat.le_of_ble_eq_true rfl⟩) ⟨fun a U g mk q => by obtain ⟨q0, q1, q2, qK, q10, q11, q12, q13, q14, q15, q16, q17, q18, q19, q20, q21, q22, q23, q24⟩ := q; exact ⟨q0, q1, q2, jG.calling g mk a qK, (q10.moved (Vm.Alike.refl U.vm)), q11, q12, q13, q14, q15, q16, q17, q18, q19, q20, q21, q22, q23, q24⟩, hh.recv (C := RX14) (T := TX14) (N := 74) hB16 rfl (by decide) hg_r0 hK, fun U hU hW => ⟨rfl, hU, hh.2.1, hG.step hW hU hh.1, (hTstr519.moved hW.alike).kept hh.1.2.1, hg_r0, hg_zm, hg_xh, hg_xn, hg_xf, hg_xt, hg_xb, hg_xe, hg_xi, hg_xg, hg_xp, (hh.2.2.1.sub (L1 := [(r0, 16, 17, .ref zm), (r0, 16, 18, .ref xh), (r0, 16, 19, .ref xn), (r0, 16, 20, .ref xf), (r0, 16, 21, .ref xt), (r0, 16, 22, .ref xb), (r0, 16, 23, .ref xe), (r0, 16, 24, .ref xi), (r0, 16, 25, .ref xg), (r0, 16, 27, .ref xp)]) [0, 1, 2, 3, 4, 5, 6, 7, 8, 9] rfl), (hh.2.2.2.2.2.2.2.1.sub (L1 := [(zm, 117, 3100, ca 1, ms), (xh, 118, 3100, ca 1, mh), (xn, 119, 3100, ca 1, mx), (xf, 120, 3100, ca 1, mf), (xt, 121, 3100, ca 1, mt), (xb, 122, 3100, ca 1, mb), (xe, 123, 3100, ca 1, me), (xi, 124, 3100, ca 3, mi), (xg, 125, 3100, ca 1, mn), (xp, 127, 3300, ca 1, fu)]) [0, 1, 2, 3, 4, 5, 6, 7, 8, 9] rfl), by first | omega | (refine ⟨?_, ?_, ?_, ?_, ?_, ?_, ?_⟩ <;> (first | omega | rfl | assumption | decide | exact Or.inl rfl | exact Or.inr rfl | (simp only; omega)))⟩⟩ rfl rfl hl.1 rfl (lv_room (Nat.le_of_ble_eq_true rfl)) dX14_isChange_17 ⟨Nat.zero_le _, Nat.zero_le _⟩) hh.1 (fun q _ h => h) (fun q h => h) (fun r_4 u_3 t_3 H_3 locs_3 ht_3 hvm_3 hr_4 hb_3 hz_3 hk_3 hS_3 => ?_)
    rw [ht_3] at hb_3
    obtain ⟨hb_31, hb_32, hb_33, hb_34, hb_35⟩ := hb_3
    have hh_3 : jSt (dC, dI) B base G0 G0 EX14_isChangeR s.heap 0 0 [(r0, 16, 17, .ref zm), (r0, 16, 18, .ref xh), (r0, 16, 19, .ref xn), (r0, 16, 20, .ref xf), (r0, 16, 21, .ref xt), (r0, 16, 22, .ref xb), (r0, 16, 23, .ref xe), (r0, 16, 24, .ref xi), (r0, 16, 25, .ref xg), (r0, 16, 27, .ref xp)] [(zm, 117, 3100, ca 1, ms), (xh, 118, 3100, ca 1, mh), (xn, 119, 3100, ca 1, mx), (xf, 120, 3100, ca 1, mf), (xt, 121, 3100, ca 1, mt), (xb, 122, 3100, ca 1, mb), (xe, 123, 3100, ca 1, me), (xi, 124, 3100, ca 3, mi), (xg, 125, 3100, ca 1, mn), (xp, 127, 3300, ca 1, fu)] [] H_3 locs_3 := ((hh.call hb_31 hb_32 hb_33 hb_34 hS_3 rfl (L1 := [(r0, 16, 17, .ref zm), (r0, 16, 18, .ref xh), (r0, 16, 19, .ref xn), (r0, 16, 20, .ref xf), (r0, 16, 21, .ref xt), (r0, 16, 22, .ref xb), (r0, 16, 23, .ref xe), (r0, 16, 24, .ref xi), (r0, 16, 25, .ref xg), (r0, 16, 27, .ref xp)]) [0, 1, 2, 3, 4, 5, 6, 7, 8, 9] rfl rfl (M1 := [(zm, 117, 3100, ca 1, ms), (xh, 118, 3100, ca 1, mh), (xn, 119, 3100, ca 1, mx), (xf, 120, 3100, ca 1, mf), (xt, 121, 3100, ca 1, mt), (xb, 122, 3100, ca 1, mb), (xe, 123, 3100, ca 1, me), (xi, 124, 3100, ca 3, mi), (xg, 125, 3100, ca 1, mn), (xp, 127, 3300, ca 1, fu)]) [0, 1, 2, 3, 4, 5, 6, 7, 8, 9] rfl rfl (I1 := []) [] rfl rfl).more hb_35)
    clear hh ht_3 hvm_3 hz_3 hk_3 hS_3 hb_31 hb_32 hb_33 hb_34 hb_35
    obtain ⟨hr_4_0, hr_4_1, hr_4_2⟩ := hr_4
    refine va_calli (A0 := jA base) (H0 := s.heap) (va_runV (As := [.int r_4]) (rest := []) ⟨hx, hb, hml, hown, hts⟩ (uX14_isStringR l dC dI ca base B hB hAp hB16 hB117 G0 H_3 r0 r_4 zm xh xn xf xt xb xe xi xg xp T9 nd9 po9 ms mh mx mf mt mb me mi mn fu) (cwV 1 hts (jgV (jWr_56 _ (List.mem_of_getElem? (i := 3) rfl)) (jWr_56 _ (List.mem_of_getElem? (i := 4) rfl)) (jWr_56 _ (List.mem_of_getElem? (i := 5) rfl)) (jWr_1 _ (List.mem_of_getElem? (i := 5) rfl)) (jWr_56 _ (List.mem_of_getElem? (i := 6) rfl))) rfl rfl rfl (by decide +kernel) ⟨by rw [← hR]; exact Nat.le_of_ble_eq_true rfl, by rw [← hR]; exact Nat.le_of_ble_eq_true rfl⟩) ⟨fun a U g mk q => by obtain ⟨q0, q1, q2, qK, q10, q11, q12, q13, q14, q15, q16, q17, q18, q19, q20, q21, q22, q23⟩ := q; exact ⟨q0, q1, q2, jG.calling g mk a qK, q10, q11, q12, q13, q14, q15, q16, q17, q18, q19, q20, q21, q22, q23⟩, hh_3.recv (C := RX14) (T := TX14) (N := 74) hB16 rfl (by decide) hg_r0 hK, fun U hU hW => ⟨rfl, hU, hh_3.2.1, hG.step hW hU hh_3.1, hg_r0, hg_zm, hg_xh, hg_xn, hg_xf, hg_xt, hg_xb, hg_xe, hg_xi, hg_xg, hg_xp, (hh_3.2.2.1.sub (L1 := [(r0, 16, 17, .ref zm), (r0, 16, 18, .ref xh), (r0, 16, 19, .ref xn), (r0, 16, 20, .ref xf), (r0, 16, 21, .ref xt), (r0, 16, 22, .ref xb), (r0, 16, 23, .ref xe), (r0, 16, 24, .ref xi), (r0, 16, 25, .ref xg), (r0, 16, 27, .ref xp)]) [0, 1, 2, 3, 4, 5, 6, 7, 8, 9] rfl), (hh_3.2.2.2.2.2.2.2.1.sub (L1 := [(zm, 117, 3100, ca 1, ms), (xh, 118, 3100, ca 1, mh), (xn, 119, 3100, ca 1, mx), (xf, 120, 3100, ca 1, mf), (xt, 121, 3100, ca 1, mt), (xb, 122, 3100, ca 1, mb), (xe, 123, 3100, ca 1, me), (xi, 124, 3100, ca 3, mi), (xg, 125, 3100, ca 1, mn), (xp, 127, 3300, ca 1, fu)]) [0, 1, 2, 3, 4, 5, 6, 7, 8, 9] rfl), by first | omega | (refine ⟨?_, ?_, ?_, ?_⟩ <;> (first | omega | rfl | assumption | decide | exact Or.inl rfl | exact Or.inr rfl | (simp only; omega)))⟩⟩ rfl rfl hl.1 rfl (lv_room (Nat.le_of_ble_eq_true rfl)) dX14_isChange_20 ⟨Nat.zero_le _, Nat.zero_le _⟩) hh_3.1 (fun q _ h => h) (fun q h => h) (fun r_6 u_5 t_5 H_5 locs_5 ht_5 hvm_5 hr_6 hb_5 hz_5 hk_5 hS_5 => ?_)
    rw [ht_5] at hb_5
    obtain ⟨hb_51, hb_52, hb_53, hb_54, hb_55⟩ := hb_5
    have hh_5 : jSt (dC, dI) B base G0 G0 EX14_isChangeR s.heap 0 0 [(r0, 16, 17, .ref zm), (r0, 16, 18, .ref xh), (r0, 16, 19, .ref xn), (r0, 16, 20, .ref xf), (r0, 16, 21, .ref xt), (r0, 16, 22, .ref xb), (r0, 16, 23, .ref xe), (r0, 16, 24, .ref xi), (r0, 16, 25, .ref xg), (r0, 16, 27, .ref xp)] [(zm, 117, 3100, ca 1, ms), (xh, 118, 3100, ca 1, mh), (xn, 119, 3100, ca 1, mx), (xf, 120, 3100, ca 1, mf), (xt, 121, 3100, ca 1, mt), (xb, 122, 3100, ca 1, mb), (xe, 123, 3100, ca 1, me), (xi, 124, 3100, ca 3, mi), (xg, 125, 3100, ca 1, mn), (xp, 127, 3300, ca 1, fu)] [] H_5 locs_5 := ((hh_3.call hb_51 hb_52 hb_53 hb_54 hS_5 rfl (L1 := [(r0, 16, 17, .ref zm), (r0, 16, 18, .ref xh), (r0, 16, 19, .ref xn), (r0, 16, 20, .ref xf), (r0, 16, 21, .ref xt), (r0, 16, 22, .ref xb), (r0, 16, 23, .ref xe), (r0, 16, 24, .ref xi), (r0, 16, 25, .ref xg), (r0, 16, 27, .ref xp)]) [0, 1, 2, 3, 4, 5, 6, 7, 8, 9] rfl rfl (M1 := [(zm, 117, 3100, ca 1, ms), (xh, 118, 3100, ca 1, mh), (xn, 119, 3100, ca 1, mx), (xf, 120, 3100, ca 1, mf), (xt, 121, 3100, ca 1, mt), (xb, 122, 3100, ca 1, mb), (xe, 123, 3100, ca 1, me), (xi, 124, 3100, ca 3, mi), (xg, 125, 3100, ca 1, mn), (xp, 127, 3300, ca 1, fu)]) [0, 1, 2, 3, 4, 5, 6, 7, 8, 9] rfl rfl (I1 := []) [] rfl rfl).more hb_55)
    clear hh_3 ht_5 hvm_5 hz_5 hk_5 hS_5 hb_51 hb_52 hb_53 hb_54 hb_55
    obtain ⟨hr_6b, hr_6p⟩ := hr_6
    have hs20 := hr_6p
    have hr_6' := jb_01 hr_6b
    refine lv_if_ne (tgt := 28) hx hb dX14_isChange_23 (by decide) (fun c_7 => ?_) (fun c_7 => ?_)
    · skip
      have c_7' : r_6.toInt ≠ 0 := jb_ne (rfl) ((by decide)) c_7
      first | (have hr_6pq := hr_6p.resolve_left (by omega); clear hr_6p) | (have hr_6pq := hr_6p.resolve_right (by omega); clear hr_6p) | try clear hr_6p
      refine lv_aload_n hx hb dX14_isChange_28 rfl (lv_at hl 0 rfl) ?_
      refine lv_iload_n hx hb dX14_isChange_29 rfl (lv_at hl 1 rfl) ?_
      refine j_ldcSw hx hb hown rstr548 dX14_isChange_30 ?_
      refine va_calli (A0 := jA base) (H0 := s.heap) (va_runV (As := [.int a1, .ref str548]) (rest := []) ⟨hx, hb, hml, hown, hts⟩ (uX14_memberR l dC dI ca base B hB hAp hB16 hB117 hB118 hB119 hB120 hB121 hB127 G0 H_5 r0 a1 str548 5 (jChT "range") zm xh xn xf xt xb xe xi xg xp T9 nd9 po9 ms mh mx mf mt mb me mi mn fu) (cwV 2 hts (jgV (jWr_55 _ (List.mem_of_getElem? (i := 15) rfl)) (jWr_55 _ (List.mem_of_getElem? (i := 16) rfl)) (jWr_55 _ (List.mem_of_getElem? (i := 17) rfl)) (jWr_1 _ (List.mem_of_getElem? (i := 5) rfl)) (jWr_55 _ (List.mem_of_getElem? (i := 18) rfl))) rfl rfl rfl (by decide +kernel) ⟨by rw [← hR]; exact Nat.le_of_ble_eq_true rfl, by rw [← hR]; exact Nat.le_of_ble_eq_true rfl⟩) ⟨fun a U g mk q => by obtain ⟨q0, q1, q2, qK, q10, q11, q12, q13, q14, q15, q16, q17, q18, q19, q20, q21, q22, q23, q24⟩ := q; exact ⟨q0, q1, q2, jG.calling g mk a qK, (q10.moved (Vm.Alike.refl U.vm)), q11, q12, q13, q14, q15, q16, q17, q18, q19, q20, q21, q22, q23, q24⟩, hh_5.recv (C := RX14) (T := TX14) (N := 74) hB16 rfl (by decide) hg_r0 hK, fun U hU hW => ⟨rfl, hU, hh_5.2.1, hG.step hW hU hh_5.1, (hTstr548.moved hW.alike).kept hh_5.1.2.1, hg_r0, hg_zm, hg_xh, hg_xn, hg_xf, hg_xt, hg_xb, hg_xe, hg_xi, hg_xg, hg_xp, (hh_5.2.2.1.sub (L1 := [(r0, 16, 17, .ref zm), (r0, 16, 18, .ref xh), (r0, 16, 19, .ref xn), (r0, 16, 20, .ref xf), (r0, 16, 21, .ref xt), (r0, 16, 22, .ref xb), (r0, 16, 23, .ref xe), (r0, 16, 24, .ref xi), (r0, 16, 25, .ref xg), (r0, 16, 27, .ref xp)]) [0, 1, 2, 3, 4, 5, 6, 7, 8, 9] rfl), (hh_5.2.2.2.2.2.2.2.1.sub (L1 := [(zm, 117, 3100, ca 1, ms), (xh, 118, 3100, ca 1, mh), (xn, 119, 3100, ca 1, mx), (xf, 120, 3100, ca 1, mf), (xt, 121, 3100, ca 1, mt), (xb, 122, 3100, ca 1, mb), (xe, 123, 3100, ca 1, me), (xi, 124, 3100, ca 3, mi), (xg, 125, 3100, ca 1, mn), (xp, 127, 3300, ca 1, fu)]) [0, 1, 2, 3, 4, 5, 6, 7, 8, 9] rfl), by first | omega | (refine ⟨?_, ?_, ?_, ?_, ?_, ?_, ?_⟩ <;> (first | omega | rfl | assumption | decide | exact Or.inl rfl | exact Or.inr rfl | (simp only; omega)))⟩⟩ rfl rfl hl.1 rfl (lv_room (Nat.le_of_ble_eq_true rfl)) dX14_isChange_33 ⟨Nat.zero_le _, Nat.zero_le _⟩) hh_5.1 (fun q _ h => h) (fun q h => h) (fun r_9 u_8 t_8 H_8 locs_8 ht_8 hvm_8 hr_9 hb_8 hz_8 hk_8 hS_8 => ?_)
      rw [ht_8] at hb_8
      obtain ⟨hb_81, hb_82, hb_83, hb_84, hb_85⟩ := hb_8
      have hh_8 : jSt (dC, dI) B base G0 G0 EX14_isChangeR s.heap 0 0 [(r0, 16, 17, .ref zm), (r0, 16, 18, .ref xh), (r0, 16, 19, .ref xn), (r0, 16, 20, .ref xf), (r0, 16, 21, .ref xt), (r0, 16, 22, .ref xb), (r0, 16, 23, .ref xe), (r0, 16, 24, .ref xi), (r0, 16, 25, .ref xg), (r0, 16, 27, .ref xp)] [(zm, 117, 3100, ca 1, ms), (xh, 118, 3100, ca 1, mh), (xn, 119, 3100, ca 1, mx), (xf, 120, 3100, ca 1, mf), (xt, 121, 3100, ca 1, mt), (xb, 122, 3100, ca 1, mb), (xe, 123, 3100, ca 1, me), (xi, 124, 3100, ca 3, mi), (xg, 125, 3100, ca 1, mn), (xp, 127, 3300, ca 1, fu)] [] H_8 locs_8 := ((hh_5.call hb_81 hb_82 hb_83 hb_84 hS_8 rfl (L1 := [(r0, 16, 17, .ref zm), (r0, 16, 18, .ref xh), (r0, 16, 19, .ref xn), (r0, 16, 20, .ref xf), (r0, 16, 21, .ref xt), (r0, 16, 22, .ref xb), (r0, 16, 23, .ref xe), (r0, 16, 24, .ref xi), (r0, 16, 25, .ref xg), (r0, 16, 27, .ref xp)]) [0, 1, 2, 3, 4, 5, 6, 7, 8, 9] rfl rfl (M1 := [(zm, 117, 3100, ca 1, ms), (xh, 118, 3100, ca 1, mh), (xn, 119, 3100, ca 1, mx), (xf, 120, 3100, ca 1, mf), (xt, 121, 3100, ca 1, mt), (xb, 122, 3100, ca 1, mb), (xe, 123, 3100, ca 1, me), (xi, 124, 3100, ca 3, mi), (xg, 125, 3100, ca 1, mn), (xp, 127, 3300, ca 1, fu)]) [0, 1, 2, 3, 4, 5, 6, 7, 8, 9] rfl rfl (I1 := []) [] rfl rfl).more hb_85)
      clear hh_5 ht_8 hvm_8 hz_8 hk_8 hS_8 hb_81 hb_82 hb_83 hb_84 hb_85
      obtain ⟨hr_9_0, hr_9_1, hr_9_2⟩ := hr_9
      refine lv_istore_n (lv' := [(2, .int r_9), (0, .ref r0), (1, .int a1)]) hx hb dX14_isChange_36 rfl hl (by decide) rfl (fun ls hl => ?_)
      refine lv_iload_n hx hb dX14_isChange_37 rfl (lv_at hl 0 rfl) ?_
      refine lv_if_lt (tgt := 71) hx hb dX14_isChange_38 (by decide) (fun c_10 => ?_) (fun c_10 => ?_)
      · skip
        have c_10' : r_9.toInt < 0 := jb_lt (rfl) ((by decide)) c_10
        refine lv_iconst (v := 1) hx hb dX14_isChange_71 (by decide) ?_
        refine lv_goto (tgt := 76) hx hb dX14_isChange_72 (by decide) ?_
        rw [hQ]
        exact W.zret (v := 1) hx hb hr (jb_nz (Or.inr rfl)) (fun t ht hW => ⟨⟨1, (), rfl, ⟨(Or.inr rfl), by refine Or.inl ⟨by omega, (by rw [← hr_4_0]; exact (hs20.resolve_right (fun q => by omega)).2), Or.inl (by rw [← hr_9_0]; omega)⟩⟩, hh_8.rt (M1 := []) [] rfl ht⟩, by rw [ht]; try exact hh_8.1.1, fun q h9 hq => by rw [ht]; try exact hh_8.1.2.1 q h9 hq⟩) hh_8.1.2.2 dX14_isChange_76
      · skip
        have c_10' : r_9.toInt ≥ 0 := jb_lt_n (rfl) ((by decide)) c_10
        refine lv_aload_n hx hb dX14_isChange_41 rfl (lv_at hl 1 rfl) ?_
        refine lv_aload_n hx hb dX14_isChange_42 rfl (lv_at hl 1 rfl) ?_
        refine lv_iload_n hx hb dX14_isChange_43 rfl (lv_at hl 0 rfl) ?_
        refine j_ldcSw hx hb hown rstr553 dX14_isChange_44 ?_
        refine va_calli (A0 := jA base) (H0 := s.heap) (va_runV (As := [.int r_9, .ref str553]) (rest := [.ref r0]) ⟨hx, hb, hml, hown, hts⟩ (uX14_memberR l dC dI ca base B hB hAp hB16 hB117 hB118 hB119 hB120 hB121 hB127 G0 H_8 r0 r_9 str553 5 (jChT "start") zm xh xn xf xt xb xe xi xg xp T9 nd9 po9 ms mh mx mf mt mb me mi mn fu) (cwV 2 hts (jgV (jWr_55 _ (List.mem_of_getElem? (i := 15) rfl)) (jWr_55 _ (List.mem_of_getElem? (i := 16) rfl)) (jWr_55 _ (List.mem_of_getElem? (i := 17) rfl)) (jWr_1 _ (List.mem_of_getElem? (i := 5) rfl)) (jWr_55 _ (List.mem_of_getElem? (i := 18) rfl))) rfl rfl rfl (by decide +kernel) ⟨by rw [← hR]; exact Nat.le_of_ble_eq_true rfl, by rw [← hR]; exact Nat.le_of_ble_eq_true rfl⟩) ⟨fun a U g mk q => by obtain ⟨q0, q1, q2, qK, q10, q11, q12, q13, q14, q15, q16, q17, q18, q19, q20, q21, q22, q23, q24⟩ := q; exact ⟨q0, q1, q2, jG.calling g mk a qK, (q10.moved (Vm.Alike.refl U.vm)), q11, q12, q13, q14, q15, q16, q17, q18, q19, q20, q21, q22, q23, q24⟩, hh_8.recv (C := RX14) (T := TX14) (N := 74) hB16 rfl (by decide) hg_r0 hK, fun U hU hW => ⟨rfl, hU, hh_8.2.1, hG.step hW hU hh_8.1, (hTstr553.moved hW.alike).kept hh_8.1.2.1, hg_r0, hg_zm, hg_xh, hg_xn, hg_xf, hg_xt, hg_xb, hg_xe, hg_xi, hg_xg, hg_xp, (hh_8.2.2.1.sub (L1 := [(r0, 16, 17, .ref zm), (r0, 16, 18, .ref xh), (r0, 16, 19, .ref xn), (r0, 16, 20, .ref xf), (r0, 16, 21, .ref xt), (r0, 16, 22, .ref xb), (r0, 16, 23, .ref xe), (r0, 16, 24, .ref xi), (r0, 16, 25, .ref xg), (r0, 16, 27, .ref xp)]) [0, 1, 2, 3, 4, 5, 6, 7, 8, 9] rfl), (hh_8.2.2.2.2.2.2.2.1.sub (L1 := [(zm, 117, 3100, ca 1, ms), (xh, 118, 3100, ca 1, mh), (xn, 119, 3100, ca 1, mx), (xf, 120, 3100, ca 1, mf), (xt, 121, 3100, ca 1, mt), (xb, 122, 3100, ca 1, mb), (xe, 123, 3100, ca 1, me), (xi, 124, 3100, ca 3, mi), (xg, 125, 3100, ca 1, mn), (xp, 127, 3300, ca 1, fu)]) [0, 1, 2, 3, 4, 5, 6, 7, 8, 9] rfl), by first | omega | (refine ⟨?_, ?_, ?_, ?_, ?_, ?_, ?_⟩ <;> (first | omega | rfl | assumption | decide | exact Or.inl rfl | exact Or.inr rfl | (simp only; omega)))⟩⟩ rfl rfl hl.1 rfl (lv_room (Nat.le_of_ble_eq_true rfl)) dX14_isChange_47 ⟨Nat.zero_le _, Nat.zero_le _⟩) hh_8.1 (fun q _ h => h) (fun q h => h) (fun r_12 u_11 t_11 H_11 locs_11 ht_11 hvm_11 hr_12 hb_11 hz_11 hk_11 hS_11 => ?_)
        rw [ht_11] at hb_11
        obtain ⟨hb_111, hb_112, hb_113, hb_114, hb_115⟩ := hb_11
        have hh_11 : jSt (dC, dI) B base G0 G0 EX14_isChangeR s.heap 0 0 [(r0, 16, 17, .ref zm), (r0, 16, 18, .ref xh), (r0, 16, 19, .ref xn), (r0, 16, 20, .ref xf), (r0, 16, 21, .ref xt), (r0, 16, 22, .ref xb), (r0, 16, 23, .ref xe), (r0, 16, 24, .ref xi), (r0, 16, 25, .ref xg), (r0, 16, 27, .ref xp)] [(zm, 117, 3100, ca 1, ms), (xh, 118, 3100, ca 1, mh), (xn, 119, 3100, ca 1, mx), (xf, 120, 3100, ca 1, mf), (xt, 121, 3100, ca 1, mt), (xb, 122, 3100, ca 1, mb), (xe, 123, 3100, ca 1, me), (xi, 124, 3100, ca 3, mi), (xg, 125, 3100, ca 1, mn), (xp, 127, 3300, ca 1, fu)] [] H_11 locs_11 := ((hh_8.call hb_111 hb_112 hb_113 hb_114 hS_11 rfl (L1 := [(r0, 16, 17, .ref zm), (r0, 16, 18, .ref xh), (r0, 16, 19, .ref xn), (r0, 16, 20, .ref xf), (r0, 16, 21, .ref xt), (r0, 16, 22, .ref xb), (r0, 16, 23, .ref xe), (r0, 16, 24, .ref xi), (r0, 16, 25, .ref xg), (r0, 16, 27, .ref xp)]) [0, 1, 2, 3, 4, 5, 6, 7, 8, 9] rfl rfl (M1 := [(zm, 117, 3100, ca 1, ms), (xh, 118, 3100, ca 1, mh), (xn, 119, 3100, ca 1, mx), (xf, 120, 3100, ca 1, mf), (xt, 121, 3100, ca 1, mt), (xb, 122, 3100, ca 1, mb), (xe, 123, 3100, ca 1, me), (xi, 124, 3100, ca 3, mi), (xg, 125, 3100, ca 1, mn), (xp, 127, 3300, ca 1, fu)]) [0, 1, 2, 3, 4, 5, 6, 7, 8, 9] rfl rfl (I1 := []) [] rfl rfl).more hb_115)
        clear hh_8 ht_11 hvm_11 hz_11 hk_11 hS_11 hb_111 hb_112 hb_113 hb_114 hb_115
        obtain ⟨hr_12_0, hr_12_1, hr_12_2⟩ := hr_12
        refine va_calli (A0 := jA base) (H0 := s.heap) (va_runV (As := [.int r_12]) (rest := []) ⟨hx, hb, hml, hown, hts⟩ (uX14_isPositionR l dC dI ca base B hB hAp hB16 hB117 hB118 hB119 hB120 hB121 hB124 hB125 hB127 G0 H_11 r0 r_12 zm xh xn xf xt xb xe xi xg xp T9 nd9 po9 ms mh mx mf mt mb me mi mn fu) (cwV 1 hts (jgV (jWr_73 _ (List.mem_of_getElem? (i := 3) rfl)) (jWr_73 _ (List.mem_of_getElem? (i := 4) rfl)) (jWr_73 _ (List.mem_of_getElem? (i := 5) rfl)) (jWr_1 _ (List.mem_of_getElem? (i := 5) rfl)) (jWr_73 _ (List.mem_of_getElem? (i := 6) rfl))) rfl rfl rfl (by decide +kernel) ⟨by rw [← hR]; exact Nat.le_of_ble_eq_true rfl, by rw [← hR]; exact Nat.le_of_ble_eq_true rfl⟩) ⟨fun a U g mk q => by obtain ⟨q0, q1, q2, qK, q10, q11, q12, q13, q14, q15, q16, q17, q18, q19, q20, q21, q22, q23⟩ := q; exact ⟨q0, q1, q2, jG.calling g mk a qK, q10, q11, q12, q13, q14, q15, q16, q17, q18, q19, q20, q21, q22, q23⟩, hh_11.recv (C := RX14) (T := TX14) (N := 74) hB16 rfl (by decide) hg_r0 hK, fun U hU hW => ⟨rfl, hU, hh_11.2.1, hG.step hW hU hh_11.1, hg_r0, hg_zm, hg_xh, hg_xn, hg_xf, hg_xt, hg_xb, hg_xe, hg_xi, hg_xg, hg_xp, (hh_11.2.2.1.sub (L1 := [(r0, 16, 17, .ref zm), (r0, 16, 18, .ref xh), (r0, 16, 19, .ref xn), (r0, 16, 20, .ref xf), (r0, 16, 21, .ref xt), (r0, 16, 22, .ref xb), (r0, 16, 23, .ref xe), (r0, 16, 24, .ref xi), (r0, 16, 25, .ref xg), (r0, 16, 27, .ref xp)]) [0, 1, 2, 3, 4, 5, 6, 7, 8, 9] rfl), (hh_11.2.2.2.2.2.2.2.1.sub (L1 := [(zm, 117, 3100, ca 1, ms), (xh, 118, 3100, ca 1, mh), (xn, 119, 3100, ca 1, mx), (xf, 120, 3100, ca 1, mf), (xt, 121, 3100, ca 1, mt), (xb, 122, 3100, ca 1, mb), (xe, 123, 3100, ca 1, me), (xi, 124, 3100, ca 3, mi), (xg, 125, 3100, ca 1, mn), (xp, 127, 3300, ca 1, fu)]) [0, 1, 2, 3, 4, 5, 6, 7, 8, 9] rfl), by first | omega | (refine ⟨?_, ?_, ?_, ?_, ?_⟩ <;> (first | omega | rfl | assumption | decide | exact Or.inl rfl | exact Or.inr rfl | (simp only; omega)))⟩⟩ rfl rfl hl.1 rfl (lv_room (Nat.le_of_ble_eq_true rfl)) dX14_isChange_50 ⟨Nat.zero_le _, Nat.zero_le _⟩) hh_11.1 (fun q _ h => h) (fun q h => h) (fun r_14 u_13 t_13 H_13 locs_13 ht_13 hvm_13 hr_14 hb_13 hz_13 hk_13 hS_13 => ?_)
        rw [ht_13] at hb_13
        obtain ⟨hb_131, hb_132, hb_133, hb_134, hb_135⟩ := hb_13
        have hh_13 : jSt (dC, dI) B base G0 G0 EX14_isChangeR s.heap 0 0 [(r0, 16, 17, .ref zm), (r0, 16, 18, .ref xh), (r0, 16, 19, .ref xn), (r0, 16, 20, .ref xf), (r0, 16, 21, .ref xt), (r0, 16, 22, .ref xb), (r0, 16, 23, .ref xe), (r0, 16, 24, .ref xi), (r0, 16, 25, .ref xg), (r0, 16, 27, .ref xp)] [(zm, 117, 3100, ca 1, ms), (xh, 118, 3100, ca 1, mh), (xn, 119, 3100, ca 1, mx), (xf, 120, 3100, ca 1, mf), (xt, 121, 3100, ca 1, mt), (xb, 122, 3100, ca 1, mb), (xe, 123, 3100, ca 1, me), (xi, 124, 3100, ca 3, mi), (xg, 125, 3100, ca 1, mn), (xp, 127, 3300, ca 1, fu)] [] H_13 locs_13 := ((hh_11.call hb_131 hb_132 hb_133 hb_134 hS_13 rfl (L1 := [(r0, 16, 17, .ref zm), (r0, 16, 18, .ref xh), (r0, 16, 19, .ref xn), (r0, 16, 20, .ref xf), (r0, 16, 21, .ref xt), (r0, 16, 22, .ref xb), (r0, 16, 23, .ref xe), (r0, 16, 24, .ref xi), (r0, 16, 25, .ref xg), (r0, 16, 27, .ref xp)]) [0, 1, 2, 3, 4, 5, 6, 7, 8, 9] rfl rfl (M1 := [(zm, 117, 3100, ca 1, ms), (xh, 118, 3100, ca 1, mh), (xn, 119, 3100, ca 1, mx), (xf, 120, 3100, ca 1, mf), (xt, 121, 3100, ca 1, mt), (xb, 122, 3100, ca 1, mb), (xe, 123, 3100, ca 1, me), (xi, 124, 3100, ca 3, mi), (xg, 125, 3100, ca 1, mn), (xp, 127, 3300, ca 1, fu)]) [0, 1, 2, 3, 4, 5, 6, 7, 8, 9] rfl rfl (I1 := []) [] rfl rfl).more hb_135)
        clear hh_11 ht_13 hvm_13 hz_13 hk_13 hS_13 hb_131 hb_132 hb_133 hb_134 hb_135
        obtain ⟨hr_14b, hr_14p⟩ := hr_14
        have hs50 := hr_14p
        have hr_14' := jb_01 hr_14b
        refine lv_if_eq (tgt := 75) hx hb dX14_isChange_53 (by decide) (fun c_15 => ?_) (fun c_15 => ?_)
        · skip
          have c_15' : r_14.toInt = 0 := jb_eq (rfl) ((by decide)) c_15
          first | (have hr_14pq := hr_14p.resolve_left (by omega); clear hr_14p) | (have hr_14pq := hr_14p.resolve_right (by omega); clear hr_14p) | try clear hr_14p
          refine lv_iconst (v := 0) hx hb dX14_isChange_75 (by decide) ?_
          rw [hQ]
          exact W.zret (v := 0) hx hb hr (jb_nz (Or.inl rfl)) (fun t ht hW => ⟨⟨0, (), rfl, ⟨(Or.inl rfl), by refine Or.inr ⟨by omega, fun q => ?_⟩; have h9 := q.2.resolve_left (by rw [← hr_9_0]; omega); rw [← hr_9_0] at h9; have h8 := h9.1; rw [← hr_12_0] at h8; exact (hs50.resolve_left (fun q => by omega)).2 h8⟩, hh_13.rt (M1 := []) [] rfl ht⟩, by rw [ht]; try exact hh_13.1.1, fun q h9 hq => by rw [ht]; try exact hh_13.1.2.1 q h9 hq⟩) hh_13.1.2.2 dX14_isChange_76
        · skip
          have c_15' : r_14.toInt ≠ 0 := jb_eq_n (rfl) ((by decide)) c_15
          first | (have hr_14pq := hr_14p.resolve_left (by omega); clear hr_14p) | (have hr_14pq := hr_14p.resolve_right (by omega); clear hr_14p) | try clear hr_14p
          refine lv_aload_n hx hb dX14_isChange_56 rfl (lv_at hl 1 rfl) ?_
          refine lv_aload_n hx hb dX14_isChange_57 rfl (lv_at hl 1 rfl) ?_
          refine lv_iload_n hx hb dX14_isChange_58 rfl (lv_at hl 0 rfl) ?_
          refine j_ldcSw hx hb hown rstr555 dX14_isChange_59 ?_
          refine va_calli (A0 := jA base) (H0 := s.heap) (va_runV (As := [.int r_9, .ref str555]) (rest := [.ref r0]) ⟨hx, hb, hml, hown, hts⟩ (uX14_memberR l dC dI ca base B hB hAp hB16 hB117 hB118 hB119 hB120 hB121 hB127 G0 H_13 r0 r_9 str555 3 (jChT "end") zm xh xn xf xt xb xe xi xg xp T9 nd9 po9 ms mh mx mf mt mb me mi mn fu) (cwV 2 hts (jgV (jWr_55 _ (List.mem_of_getElem? (i := 15) rfl)) (jWr_55 _ (List.mem_of_getElem? (i := 16) rfl)) (jWr_55 _ (List.mem_of_getElem? (i := 17) rfl)) (jWr_1 _ (List.mem_of_getElem? (i := 5) rfl)) (jWr_55 _ (List.mem_of_getElem? (i := 18) rfl))) rfl rfl rfl (by decide +kernel) ⟨by rw [← hR]; exact Nat.le_of_ble_eq_true rfl, by rw [← hR]; exact Nat.le_of_ble_eq_true rfl⟩) ⟨fun a U g mk q => by obtain ⟨q0, q1, q2, qK, q10, q11, q12, q13, q14, q15, q16, q17, q18, q19, q20, q21, q22, q23, q24⟩ := q; exact ⟨q0, q1, q2, jG.calling g mk a qK, (q10.moved (Vm.Alike.refl U.vm)), q11, q12, q13, q14, q15, q16, q17, q18, q19, q20, q21, q22, q23, q24⟩, hh_13.recv (C := RX14) (T := TX14) (N := 74) hB16 rfl (by decide) hg_r0 hK, fun U hU hW => ⟨rfl, hU, hh_13.2.1, hG.step hW hU hh_13.1, (hTstr555.moved hW.alike).kept hh_13.1.2.1, hg_r0, hg_zm, hg_xh, hg_xn, hg_xf, hg_xt, hg_xb, hg_xe, hg_xi, hg_xg, hg_xp, (hh_13.2.2.1.sub (L1 := [(r0, 16, 17, .ref zm), (r0, 16, 18, .ref xh), (r0, 16, 19, .ref xn), (r0, 16, 20, .ref xf), (r0, 16, 21, .ref xt), (r0, 16, 22, .ref xb), (r0, 16, 23, .ref xe), (r0, 16, 24, .ref xi), (r0, 16, 25, .ref xg), (r0, 16, 27, .ref xp)]) [0, 1, 2, 3, 4, 5, 6, 7, 8, 9] rfl), (hh_13.2.2.2.2.2.2.2.1.sub (L1 := [(zm, 117, 3100, ca 1, ms), (xh, 118, 3100, ca 1, mh), (xn, 119, 3100, ca 1, mx), (xf, 120, 3100, ca 1, mf), (xt, 121, 3100, ca 1, mt), (xb, 122, 3100, ca 1, mb), (xe, 123, 3100, ca 1, me), (xi, 124, 3100, ca 3, mi), (xg, 125, 3100, ca 1, mn), (xp, 127, 3300, ca 1, fu)]) [0, 1, 2, 3, 4, 5, 6, 7, 8, 9] rfl), by first | omega | (refine ⟨?_, ?_, ?_, ?_, ?_, ?_, ?_⟩ <;> (first | omega | rfl | assumption | decide | exact Or.inl rfl | exact Or.inr rfl | (simp only; omega)))⟩⟩ rfl rfl hl.1 rfl (lv_room (Nat.le_of_ble_eq_true rfl)) dX14_isChange_62 ⟨Nat.zero_le _, Nat.zero_le _⟩) hh_13.1 (fun q _ h => h) (fun q h => h) (fun r_17 u_16 t_16 H_16 locs_16 ht_16 hvm_16 hr_17 hb_16 hz_16 hk_16 hS_16 => ?_)
          rw [ht_16] at hb_16
          obtain ⟨hb_161, hb_162, hb_163, hb_164, hb_165⟩ := hb_16
          have hh_16 : jSt (dC, dI) B base G0 G0 EX14_isChangeR s.heap 0 0 [(r0, 16, 17, .ref zm), (r0, 16, 18, .ref xh), (r0, 16, 19, .ref xn), (r0, 16, 20, .ref xf), (r0, 16, 21, .ref xt), (r0, 16, 22, .ref xb), (r0, 16, 23, .ref xe), (r0, 16, 24, .ref xi), (r0, 16, 25, .ref xg), (r0, 16, 27, .ref xp)] [(zm, 117, 3100, ca 1, ms), (xh, 118, 3100, ca 1, mh), (xn, 119, 3100, ca 1, mx), (xf, 120, 3100, ca 1, mf), (xt, 121, 3100, ca 1, mt), (xb, 122, 3100, ca 1, mb), (xe, 123, 3100, ca 1, me), (xi, 124, 3100, ca 3, mi), (xg, 125, 3100, ca 1, mn), (xp, 127, 3300, ca 1, fu)] [] H_16 locs_16 := ((hh_13.call hb_161 hb_162 hb_163 hb_164 hS_16 rfl (L1 := [(r0, 16, 17, .ref zm), (r0, 16, 18, .ref xh), (r0, 16, 19, .ref xn), (r0, 16, 20, .ref xf), (r0, 16, 21, .ref xt), (r0, 16, 22, .ref xb), (r0, 16, 23, .ref xe), (r0, 16, 24, .ref xi), (r0, 16, 25, .ref xg), (r0, 16, 27, .ref xp)]) [0, 1, 2, 3, 4, 5, 6, 7, 8, 9] rfl rfl (M1 := [(zm, 117, 3100, ca 1, ms), (xh, 118, 3100, ca 1, mh), (xn, 119, 3100, ca 1, mx), (xf, 120, 3100, ca 1, mf), (xt, 121, 3100, ca 1, mt), (xb, 122, 3100, ca 1, mb), (xe, 123, 3100, ca 1, me), (xi, 124, 3100, ca 3, mi), (xg, 125, 3100, ca 1, mn), (xp, 127, 3300, ca 1, fu)]) [0, 1, 2, 3, 4, 5, 6, 7, 8, 9] rfl rfl (I1 := []) [] rfl rfl).more hb_165)
          clear hh_13 ht_16 hvm_16 hz_16 hk_16 hS_16 hb_161 hb_162 hb_163 hb_164 hb_165
          obtain ⟨hr_17_0, hr_17_1, hr_17_2⟩ := hr_17
          refine va_calli (A0 := jA base) (H0 := s.heap) (va_runV (As := [.int r_17]) (rest := []) ⟨hx, hb, hml, hown, hts⟩ (uX14_isPositionR l dC dI ca base B hB hAp hB16 hB117 hB118 hB119 hB120 hB121 hB124 hB125 hB127 G0 H_16 r0 r_17 zm xh xn xf xt xb xe xi xg xp T9 nd9 po9 ms mh mx mf mt mb me mi mn fu) (cwV 1 hts (jgV (jWr_73 _ (List.mem_of_getElem? (i := 3) rfl)) (jWr_73 _ (List.mem_of_getElem? (i := 4) rfl)) (jWr_73 _ (List.mem_of_getElem? (i := 5) rfl)) (jWr_1 _ (List.mem_of_getElem? (i := 5) rfl)) (jWr_73 _ (List.mem_of_getElem? (i := 6) rfl))) rfl rfl rfl (by decide +kernel) ⟨by rw [← hR]; exact Nat.le_of_ble_eq_true rfl, by rw [← hR]; exact Nat.le_of_ble_eq_true rfl⟩) ⟨fun a U g mk q => by obtain ⟨q0, q1, q2, qK, q10, q11, q12, q13, q14, q15, q16, q17, q18, q19, q20, q21, q22, q23⟩ := q; exact ⟨q0, q1, q2, jG.calling g mk a qK, q10, q11, q12, q13, q14, q15, q16, q17, q18, q19, q20, q21, q22, q23⟩, hh_16.recv (C := RX14) (T := TX14) (N := 74) hB16 rfl (by decide) hg_r0 hK, fun U hU hW => ⟨rfl, hU, hh_16.2.1, hG.step hW hU hh_16.1, hg_r0, hg_zm, hg_xh, hg_xn, hg_xf, hg_xt, hg_xb, hg_xe, hg_xi, hg_xg, hg_xp, (hh_16.2.2.1.sub (L1 := [(r0, 16, 17, .ref zm), (r0, 16, 18, .ref xh), (r0, 16, 19, .ref xn), (r0, 16, 20, .ref xf), (r0, 16, 21, .ref xt), (r0, 16, 22, .ref xb), (r0, 16, 23, .ref xe), (r0, 16, 24, .ref xi), (r0, 16, 25, .ref xg), (r0, 16, 27, .ref xp)]) [0, 1, 2, 3, 4, 5, 6, 7, 8, 9] rfl), (hh_16.2.2.2.2.2.2.2.1.sub (L1 := [(zm, 117, 3100, ca 1, ms), (xh, 118, 3100, ca 1, mh), (xn, 119, 3100, ca 1, mx), (xf, 120, 3100, ca 1, mf), (xt, 121, 3100, ca 1, mt), (xb, 122, 3100, ca 1, mb), (xe, 123, 3100, ca 1, me), (xi, 124, 3100, ca 3, mi), (xg, 125, 3100, ca 1, mn), (xp, 127, 3300, ca 1, fu)]) [0, 1, 2, 3, 4, 5, 6, 7, 8, 9] rfl), by first | omega | (refine ⟨?_, ?_, ?_, ?_, ?_⟩ <;> (first | omega | rfl | assumption | decide | exact Or.inl rfl | exact Or.inr rfl | (simp only; omega)))⟩⟩ rfl rfl hl.1 rfl (lv_room (Nat.le_of_ble_eq_true rfl)) dX14_isChange_65 ⟨Nat.zero_le _, Nat.zero_le _⟩) hh_16.1 (fun q _ h => h) (fun q h => h) (fun r_19 u_18 t_18 H_18 locs_18 ht_18 hvm_18 hr_19 hb_18 hz_18 hk_18 hS_18 => ?_)
          rw [ht_18] at hb_18
          obtain ⟨hb_181, hb_182, hb_183, hb_184, hb_185⟩ := hb_18
          have hh_18 : jSt (dC, dI) B base G0 G0 EX14_isChangeR s.heap 0 0 [(r0, 16, 17, .ref zm), (r0, 16, 18, .ref xh), (r0, 16, 19, .ref xn), (r0, 16, 20, .ref xf), (r0, 16, 21, .ref xt), (r0, 16, 22, .ref xb), (r0, 16, 23, .ref xe), (r0, 16, 24, .ref xi), (r0, 16, 25, .ref xg), (r0, 16, 27, .ref xp)] [(zm, 117, 3100, ca 1, ms), (xh, 118, 3100, ca 1, mh), (xn, 119, 3100, ca 1, mx), (xf, 120, 3100, ca 1, mf), (xt, 121, 3100, ca 1, mt), (xb, 122, 3100, ca 1, mb), (xe, 123, 3100, ca 1, me), (xi, 124, 3100, ca 3, mi), (xg, 125, 3100, ca 1, mn), (xp, 127, 3300, ca 1, fu)] [] H_18 locs_18 := ((hh_16.call hb_181 hb_182 hb_183 hb_184 hS_18 rfl (L1 := [(r0, 16, 17, .ref zm), (r0, 16, 18, .ref xh), (r0, 16, 19, .ref xn), (r0, 16, 20, .ref xf), (r0, 16, 21, .ref xt), (r0, 16, 22, .ref xb), (r0, 16, 23, .ref xe), (r0, 16, 24, .ref xi), (r0, 16, 25, .ref xg), (r0, 16, 27, .ref xp)]) [0, 1, 2, 3, 4, 5, 6, 7, 8, 9] rfl rfl (M1 := [(zm, 117, 3100, ca 1, ms), (xh, 118, 3100, ca 1, mh), (xn, 119, 3100, ca 1, mx), (xf, 120, 3100, ca 1, mf), (xt, 121, 3100, ca 1, mt), (xb, 122, 3100, ca 1, mb), (xe, 123, 3100, ca 1, me), (xi, 124, 3100, ca 3, mi), (xg, 125, 3100, ca 1, mn), (xp, 127, 3300, ca 1, fu)]) [0, 1, 2, 3, 4, 5, 6, 7, 8, 9] rfl rfl (I1 := []) [] rfl rfl).more hb_185)
          clear hh_16 ht_18 hvm_18 hz_18 hk_18 hS_18 hb_181 hb_182 hb_183 hb_184 hb_185
          obtain ⟨hr_19b, hr_19p⟩ := hr_19
          have hs65 := hr_19p
          have hr_19' := jb_01 hr_19b
          refine lv_if_eq (tgt := 75) hx hb dX14_isChange_68 (by decide) (fun c_20 => ?_) (fun c_20 => ?_)
          · skip
            have c_20' : r_19.toInt = 0 := jb_eq (rfl) ((by decide)) c_20
            first | (have hr_19pq := hr_19p.resolve_left (by omega); clear hr_19p) | (have hr_19pq := hr_19p.resolve_right (by omega); clear hr_19p) | try clear hr_19p
            refine lv_iconst (v := 0) hx hb dX14_isChange_75 (by decide) ?_
            rw [hQ]
            exact W.zret (v := 0) hx hb hr (jb_nz (Or.inl rfl)) (fun t ht hW => ⟨⟨0, (), rfl, ⟨(Or.inl rfl), by refine Or.inr ⟨by omega, fun q => ?_⟩; have h9 := q.2.resolve_left (by rw [← hr_9_0]; omega); rw [← hr_9_0] at h9; have h8 := h9.2; rw [← hr_17_0] at h8; exact (hs65.resolve_left (fun q => by omega)).2 h8⟩, hh_18.rt (M1 := []) [] rfl ht⟩, by rw [ht]; try exact hh_18.1.1, fun q h9 hq => by rw [ht]; try exact hh_18.1.2.1 q h9 hq⟩) hh_18.1.2.2 dX14_isChange_76
          · skip
            have c_20' : r_19.toInt ≠ 0 := jb_eq_n (rfl) ((by decide)) c_20
            first | (have hr_19pq := hr_19p.resolve_left (by omega); clear hr_19p) | (have hr_19pq := hr_19p.resolve_right (by omega); clear hr_19p) | try clear hr_19p
            refine lv_iconst (v := 1) hx hb dX14_isChange_71 (by decide) ?_
            refine lv_goto (tgt := 76) hx hb dX14_isChange_72 (by decide) ?_
            rw [hQ]
            exact W.zret (v := 1) hx hb hr (jb_nz (Or.inr rfl)) (fun t ht hW => ⟨⟨1, (), rfl, ⟨(Or.inr rfl), by refine Or.inl ⟨by omega, (by rw [← hr_4_0]; exact (hs20.resolve_right (fun q => by omega)).2), Or.inr ⟨?_, ?_⟩⟩; (rw [← hr_9_0, ← hr_12_0]; exact (hs50.resolve_right (fun q => by omega)).2); (rw [← hr_9_0, ← hr_17_0]; exact (hs65.resolve_right (fun q => by omega)).2)⟩, hh_18.rt (M1 := []) [] rfl ht⟩, by rw [ht]; try exact hh_18.1.1, fun q h9 hq => by rw [ht]; try exact hh_18.1.2.1 q h9 hq⟩) hh_18.1.2.2 dX14_isChange_76
    · skip
      have c_7' : r_6.toInt = 0 := jb_ne_n (rfl) ((by decide)) c_7
      first | (have hr_6pq := hr_6p.resolve_left (by omega); clear hr_6p) | (have hr_6pq := hr_6p.resolve_right (by omega); clear hr_6p) | try clear hr_6p
      refine lv_iconst (v := 0) hx hb dX14_isChange_26 (by decide) ?_
      rw [hQ]
      exact W.zret (v := 0) hx hb hr (jb_nz (Or.inl rfl)) (fun t ht hW => ⟨⟨0, (), rfl, ⟨(Or.inl rfl), by refine Or.inr ⟨by omega, fun q => by unfold jdCk at q; have h9 := q.1; rw [← hr_4_0] at h9; exact (hs20.resolve_left (fun q => by omega)).2 h9⟩⟩, hh_5.rt (M1 := []) [] rfl ht⟩, by rw [ht]; try exact hh_5.1.1, fun q h9 hq => by rw [ht]; try exact hh_5.1.2.1 q h9 hq⟩) hh_5.1.2.2 dX14_isChange_27
end
