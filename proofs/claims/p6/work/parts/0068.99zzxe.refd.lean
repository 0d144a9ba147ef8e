section
def EX14_makeR : List (Nat × Nat) := [(16, 44), (101, 0), (112, 0)]
set_option maxHeartbeats 4000000 in
set_option maxRecDepth 20000 in
theorem uX14_makeR (l : Launch) (dC : Nat → ClassId) (dI : Nat → Nat → Nat) (ca : Nat → ClassId) (base : Nat) (B : jF) (hB : jBok B) (hAp : jAp (dC, dI)) (hB16 : ∀ n G a H, B 16 n G a H ↔ jOb (dC, dI) 16 74 (F16 n G) a H) (hB101 : ∀ n G a H, B 101 n G a H ↔ jAr (dC, dI) (ca 1) (fun j z => True) n a H) (hB112 : ∀ n G a H, B 112 n G a H ↔ jAr (dC, dI) (ca 1) (fun j z => True) n a H) (hB117 : ∀ n G a H, B 117 n G a H ↔ jAr (dC, dI) (ca 1) (fun j z => True) n a H) (hB118 : ∀ n G a H, B 118 n G a H ↔ jAr (dC, dI) (ca 1) (fun j z => -1 ≤ z.toInt ∧ z.toInt ≤ 3099) n a H) (hB119 : ∀ n G a H, B 119 n G a H ↔ jAr (dC, dI) (ca 1) (fun j z => z.toInt = -1 ∨ z.toInt = 0 ∨ ((j : Nat) < z.toInt ∧ z.toInt ≤ 3099)) n a H) (hB120 : ∀ n G a H, B 120 n G a H ↔ jAr (dC, dI) (ca 1) (fun j z => 0 ≤ z.toInt ∧ z.toInt ≤ 3300) n a H) (hB121 : ∀ n G a H, B 121 n G a H ↔ jAr (dC, dI) (ca 1) (fun j z => 0 ≤ z.toInt ∧ z.toInt ≤ 3300) n a H) (hB122 : ∀ n G a H, B 122 n G a H ↔ jAr (dC, dI) (ca 1) (fun j z => 0 ≤ z.toInt ∧ z.toInt ≤ 3100) n a H) (hB123 : ∀ n G a H, B 123 n G a H ↔ jAr (dC, dI) (ca 1) (fun j z => 0 ≤ z.toInt ∧ z.toInt ≤ 3100) n a H) (hB125 : ∀ n G a H, B 125 n G a H ↔ jAr (dC, dI) (ca 1) (fun j z => True) n a H) (hB127 : ∀ n G a H, B 127 n G a H ↔ jAr (dC, dI) (ca 1) (fun j z => True) n a H) (G0 : jT) (H0 : Heap) (r0 : Nat) (a1 : Int32) (zm : Nat) (xh : Nat) (xn : Nat) (xf : Nat) (xt : Nat) (xb : Nat) (xe : Nat) (xi : Nat) (xg : Nat) (xp : Nat) (yg : Nat) (pu : Int32) (yl : Nat) (T9 : Nat → Int → Int) (nd9 po9 : Int) (f0 : Nat → Int32) (ms : Nat → Int32) (mh : Nat → Int32) (mx : Nat → Int32) (mf : Nat → Int32) (mt : Nat → Int32) (mb : Nat → Int32) (me : Nat → Int32) (mi : Nat → Int32) (mn : Nat → Int32) (fu : Nat → Int32) (fg : Nat → Int32) (fl : Nat → Int32) : Met l yX14_make (jw yX14_make cX14_make 10 (some .boolean)) ({ frames := 7, cells := 0, slots := 0, locals := 210 }) (va_Pc [.ref r0, .int a1] (fun U => U.heap = H0 ∧ jX B base G0 [] H0 ∧ jG dC dI ca base U ∧ G0 r0 = some (16, 0) ∧ G0 zm = some (117, 3100) ∧ G0 xh = some (118, 3100) ∧ G0 xn = some (119, 3100) ∧ G0 xf = some (120, 3100) ∧ G0 xt = some (121, 3100) ∧ G0 xb = some (122, 3100) ∧ G0 xe = some (123, 3100) ∧ G0 xi = some (124, 3100) ∧ G0 xg = some (125, 3100) ∧ G0 xp = some (127, 3300) ∧ G0 yg = some (112, 3100) ∧ G0 yl = some (101, 1500) ∧ jP (dC, dI) G0 H0 [(r0, 16, 17, .ref zm), (r0, 16, 18, .ref xh), (r0, 16, 19, .ref xn), (r0, 16, 20, .ref xf), (r0, 16, 21, .ref xt), (r0, 16, 22, .ref xb), (r0, 16, 23, .ref xe), (r0, 16, 24, .ref xi), (r0, 16, 25, .ref xg), (r0, 16, 27, .ref xp), (r0, 16, 43, .ref yg), (r0, 16, 44, .int pu), (r0, 16, 45, .ref yl)] ∧ jMc (dC, dI) G0 H0 [(zm, 117, 3100, ca 1, ms), (xh, 118, 3100, ca 1, mh), (xn, 119, 3100, ca 1, mx), (xf, 120, 3100, ca 1, mf), (xt, 121, 3100, ca 1, mt), (xb, 122, 3100, ca 1, mb), (xe, 123, 3100, ca 1, me), (xi, 124, 3100, ca 3, mi), (xg, 125, 3100, ca 1, mn), (xp, 127, 3300, ca 1, fu), (yg, 112, 3100, ca 1, fg), (yl, 101, 1500, ca 1, fl)] ∧ 0 ≤ nd9 ∧ nd9 ≤ 3100 ∧ jjRB T9 nd9 po9 ms mh mx mf mt mb me mi mn fu ∧ 0 ≤ a1.toInt ∧ a1.toInt < nd9 ∧ jSo mx 0 = -1 ∧ jdCk T9 nd9 a1.toInt ∧ 0 ≤ pu.toInt ∧ pu.toInt ≤ 1500 ∧ f0 = fg)) (va_Qi (S := Int32 × (Nat → Int32) × (Nat → Int32)) (fun r u => (r = 0 ∨ r = 1) ∧ (jdA T9 nd9 pu.toInt a1.toInt f0 u.2.1 r.toInt u.1.toInt ∧ 0 ≤ u.1.toInt ∧ u.1.toInt ≤ 1500)) (fun u t => jRt (dC, dI) B base G0 EX14_makeR H0 [(r0, 16, 44, .int u.1)] t.heap ∧ jMc (dC, dI) G0 t.heap [(yg, 112, 3100, ca 1, u.2.1), (yl, 101, 1500, ca 1, u.2.2)]) (jA base)) 0 0 (jA base) := by
  refine Met.ofW (cc := cX14_make) (maxL := 10) (ret := (some .boolean)) (by decide) rfl ?_
  intro p e s m args below meth c s₁ Bd hml hv
  obtain ⟨rfl, hH0, hX, hG, hg_r0, hg_zm, hg_xh, hg_xn, hg_xf, hg_xt, hg_xb, hg_xe, hg_xi, hg_xg, hg_xp, hg_yg, hg_yl, hP0, hM0, hp0, hp1, hp2, hp3, hp4, hp5, hp6, hp7, hp8, hp9⟩ := hv
  have hK := hG.1
  have hx := Bd.exec
  have hb := Bd.bytes
  have hr := Bd.returns
  have hts := atoms_spec (ws := (jw yX14_make cX14_make 10 (some .boolean))) Bd.pre
  have htw : ∀ w ∈ jWl, w.before _ s = true := fun w h => hts w (List.mem_cons_of_mem _ h)
  have hown : s.vm.findClass RX14 = some m.cls := findClass_of_methodNamed Bd.named
  have hlocks := Bd.notSynchronized
  obtain ⟨Q, hQ⟩ : ∃ Q, Q = MQ below (va_Qi (S := Int32 × (Nat → Int32) × (Nat → Int32)) (fun r u => (r = 0 ∨ r = 1) ∧ (jdA T9 nd9 pu.toInt a1.toInt f0 u.2.1 r.toInt u.1.toInt ∧ 0 ≤ u.1.toInt ∧ u.1.toInt ≤ 1500)) (fun u t => jRt (dC, dI) B base G0 EX14_makeR H0 [(r0, 16, 44, .int u.1)] t.heap ∧ jMc (dC, dI) G0 t.heap [(yg, 112, 3100, ca 1, u.2.1), (yl, 101, 1500, ca 1, u.2.2)]) (jA base)) ([.ref r0, .int a1] : List Value).toArray s 0 0 (jA base) := ⟨_, rfl⟩
  rw [← hQ]
  have hl := lv_entry ([.ref r0, .int a1]) (n := 10) (Nat.le_of_ble_eq_true rfl)
  rw [lg_entry_eq]
  generalize (lg_sl ([.ref r0, .int a1]) ++ List.replicate (10 - (lg_sl ([.ref r0, .int a1])).length) Slot.unset).toArray = ls at hl ⊢
  have hl : lv_has ls 10 [(0, .ref r0), (1, .int a1)] := hl
  generalize hR : (headSpec (jw yX14_make cX14_make 10 (some .boolean)) ({ frames := 7, cells := 0, slots := 0, locals := 210 })).room = R
  subst hH0
  have hh : jSt (dC, dI) B base G0 G0 EX14_makeR s.heap 0 0 [(r0, 16, 17, .ref zm), (r0, 16, 18, .ref xh), (r0, 16, 19, .ref xn), (r0, 16, 20, .ref xf), (r0, 16, 21, .ref xt), (r0, 16, 22, .ref xb), (r0, 16, 23, .ref xe), (r0, 16, 24, .ref xi), (r0, 16, 25, .ref xg), (r0, 16, 27, .ref xp), (r0, 16, 43, .ref yg), (r0, 16, 44, .int pu), (r0, 16, 45, .ref yl)] [(zm, 117, 3100, ca 1, ms), (xh, 118, 3100, ca 1, mh), (xn, 119, 3100, ca 1, mx), (xf, 120, 3100, ca 1, mf), (xt, 121, 3100, ca 1, mt), (xb, 122, 3100, ca 1, mb), (xe, 123, 3100, ca 1, me), (xi, 124, 3100, ca 3, mi), (xg, 125, 3100, ca 1, mn), (xp, 127, 3300, ca 1, fu), (yg, 112, 3100, ca 1, fg), (yl, 101, 1500, ca 1, fl)] [] s.heap [] := jSt.start hX hP0 hM0 jIs.nil
  clear hX hP0
  have hk0 : (0 : Int32).toInt = 0 := by decide
  have hk1 : (1 : Int32).toInt = 1 := by decide
  have hk1500 : (1500 : Int32).toInt = 1500 := by decide
  have hly_16_22 := htw (u_lay RX14 TX14 22) (jWc_wsX140 _ (u_in_lay (by decide)))
  have hly_16_23 := htw (u_lay RX14 TX14 23) (jWc_wsX140 _ (u_in_lay (by decide)))
  have hly_16_27 := htw (u_lay RX14 TX14 27) (jWc_wsX140 _ (u_in_lay (by decide)))
  have hly_16_43 := htw (u_lay RX14 TX14 43) (jWc_wsX140 _ (u_in_lay (by decide)))
  have hly_16_44 := htw (u_lay RX14 TX14 44) (jWc_wsX140 _ (u_in_lay (by decide)))
  have hly_16_45 := htw (u_lay RX14 TX14 45) (jWc_wsX140 _ (u_in_lay (by decide)))
  obtain ⟨str519, rstr519, hstr5190⟩ := hG.strT (o := RX14) (k := 519) (tx := "text") (List.mem_of_getElem? (i := 2489) (by decide +kernel))
  have hTstr519 : jStrF base str519 4 (jChT "text") s s.heap := hstr5190.F (by decide +kernel)
  have hstr519 : jStr base str519 4 s s.heap := hTstr519.str
  obtain ⟨str548, rstr548, hstr5480⟩ := hG.strT (o := RX14) (k := 548) (tx := "range") (List.mem_of_getElem? (i := 2889) (by decide +kernel))
  have hTstr548 : jStrF base str548 5 (jChT "range") s s.heap := hstr5480.F (by decide +kernel)
  have hstr548 : jStr base str548 5 s s.heap := hTstr548.str
  have hlk_55 := (htw (.fieldLink RX14 55 "ProofServerModel" "to" "[I") (jWr_11 _ (List.mem_of_getElem? (i := 10) rfl)))
  have hlk_52 := (htw (.fieldLink RX14 52 "ProofServerModel" "from" "[I") (jWr_11 _ (List.mem_of_getElem? (i := 9) rfl)))
  have hlk_550 := (htw (.fieldLink RX14 550 "ProofServerModel" "changedUnits" "I") (jWr_72 _ (List.mem_of_getElem? (i := 22) rfl)))
  obtain ⟨str553, rstr553, hstr5530⟩ := hG.strT (o := RX14) (k := 553) (tx := "start") (List.mem_of_getElem? (i := 2890) (by decide +kernel))
  have hTstr553 : jStrF base str553 5 (jChT "start") s s.heap := hstr5530.F (by decide +kernel)
  have hstr553 : jStr base str553 5 s s.heap := hTstr553.str
  obtain ⟨str555, rstr555, hstr5550⟩ := hG.strT (o := RX14) (k := 555) (tx := "end") (List.mem_of_getElem? (i := 2897) (by decide +kernel))
  have hTstr555 : jStrF base str555 3 (jChT "end") s s.heap := hstr5550.F (by decide +kernel)
  have hstr555 : jStr base str555 3 s s.heap := hTstr555.str
  have hlk_78 := (htw (.fieldLink RX14 78 "ProofServerModel" "changed" "[I") (jWr_11 _ (List.mem_of_getElem? (i := 20) rfl)))
  have hlk_81 := (htw (.fieldLink RX14 81 "ProofServerModel" "tail" "[I") (jWr_11 _ (List.mem_of_getElem? (i := 21) rfl)))
  have hlk_65 := (htw (.fieldLink RX14 65 "ProofServerModel" "pool" "[I") (jWr_11 _ (List.mem_of_getElem? (i := 14) rfl)))
  have hrg_a1 := jb_rng a1
  refine lv_aload_n hx hb dX14_make_0 rfl (lv_at hl 0 rfl) ?_
  refine lv_iload_n hx hb dX14_make_1 rfl (lv_at hl 1 rfl) ?_
  refine j_ldcSw hx hb hown rstr519 dX14_make_2 ?_
  refine va_calli (A0 := jA base) (H0 := s.heap) (va_runV (As := [.int a1, .ref str519]) (rest := []) ⟨hx, hb, hml, hown, hts⟩ (uX14_memberR l dC dI ca base B hB hAp hB16 hB117 hB118 hB119 hB120 hB121 hB127 G0 s.heap r0 a1 str519 4 (jChT "text") zm xh xn xf xt xb xe xi xg xp T9 nd9 po9 ms mh mx mf mt mb me mi mn fu) (cwV 2 hts (jgV (jWr_55 _ (List.mem_of_getElem? (i := 15) rfl)) (jWr_55 _ (List.mem_of_getElem? (i := 16) rfl)) (jWr_55 _ (List.mem_of_getElem? (i := 17) rfl)) (jWr_1 _ (List.mem_of_getElem? (i := 5) rfl)) (jWr_55 _ (List.mem_of_getElem? (i := 18) rfl))) rfl rfl rfl (by decide +kernel) ⟨by rw [← hR]; exact Nat.le_of_ble_eq_true rfl, by rw [← hR]; exact Nat.le_of_ble_eq_true rfl⟩) ⟨fun a U g mk q => by obtain ⟨q0, q1, q2, qK, q10, q11, q12, q13, q14, q15, q16, q17, q18, q19, q20, q21, q22, q23, q24⟩ := q; exact ⟨q0, q1, q2, jG.calling g mk a qK, (q10.moved (Vm.Alike.refl U.vm)), q11, q12, q13, q14, q15, q16, q17, q18, q19, q20, q21, q22, q23, q24⟩, hh.recv (C := RX14) (T := TX14) (N := 74) hB16 rfl (by decide) hg_r0 hK, fun U hU hW => ⟨rfl, hU, hh.2.1, hG.step hW hU hh.1, (hTstr519.moved hW.alike).kept hh.1.2.1, hg_r0, hg_zm, hg_xh, hg_xn, hg_xf, hg_xt, hg_xb, hg_xe, hg_xi, hg_xg, hg_xp, (hh.2.2.1.sub (L1 := [(r0, 16, 17, .ref zm), (r0, 16, 18, .ref xh), (r0, 16, 19, .ref xn), (r0, 16, 20, .ref xf), (r0, 16, 21, .ref xt), (r0, 16, 22, .ref xb), (r0, 16, 23, .ref xe), (r0, 16, 24, .ref xi), (r0, 16, 25, .ref xg), (r0, 16, 27, .ref xp)]) [0, 1, 2, 3, 4, 5, 6, 7, 8, 9] rfl), (hh.2.2.2.2.2.2.2.1.sub (L1 := [(zm, 117, 3100, ca 1, ms), (xh, 118, 3100, ca 1, mh), (xn, 119, 3100, ca 1, mx), (xf, 120, 3100, ca 1, mf), (xt, 121, 3100, ca 1, mt), (xb, 122, 3100, ca 1, mb), (xe, 123, 3100, ca 1, me), (xi, 124, 3100, ca 3, mi), (xg, 125, 3100, ca 1, mn), (xp, 127, 3300, ca 1, fu)]) [0, 1, 2, 3, 4, 5, 6, 7, 8, 9] rfl), by first | omega | (refine ⟨?_, ?_, ?_, ?_, ?_, ?_, ?_⟩ <;> (first | omega | rfl | assumption | decide | exact Or.inl rfl | exact Or.inr rfl | (simp only; omega)))⟩⟩ rfl rfl hl.1 rfl (lv_room (Nat.le_of_ble_eq_true rfl)) dX14_make_5 ⟨Nat.zero_le _, Nat.zero_le _⟩) hh.1 (fun q _ h => h) (fun q h => h) (fun r_2 u_1 t_1 H_1 locs_1 ht_1 hvm_1 hr_2 hb_1 hz_1 hk_1 hS_1 => ?_)
  rw [ht_1] at hb_1
  obtain ⟨hb_11, hb_12, hb_13, hb_14, hb_15⟩ := hb_1
  have hh_1 : jSt (dC, dI) B base G0 G0 EX14_makeR s.heap 0 0 [(r0, 16, 17, .ref zm), (r0, 16, 18, .ref xh), (r0, 16, 19, .ref xn), (r0, 16, 20, .ref xf), (r0, 16, 21, .ref xt), (r0, 16, 22, .ref xb), (r0, 16, 23, .ref xe), (r0, 16, 24, .ref xi), (r0, 16, 25, .ref xg), (r0, 16, 27, .ref xp), (r0, 16, 43, .ref yg), (r0, 16, 44, .int pu), (r0, 16, 45, .ref yl)] [(zm, 117, 3100, ca 1, ms), (xh, 118, 3100, ca 1, mh), (xn, 119, 3100, ca 1, mx), (xf, 120, 3100, ca 1, mf), (xt, 121, 3100, ca 1, mt), (xb, 122, 3100, ca 1, mb), (xe, 123, 3100, ca 1, me), (xi, 124, 3100, ca 3, mi), (xg, 125, 3100, ca 1, mn), (xp, 127, 3300, ca 1, fu), (yg, 112, 3100, ca 1, fg), (yl, 101, 1500, ca 1, fl)] [] H_1 locs_1 := ((hh.call hb_11 hb_12 hb_13 hb_14 hS_1 rfl (L1 := [(r0, 16, 17, .ref zm), (r0, 16, 18, .ref xh), (r0, 16, 19, .ref xn), (r0, 16, 20, .ref xf), (r0, 16, 21, .ref xt), (r0, 16, 22, .ref xb), (r0, 16, 23, .ref xe), (r0, 16, 24, .ref xi), (r0, 16, 25, .ref xg), (r0, 16, 27, .ref xp), (r0, 16, 43, .ref yg), (r0, 16, 44, .int pu), (r0, 16, 45, .ref yl)]) [0, 1, 2, 3, 4, 5, 6, 7, 8, 9, 10, 11, 12] rfl rfl (M1 := [(zm, 117, 3100, ca 1, ms), (xh, 118, 3100, ca 1, mh), (xn, 119, 3100, ca 1, mx), (xf, 120, 3100, ca 1, mf), (xt, 121, 3100, ca 1, mt), (xb, 122, 3100, ca 1, mb), (xe, 123, 3100, ca 1, me), (xi, 124, 3100, ca 3, mi), (xg, 125, 3100, ca 1, mn), (xp, 127, 3300, ca 1, fu), (yg, 112, 3100, ca 1, fg), (yl, 101, 1500, ca 1, fl)]) [0, 1, 2, 3, 4, 5, 6, 7, 8, 9, 10, 11] rfl rfl (I1 := []) [] rfl rfl).more hb_15)
  clear hh ht_1 hvm_1 hz_1 hk_1 hS_1 hb_11 hb_12 hb_13 hb_14 hb_15
  obtain ⟨hr_2_0, hr_2_1, hr_2_2⟩ := hr_2
  refine lv_istore_n (lv' := [(2, .int r_2), (0, .ref r0), (1, .int a1)]) hx hb dX14_make_8 rfl hl (by decide) rfl (fun ls hl => ?_)
  refine lv_aload_n hx hb dX14_make_9 rfl (lv_at hl 1 rfl) ?_
  refine lv_iload_n hx hb dX14_make_10 rfl (lv_at hl 2 rfl) ?_
  refine j_ldcSw hx hb hown rstr548 dX14_make_11 ?_
  refine va_calli (A0 := jA base) (H0 := s.heap) (va_runV (As := [.int a1, .ref str548]) (rest := []) ⟨hx, hb, hml, hown, hts⟩ (uX14_memberR l dC dI ca base B hB hAp hB16 hB117 hB118 hB119 hB120 hB121 hB127 G0 H_1 r0 a1 str548 5 (jChT "range") zm xh xn xf xt xb xe xi xg xp T9 nd9 po9 ms mh mx mf mt mb me mi mn fu) (cwV 2 hts (jgV (jWr_55 _ (List.mem_of_getElem? (i := 15) rfl)) (jWr_55 _ (List.mem_of_getElem? (i := 16) rfl)) (jWr_55 _ (List.mem_of_getElem? (i := 17) rfl)) (jWr_1 _ (List.mem_of_getElem? (i := 5) rfl)) (jWr_55 _ (List.mem_of_getElem? (i := 18) rfl))) rfl rfl rfl (by decide +kernel) ⟨by rw [← hR]; exact Nat.le_of_ble_eq_true rfl, by rw [← hR]; exact Nat.le_of_ble_eq_true rfl⟩) ⟨fun a U g mk q => by obtain ⟨q0, q1, q2, qK, q10, q11, q12, q13, q14, q15, q16, q17, q18, q19, q20, q21, q22, q23, q24⟩ := q; exact ⟨q0, q1, q2, jG.calling g mk a qK, (q10.moved (Vm.Alike.refl U.vm)), q11, q12, q13, q14, q15, q16, q17, q18, q19, q20, q21, q22, q23, q24⟩, hh_1.recv (C := RX14) (T := TX14) (N := 74) hB16 rfl (by decide) hg_r0 hK, fun U hU hW => ⟨rfl, hU, hh_1.2.1, hG.step hW hU hh_1.1, (hTstr548.moved hW.alike).kept hh_1.1.2.1, hg_r0, hg_zm, hg_xh, hg_xn, hg_xf, hg_xt, hg_xb, hg_xe, hg_xi, hg_xg, hg_xp, (hh_1.2.2.1.sub (L1 := [(r0, 16, 17, .ref zm), (r0, 16, 18, .ref xh), (r0, 16, 19, .ref xn), (r0, 16, 20, .ref xf), (r0, 16, 21, .ref xt), (r0, 16, 22, .ref xb), (r0, 16, 23, .ref xe), (r0, 16, 24, .ref xi), (r0, 16, 25, .ref xg), (r0, 16, 27, .ref xp)]) [0, 1, 2, 3, 4, 5, 6, 7, 8, 9] rfl), (hh_1.2.2.2.2.2.2.2.1.sub (L1 := [(zm, 117, 3100, ca 1, ms), (xh, 118, 3100, ca 1, mh), (xn, 119, 3100, ca 1, mx), (xf, 120, 3100, ca 1, mf), (xt, 121, 3100, ca 1, mt), (xb, 122, 3100, ca 1, mb), (xe, 123, 3100, ca 1, me), (xi, 124, 3100, ca 3, mi), (xg, 125, 3100, ca 1, mn), (xp, 127, 3300, ca 1, fu)]) [0, 1, 2, 3, 4, 5, 6, 7, 8, 9] rfl), by first | omega | (refine ⟨?_, ?_, ?_, ?_, ?_, ?_, ?_⟩ <;> (first | omega | rfl | assumption | decide | exact Or.inl rfl | exact Or.inr rfl | (simp only; omega)))⟩⟩ rfl rfl hl.1 rfl (lv_room (Nat.le_of_ble_eq_true rfl)) dX14_make_14 ⟨Nat.zero_le _, Nat.zero_le _⟩) hh_1.1 (fun q _ h => h) (fun q h => h) (fun r_4 u_3 t_3 H_3 locs_3 ht_3 hvm_3 hr_4 hb_3 hz_3 hk_3 hS_3 => ?_)
  rw [ht_3] at hb_3
  obtain ⟨hb_31, hb_32, hb_33, hb_34, hb_35⟩ := hb_3
  have hh_3 : jSt (dC, dI) B base G0 G0 EX14_makeR s.heap 0 0 [(r0, 16, 17, .ref zm), (r0, 16, 18, .ref xh), (r0, 16, 19, .ref xn), (r0, 16, 20, .ref xf), (r0, 16, 21, .ref xt), (r0, 16, 22, .ref xb), (r0, 16, 23, .ref xe), (r0, 16, 24, .ref xi), (r0, 16, 25, .ref xg), (r0, 16, 27, .ref xp), (r0, 16, 43, .ref yg), (r0, 16, 44, .int pu), (r0, 16, 45, .ref yl)] [(zm, 117, 3100, ca 1, ms), (xh, 118, 3100, ca 1, mh), (xn, 119, 3100, ca 1, mx), (xf, 120, 3100, ca 1, mf), (xt, 121, 3100, ca 1, mt), (xb, 122, 3100, ca 1, mb), (xe, 123, 3100, ca 1, me), (xi, 124, 3100, ca 3, mi), (xg, 125, 3100, ca 1, mn), (xp, 127, 3300, ca 1, fu), (yg, 112, 3100, ca 1, fg), (yl, 101, 1500, ca 1, fl)] [] H_3 locs_3 := ((hh_1.call hb_31 hb_32 hb_33 hb_34 hS_3 rfl (L1 := [(r0, 16, 17, .ref zm), (r0, 16, 18, .ref xh), (r0, 16, 19, .ref xn), (r0, 16, 20, .ref xf), (r0, 16, 21, .ref xt), (r0, 16, 22, .ref xb), (r0, 16, 23, .ref xe), (r0, 16, 24, .ref xi), (r0, 16, 25, .ref xg), (r0, 16, 27, .ref xp), (r0, 16, 43, .ref yg), (r0, 16, 44, .int pu), (r0, 16, 45, .ref yl)]) [0, 1, 2, 3, 4, 5, 6, 7, 8, 9, 10, 11, 12] rfl rfl (M1 := [(zm, 117, 3100, ca 1, ms), (xh, 118, 3100, ca 1, mh), (xn, 119, 3100, ca 1, mx), (xf, 120, 3100, ca 1, mf), (xt, 121, 3100, ca 1, mt), (xb, 122, 3100, ca 1, mb), (xe, 123, 3100, ca 1, me), (xi, 124, 3100, ca 3, mi), (xg, 125, 3100, ca 1, mn), (xp, 127, 3300, ca 1, fu), (yg, 112, 3100, ca 1, fg), (yl, 101, 1500, ca 1, fl)]) [0, 1, 2, 3, 4, 5, 6, 7, 8, 9, 10, 11] rfl rfl (I1 := []) [] rfl rfl).more hb_35)
  clear hh_1 ht_3 hvm_3 hz_3 hk_3 hS_3 hb_31 hb_32 hb_33 hb_34 hb_35
  obtain ⟨hr_4_0, hr_4_1, hr_4_2⟩ := hr_4
  refine lv_istore_n (lv' := [(3, .int r_4), (2, .int r_2), (0, .ref r0), (1, .int a1)]) hx hb dX14_make_17 rfl hl (by decide) rfl (fun ls hl => ?_)
  have hk5 : jqK T9 nd9 r_2.toInt = 3 := by rw [hr_2_0]; exact hp6.1
  have hka5 := jqK.p (T := T9) (v := nd9) (i := r_2.toInt) (by omega)
  have hs5 := (hp2.str (a := r_2.toInt) hka5.1 hka5.2.1).resolve_right (fun q => q.2 hk5)
  have hb5 := hp2.2.2.2.2.2.1 r_2.toInt hka5.1 hka5.2.1 (by rw [← hka5.2.2]; exact hk5)
  refine lv_aload_n hx hb dX14_make_18 rfl (lv_at hl 2 rfl) ?_
  refine j7_read hx hb hown hK (C := RX14) (T := TX14) (N := 74) rfl hly_16_23 hlk_55 (hh_3.at 6 rfl) dX14_make_19 ?_
  refine lv_iload_n hx hb dX14_make_22 rfl (lv_at hl 1 rfl) ?_
  refine j7_ialdM hx hb hK hh_3 hB123 1 rfl (by decide) hg_xe (x := r_2.toInt) (rfl) (by omega) (j := 6) rfl dX14_make_23 (fun z_5 ez_5 (hz_5 : 0 ≤ z_5.toInt ∧ z_5.toInt ≤ 3100) => ?_)
  have hqz_5 : z_5.toInt = jSo me (r_2.toInt) := by unfold jSo; rw [ez_5]
  refine lv_aload_n hx hb dX14_make_24 rfl (lv_at hl 2 rfl) ?_
  refine j7_read hx hb hown hK (C := RX14) (T := TX14) (N := 74) rfl hly_16_22 hlk_52 (hh_3.at 5 rfl) dX14_make_25 ?_
  refine lv_iload_n hx hb dX14_make_28 rfl (lv_at hl 1 rfl) ?_
  refine j7_ialdM hx hb hK hh_3 hB122 1 rfl (by decide) hg_xb (x := r_2.toInt) (rfl) (by omega) (j := 5) rfl dX14_make_29 (fun z_6 ez_6 (hz_6 : 0 ≤ z_6.toInt ∧ z_6.toInt ≤ 3100) => ?_)
  have hqz_6 : z_6.toInt = jSo mb (r_2.toInt) := by unfold jSo; rw [ez_6]
  refine lv_isub hx hb dX14_make_30 ?_
  refine lv_topi (fun z_7 ez_7 => ?_)
  have hz_7 : z_7.toInt = z_5.toInt - z_6.toInt := by rw [ez_7]; exact jb_isub2 (rfl) (rfl) (by omega)
  refine lv_istore (lv' := [(4, .int z_7), (3, .int r_4), (2, .int r_2), (0, .ref r0), (1, .int a1)]) hx hb dX14_make_31 hl (by decide) rfl (fun ls hl => ?_)
  refine lv_iconst (v := 0) hx hb dX14_make_33 (by decide) ?_
  refine lv_istore (lv' := [(5, .int 0), (4, .int z_7), (3, .int r_4), (2, .int r_2), (0, .ref r0), (1, .int a1)]) hx hb dX14_make_34 hl (by decide) rfl (fun ls hl => ?_)
  refine lv_aload_n hx hb dX14_make_36 rfl (lv_at hl 4 rfl) ?_
  refine j7_read hx hb hown hK (C := RX14) (T := TX14) (N := 74) rfl hly_16_44 hlk_550 (hh_3.at 11 rfl) dX14_make_37 ?_
  refine lv_istore (lv' := [(6, .int pu), (5, .int 0), (4, .int z_7), (3, .int r_4), (2, .int r_2), (0, .ref r0), (1, .int a1)]) hx hb dX14_make_40 hl (by decide) rfl (fun ls hl => ?_)
  refine lv_iload_n hx hb dX14_make_42 rfl (lv_at hl 3 rfl) ?_
  refine lv_if_lt (tgt := 130) hx hb dX14_make_43 (by decide) (fun c_8 => ?_) (fun c_8 => ?_)
  · skip
    have c_8' : r_4.toInt < 0 := jb_lt (rfl) ((by decide)) c_8
    have hS9 : jdS T9 nd9 (jSo f0) pu.toInt a1.toInt = ((0 : Int32).toInt, pu.toInt) := (jdS.w hr_4_0 (by omega)).trans (by rw [hk0])
    refine lv_aload_n hx hb dX14_make_130 rfl (lv_at hl 5 rfl) ?_
    refine j7_read hx hb hown hK (C := RX14) (T := TX14) (N := 74) rfl hly_16_44 hlk_550 (hh_3.at 11 rfl) dX14_make_131 ?_
    refine lv_iload hx hb dX14_make_134 (lv_at hl 0 rfl) ?_
    refine lv_iload hx hb dX14_make_136 (lv_at hl 1 rfl) ?_
    refine lv_isub hx hb dX14_make_138 ?_
    refine lv_topi (fun z_9 ez_9 => ?_)
    have hz_9 : z_9.toInt = pu.toInt - 0 := by rw [ez_9]; exact jb_isub2 (rfl) ((by decide)) (by omega)
    refine lv_isub hx hb dX14_make_139 ?_
    refine lv_topi (fun z_10 ez_10 => ?_)
    have hz_10 : z_10.toInt = pu.toInt - z_9.toInt := by rw [ez_10]; exact jb_isub2 (rfl) (rfl) (by omega)
    refine lv_iload hx hb dX14_make_140 (lv_at hl 2 rfl) ?_
    refine lv_iadd hx hb dX14_make_142 ?_
    refine lv_topi (fun z_11 ez_11 => ?_)
    have hz_11 : z_11.toInt = z_10.toInt + z_7.toInt := by rw [ez_11]; exact jb_iadd2 (rfl) (rfl) (by omega)
    refine lv_istore (lv' := [(7, .int z_11), (6, .int pu), (5, .int 0), (4, .int z_7), (3, .int r_4), (2, .int r_2), (0, .ref r0), (1, .int a1)]) hx hb dX14_make_143 hl (by decide) rfl (fun ls hl => ?_)
    refine lv_iload hx hb dX14_make_145 (lv_at hl 0 rfl) ?_
    refine lv_sipush (v := 1500) hx hb dX14_make_147 (by decide) ?_
    refine lv_icmp_le (tgt := 155) hx hb dX14_make_150 (by decide) (fun c_12 => ?_) (fun c_12 => ?_)
    · skip
      have c_12' : z_11.toInt ≤ 1500 := jb_le (rfl) ((by decide)) c_12
      refine lv_aload_n hx hb dX14_make_155 rfl (lv_at hl 6 rfl) ?_
      refine j7_read hx hb hown hK (C := RX14) (T := TX14) (N := 74) rfl hly_16_44 hlk_550 (hh_3.at 11 rfl) dX14_make_156 ?_
      refine lv_iload hx hb dX14_make_159 (lv_at hl 1 rfl) ?_
      refine lv_isub hx hb dX14_make_161 ?_
      refine lv_topi (fun z_13 ez_13 => ?_)
      have hz_13 : z_13.toInt = pu.toInt - pu.toInt := by rw [ez_13]; exact jb_isub2 (rfl) (rfl) (by omega)
      refine lv_istore (lv' := [(8, .int z_13), (7, .int z_11), (6, .int pu), (5, .int 0), (4, .int z_7), (3, .int r_4), (2, .int r_2), (0, .ref r0), (1, .int a1)]) hx hb dX14_make_162 hl (by decide) rfl (fun ls hl => ?_)
      refine lv_iconst (v := 0) hx hb dX14_make_164 (by decide) ?_
      refine lv_istore (lv' := [(9, .int 0), (8, .int z_13), (7, .int z_11), (6, .int pu), (5, .int 0), (4, .int z_7), (3, .int r_4), (2, .int r_2), (0, .ref r0), (1, .int a1)]) hx hb dX14_make_165 hl (by decide) rfl (fun ls hl => ?_)
      have L167 : ∀ (N : Nat) (v9_14 : Int32) (fl_14 : Nat → Int32) (H_14 : Heap) (locs_14 : List Loc), jSt (dC, dI) B base G0 G0 EX14_makeR s.heap 0 0 [(r0, 16, 17, .ref zm), (r0, 16, 18, .ref xh), (r0, 16, 19, .ref xn), (r0, 16, 20, .ref xf), (r0, 16, 21, .ref xt), (r0, 16, 22, .ref xb), (r0, 16, 23, .ref xe), (r0, 16, 24, .ref xi), (r0, 16, 25, .ref xg), (r0, 16, 27, .ref xp), (r0, 16, 43, .ref yg), (r0, 16, 44, .int pu), (r0, 16, 45, .ref yl)] [(yl, 101, 1500, ca 1, fl_14), (zm, 117, 3100, ca 1, ms), (xh, 118, 3100, ca 1, mh), (xn, 119, 3100, ca 1, mx), (xf, 120, 3100, ca 1, mf), (xt, 121, 3100, ca 1, mt), (xb, 122, 3100, ca 1, mb), (xe, 123, 3100, ca 1, me), (xi, 124, 3100, ca 3, mi), (xg, 125, 3100, ca 1, mn), (xp, 127, 3300, ca 1, fu), (yg, 112, 3100, ca 1, fg)] [] H_14 locs_14 → (0 ≤ v9_14.toInt ∧ v9_14.toInt ≤ z_13.toInt ∧ (∀ j : Int, 0 ≤ j → j < v9_14.toInt → jSo fl_14 j = jSo f0 (pu.toInt + j))) → (z_13.toInt - v9_14.toInt : Int) < N → ∀ ls : Array Slot, lv_has ls 10 [(0, .ref r0), (1, .int a1), (2, .int r_2), (3, .int r_4), (4, .int z_7), (5, .int 0), (6, .int pu), (7, .int z_11), (8, .int z_13), (9, .int v9_14)] → W p l e R s m ([.ref r0, .int a1] : List Value).toArray below meth c H_14 locs_14 0 0 Q (F0 m 167 ls []) := by
        intro N
        induction N with
        | zero => intro v9_14 fl_14 H_14 locs_14 hh_14  hi_14 hm; exact absurd hm (by omega)
        | succ N L167 =>
          intro v9_14 fl_14 H_14 locs_14 hh_14  hi_14 hm_14 ls hl
          obtain ⟨hi_14_0, hi_14_1, hi_14_2⟩ := hi_14
          refine lv_iload hx hb dX14_make_167 (lv_at hl 9 rfl) ?_
          refine lv_iload hx hb dX14_make_169 (lv_at hl 8 rfl) ?_
          refine lv_icmp_ge (tgt := 197) hx hb dX14_make_171 (by decide) (fun c_15 => ?_) (fun c_15 => ?_)
          · skip
            have c_15' : v9_14.toInt ≥ z_13.toInt := jb_ge (rfl) (rfl) c_15
            refine lv_iconst (v := 0) hx hb dX14_make_197 (by decide) ?_
            refine lv_istore (lv' := [(9, .int 0), (0, .ref r0), (1, .int a1), (2, .int r_2), (3, .int r_4), (4, .int z_7), (5, .int 0), (6, .int pu), (7, .int z_11), (8, .int z_13)]) hx hb dX14_make_198 hl (by decide) rfl (fun ls hl => ?_)
            have L200 : ∀ (N : Nat) (v9_16 : Int32) (fg_16 : Nat → Int32) (H_16 : Heap) (locs_16 : List Loc), jSt (dC, dI) B base G0 G0 EX14_makeR s.heap 0 0 [(r0, 16, 17, .ref zm), (r0, 16, 18, .ref xh), (r0, 16, 19, .ref xn), (r0, 16, 20, .ref xf), (r0, 16, 21, .ref xt), (r0, 16, 22, .ref xb), (r0, 16, 23, .ref xe), (r0, 16, 24, .ref xi), (r0, 16, 25, .ref xg), (r0, 16, 27, .ref xp), (r0, 16, 43, .ref yg), (r0, 16, 44, .int pu), (r0, 16, 45, .ref yl)] [(yg, 112, 3100, ca 1, fg_16), (yl, 101, 1500, ca 1, fl_14), (zm, 117, 3100, ca 1, ms), (xh, 118, 3100, ca 1, mh), (xn, 119, 3100, ca 1, mx), (xf, 120, 3100, ca 1, mf), (xt, 121, 3100, ca 1, mt), (xb, 122, 3100, ca 1, mb), (xe, 123, 3100, ca 1, me), (xi, 124, 3100, ca 3, mi), (xg, 125, 3100, ca 1, mn), (xp, 127, 3300, ca 1, fu)] [] H_16 locs_16 → (0 ≤ v9_16.toInt ∧ v9_16.toInt ≤ z_7.toInt ∧ jdB (jSo f0) (jSo fg_16) 0 pu.toInt z_7.toInt (0 + z_7.toInt) v9_16.toInt (fun j => jqA T9 nd9 r_2.toInt j)) → (z_7.toInt - v9_16.toInt : Int) < N → ∀ ls : Array Slot, lv_has ls 10 [(0, .ref r0), (1, .int a1), (2, .int r_2), (3, .int r_4), (4, .int z_7), (5, .int 0), (6, .int pu), (7, .int z_11), (8, .int z_13), (9, .int v9_16)] → W p l e R s m ([.ref r0, .int a1] : List Value).toArray below meth c H_16 locs_16 0 0 Q (F0 m 200 ls []) := by
              intro N
              induction N with
              | zero => intro v9_16 fg_16 H_16 locs_16 hh_16  hi_16 hm; exact absurd hm (by omega)
              | succ N L200 =>
                intro v9_16 fg_16 H_16 locs_16 hh_16  hi_16 hm_16 ls hl
                obtain ⟨hi_16_0, hi_16_1, hi_16_2⟩ := hi_16
                refine lv_iload hx hb dX14_make_200 (lv_at hl 9 rfl) ?_
                refine lv_iload hx hb dX14_make_202 (lv_at hl 4 rfl) ?_
                refine lv_icmp_ge (tgt := 237) hx hb dX14_make_204 (by decide) (fun c_17 => ?_) (fun c_17 => ?_)
                · skip
                  have c_17' : v9_16.toInt ≥ z_7.toInt := jb_ge (rfl) (rfl) c_17
                  refine lv_iconst (v := 0) hx hb dX14_make_237 (by decide) ?_
                  refine lv_istore (lv' := [(9, .int 0), (0, .ref r0), (1, .int a1), (2, .int r_2), (3, .int r_4), (4, .int z_7), (5, .int 0), (6, .int pu), (7, .int z_11), (8, .int z_13)]) hx hb dX14_make_238 hl (by decide) rfl (fun ls hl => ?_)
                  have L240 : ∀ (N : Nat) (v9_18 : Int32) (fg_18 : Nat → Int32) (H_18 : Heap) (locs_18 : List Loc), jSt (dC, dI) B base G0 G0 EX14_makeR s.heap 0 0 [(r0, 16, 17, .ref zm), (r0, 16, 18, .ref xh), (r0, 16, 19, .ref xn), (r0, 16, 20, .ref xf), (r0, 16, 21, .ref xt), (r0, 16, 22, .ref xb), (r0, 16, 23, .ref xe), (r0, 16, 24, .ref xi), (r0, 16, 25, .ref xg), (r0, 16, 27, .ref xp), (r0, 16, 43, .ref yg), (r0, 16, 44, .int pu), (r0, 16, 45, .ref yl)] [(yg, 112, 3100, ca 1, fg_18), (yl, 101, 1500, ca 1, fl_14), (zm, 117, 3100, ca 1, ms), (xh, 118, 3100, ca 1, mh), (xn, 119, 3100, ca 1, mx), (xf, 120, 3100, ca 1, mf), (xt, 121, 3100, ca 1, mt), (xb, 122, 3100, ca 1, mb), (xe, 123, 3100, ca 1, me), (xi, 124, 3100, ca 3, mi), (xg, 125, 3100, ca 1, mn), (xp, 127, 3300, ca 1, fu)] [] H_18 locs_18 → (0 ≤ v9_18.toInt ∧ v9_18.toInt ≤ z_13.toInt ∧ jdB (jSo f0) (jSo fg_18) 0 pu.toInt z_7.toInt (0 + z_7.toInt + v9_18.toInt) z_7.toInt (fun j => jqA T9 nd9 r_2.toInt j)) → (z_13.toInt - v9_18.toInt : Int) < N → ∀ ls : Array Slot, lv_has ls 10 [(0, .ref r0), (1, .int a1), (2, .int r_2), (3, .int r_4), (4, .int z_7), (5, .int 0), (6, .int pu), (7, .int z_11), (8, .int z_13), (9, .int v9_18)] → W p l e R s m ([.ref r0, .int a1] : List Value).toArray below meth c H_18 locs_18 0 0 Q (F0 m 240 ls []) := by
                    intro N
                    induction N with
                    | zero => intro v9_18 fg_18 H_18 locs_18 hh_18  hi_18 hm; exact absurd hm (by omega)
                    | succ N L240 =>
                      intro v9_18 fg_18 H_18 locs_18 hh_18  hi_18 hm_18 ls hl
                      obtain ⟨hi_18_0, hi_18_1, hi_18_2⟩ := hi_18
                      refine lv_iload hx hb dX14_make_240 (lv_at hl 9 rfl) ?_
                      refine lv_iload hx hb dX14_make_242 (lv_at hl 8 rfl) ?_
                      refine lv_icmp_ge (tgt := 273) hx hb dX14_make_244 (by decide) (fun c_19 => ?_) (fun c_19 => ?_)
                      · skip
                        have c_19' : v9_18.toInt ≥ z_13.toInt := jb_ge (rfl) (rfl) c_19
                        refine lv_aload_n hx hb dX14_make_273 rfl (lv_at hl 0 rfl) ?_
                        refine lv_iload hx hb dX14_make_274 (lv_at hl 7 rfl) ?_
                        refine j7_put hx hb hown hK hh_18 hB hAp hB16 (C := RX14) (T := TX14) (N := 74) rfl (by decide) hg_r0 (i := 44) (by decide) hly_16_44 rfl hlk_550 rfl (ty := .int) (v := .int z_11) (by decide +kernel) rfl rfl (⟨_, rfl, by omega, by omega⟩) rfl (L1 := [(r0, 16, 17, .ref zm), (r0, 16, 18, .ref xh), (r0, 16, 19, .ref xn), (r0, 16, 20, .ref xf), (r0, 16, 21, .ref xt), (r0, 16, 22, .ref xb), (r0, 16, 23, .ref xe), (r0, 16, 24, .ref xi), (r0, 16, 25, .ref xg), (r0, 16, 27, .ref xp), (r0, 16, 43, .ref yg), (r0, 16, 45, .ref yl)]) [0, 1, 2, 3, 4, 5, 6, 7, 8, 9, 10, 12] rfl rfl rfl dX14_make_276 (fun H_20 locs_20 hh_20 => ?_)
                        clear hh_18
                        refine lv_iconst (v := 1) hx hb dX14_make_279 (by decide) ?_
                        rw [hQ]
                        exact W.zret (v := 1) hx hb hr (jb_nz (Or.inr rfl)) (fun t ht hW => ⟨⟨1, (z_11, fg_18, fl_14), rfl, ⟨(Or.inr rfl), by (try dsimp only); refine ⟨?_, by omega, by omega⟩; have ho9 := jdO.y hr_2_0 hk5 hS9 (by omega) (by omega) (by omega); refine Or.inl ⟨hk1, by rw [ho9], by rw [ho9]; dsimp only; omega, ?_⟩; rw [ho9]; exact hi_18_2.done (by omega) (by omega) (by omega) (by omega)⟩, ⟨hh_20.rt (M1 := [(r0, 16, 44, .int z_11)]) [0] rfl ht, by rw [ht]; exact hh_20.2.2.2.2.2.2.2.1.sub [0, 1] rfl⟩⟩, by rw [ht]; try exact hh_20.1.1, fun q h9 hq => by rw [ht]; try exact hh_20.1.2.1 q h9 hq⟩) hh_20.1.2.2 dX14_make_280
                      · skip
                        have c_19' : v9_18.toInt < z_13.toInt := jb_ge_n (rfl) (rfl) c_19
                        refine lv_aload_n hx hb dX14_make_247 rfl (lv_at hl 0 rfl) ?_
                        refine j7_read hx hb hown hK (C := RX14) (T := TX14) (N := 74) rfl hly_16_43 hlk_78 (hh_18.at 10 rfl) dX14_make_248 ?_
                        refine lv_iload hx hb dX14_make_251 (lv_at hl 5 rfl) ?_
                        refine lv_iload hx hb dX14_make_253 (lv_at hl 4 rfl) ?_
                        refine lv_iadd hx hb dX14_make_255 ?_
                        refine lv_topi (fun z_21 ez_21 => ?_)
                        have hz_21 : z_21.toInt = 0 + z_7.toInt := by rw [ez_21]; exact jb_iadd2 ((by decide)) (rfl) (by omega)
                        refine lv_iload hx hb dX14_make_256 (lv_at hl 9 rfl) ?_
                        refine lv_iadd hx hb dX14_make_258 ?_
                        refine lv_topi (fun z_22 ez_22 => ?_)
                        have hz_22 : z_22.toInt = z_21.toInt + v9_18.toInt := by rw [ez_22]; exact jb_iadd2 (rfl) (rfl) (by omega)
                        refine lv_aload_n hx hb dX14_make_259 rfl (lv_at hl 0 rfl) ?_
                        refine j7_read hx hb hown hK (C := RX14) (T := TX14) (N := 74) rfl hly_16_45 hlk_81 (hh_18.at 12 rfl) dX14_make_260 ?_
                        refine lv_iload hx hb dX14_make_263 (lv_at hl 9 rfl) ?_
                        refine j7_ialdM hx hb hK hh_18 hB101 1 rfl (by decide) hg_yl (x := v9_18.toInt) (rfl) (by omega) (j := 1) rfl dX14_make_265 (fun z_23 ez_23 (hz_23 : True) => ?_)
                        have hqz_23 : z_23.toInt = jSo fl_14 (v9_18.toInt) := by unfold jSo; rw [ez_23]
                        refine j7_iastU hx hb hK hh_18 hB hB112 1 rfl (by decide) (by decide) rfl 0 rfl (M1 := [(yl, 101, 1500, ca 1, fl_14), (zm, 117, 3100, ca 1, ms), (xh, 118, 3100, ca 1, mh), (xn, 119, 3100, ca 1, mx), (xf, 120, 3100, ca 1, mf), (xt, 121, 3100, ca 1, mt), (xb, 122, 3100, ca 1, mb), (xe, 123, 3100, ca 1, me), (xi, 124, 3100, ca 3, mi), (xg, 125, 3100, ca 1, mn), (xp, 127, 3300, ca 1, fu)]) [1, 2, 3, 4, 5, 6, 7, 8, 9, 10, 11] rfl rfl rfl hg_yg (x := z_22.toInt) (rfl) (by omega) (trivial) dX14_make_266 (fun H_24 locs_24 fs_25 hv_24 ho_24 hh_24 => ?_)
                        have hv_24 : jSo fs_25 (z_22.toInt) = z_23.toInt := by unfold jSo; rw [hv_24]; try exact rfl
                        rw [show z_22.toInt = ((0 + (z_5.toInt - z_6.toInt)) + v9_18.toInt) by omega] at hv_24 ho_24
                        clear hh_18
                        obtain ⟨z_26, ez_26⟩ : ∃ y : Int32, y = v9_18 + 1 := ⟨_, rfl⟩
                        refine lv_iinc (v := z_26) (lv' := [(9, .int z_26), (0, .ref r0), (1, .int a1), (2, .int r_2), (3, .int r_4), (4, .int z_7), (5, .int 0), (6, .int pu), (7, .int z_11), (8, .int z_13)]) hx hb dX14_make_267 hl (k := 9) rfl (by rw [ez_26]; rfl) (by decide) rfl (fun ls hl => ?_)
                        have hz_26 : z_26.toInt = v9_18.toInt + 1 := by rw [ez_26]; exact jb_iadd2 (rfl) (by decide) (by omega)
                        refine lv_goto (tgt := 240) hx hb dX14_make_270 (by decide) ?_
                        exact L240 z_26 fs_25 _ _ hh_24 (by refine ⟨by omega, by omega, ?_⟩; exact hi_18_2.tl (by rw [hv_24, hqz_23, hi_14_2 _ (by omega) (by omega)]; congr 1; omega) (fun j h1 h2 => ho_24 j (by omega) h2) (by omega) (by omega) (by omega) (by omega)) (by omega) _ (lv_sub hl [1, 2, 3, 4, 5, 6, 7, 8, 9, 0] rfl)
                  exact L240 (z_13.toInt - (0 : Int32).toInt : Int).toNat.succ 0 fg_16 _ _ hh_16 (by refine ⟨by omega, by omega, ?_⟩; have h9 := hi_16_2; rw [show v9_16.toInt = z_7.toInt by omega] at h9; rw [hk0, Int.add_zero]; exact h9) (by omega) _ (lv_sub hl [1, 2, 3, 4, 5, 6, 7, 8, 9, 0] rfl)
                · skip
                  have c_17' : v9_16.toInt < z_7.toInt := jb_ge_n (rfl) (rfl) c_17
                  refine lv_aload_n hx hb dX14_make_207 rfl (lv_at hl 0 rfl) ?_
                  refine j7_read hx hb hown hK (C := RX14) (T := TX14) (N := 74) rfl hly_16_43 hlk_78 (hh_16.at 10 rfl) dX14_make_208 ?_
                  refine lv_iload hx hb dX14_make_211 (lv_at hl 5 rfl) ?_
                  refine lv_iload hx hb dX14_make_213 (lv_at hl 9 rfl) ?_
                  refine lv_iadd hx hb dX14_make_215 ?_
                  refine lv_topi (fun z_27 ez_27 => ?_)
                  have hz_27 : z_27.toInt = 0 + v9_16.toInt := by rw [ez_27]; exact jb_iadd2 ((by decide)) (rfl) (by omega)
                  refine lv_aload_n hx hb dX14_make_216 rfl (lv_at hl 0 rfl) ?_
                  refine j7_read hx hb hown hK (C := RX14) (T := TX14) (N := 74) rfl hly_16_27 hlk_65 (hh_16.at 9 rfl) dX14_make_217 ?_
                  refine lv_aload_n hx hb dX14_make_220 rfl (lv_at hl 0 rfl) ?_
                  refine j7_read hx hb hown hK (C := RX14) (T := TX14) (N := 74) rfl hly_16_22 hlk_52 (hh_16.at 5 rfl) dX14_make_221 ?_
                  refine lv_iload_n hx hb dX14_make_224 rfl (lv_at hl 2 rfl) ?_
                  refine j7_ialdM hx hb hK hh_16 hB122 1 rfl (by decide) hg_xb (x := r_2.toInt) (rfl) (by omega) (j := 7) rfl dX14_make_225 (fun z_28 ez_28 (hz_28 : 0 ≤ z_28.toInt ∧ z_28.toInt ≤ 3100) => ?_)
                  have hqz_28 : z_28.toInt = jSo mb (r_2.toInt) := by unfold jSo; rw [ez_28]
                  refine lv_iload hx hb dX14_make_226 (lv_at hl 9 rfl) ?_
                  refine lv_iadd hx hb dX14_make_228 ?_
                  refine lv_topi (fun z_29 ez_29 => ?_)
                  have hz_29 : z_29.toInt = z_28.toInt + v9_16.toInt := by rw [ez_29]; exact jb_iadd2 (rfl) (rfl) (by omega)
                  refine j7_ialdM hx hb hK hh_16 hB127 1 rfl (by decide) hg_xp (x := z_29.toInt) (rfl) (by omega) (j := 11) rfl dX14_make_229 (fun z_30 ez_30 (hz_30 : True) => ?_)
                  have hqz_30 : z_30.toInt = jSo fu ((z_28.toInt + v9_16.toInt)) := by unfold jSo; rw [ez_30, show z_29.toInt = (z_28.toInt + v9_16.toInt) by omega]
                  refine j7_iastU hx hb hK hh_16 hB hB112 1 rfl (by decide) (by decide) rfl 0 rfl (M1 := [(yl, 101, 1500, ca 1, fl_14), (zm, 117, 3100, ca 1, ms), (xh, 118, 3100, ca 1, mh), (xn, 119, 3100, ca 1, mx), (xf, 120, 3100, ca 1, mf), (xt, 121, 3100, ca 1, mt), (xb, 122, 3100, ca 1, mb), (xe, 123, 3100, ca 1, me), (xi, 124, 3100, ca 3, mi), (xg, 125, 3100, ca 1, mn), (xp, 127, 3300, ca 1, fu)]) [1, 2, 3, 4, 5, 6, 7, 8, 9, 10, 11] rfl rfl rfl hg_yg (x := z_27.toInt) (rfl) (by omega) (trivial) dX14_make_230 (fun H_31 locs_31 fs_32 hv_31 ho_31 hh_31 => ?_)
                  have hv_31 : jSo fs_32 (z_27.toInt) = z_30.toInt := by unfold jSo; rw [hv_31]; try exact rfl
                  rw [show z_27.toInt = (0 + v9_16.toInt) by omega] at hv_31 ho_31
                  clear hh_16
                  obtain ⟨z_33, ez_33⟩ : ∃ y : Int32, y = v9_16 + 1 := ⟨_, rfl⟩
                  refine lv_iinc (v := z_33) (lv' := [(9, .int z_33), (0, .ref r0), (1, .int a1), (2, .int r_2), (3, .int r_4), (4, .int z_7), (5, .int 0), (6, .int pu), (7, .int z_11), (8, .int z_13)]) hx hb dX14_make_231 hl (k := 9) rfl (by rw [ez_33]; rfl) (by decide) rfl (fun ls hl => ?_)
                  have hz_33 : z_33.toInt = v9_16.toInt + 1 := by rw [ez_33]; exact jb_iadd2 (rfl) (by decide) (by omega)
                  refine lv_goto (tgt := 200) hx hb dX14_make_234 (by decide) ?_
                  exact L200 z_33 fs_32 _ _ hh_31 (by refine ⟨by omega, by omega, ?_⟩; exact hi_16_2.step (by rw [hv_31, hqz_30, ← hp2.un hk5 (by omega) (by omega)]; congr 1; have h9 := hqz_28; omega) (fun j h1 h2 => ho_31 j (by omega) h2) (by omega) (by omega) (by omega) (by omega)) (by omega) _ (lv_sub hl [1, 2, 3, 4, 5, 6, 7, 8, 9, 0] rfl)
            exact L200 (z_7.toInt - (0 : Int32).toInt : Int).toNat.succ 0 fg _ _ (hh_14.sub (L1 := [(r0, 16, 17, .ref zm), (r0, 16, 18, .ref xh), (r0, 16, 19, .ref xn), (r0, 16, 20, .ref xf), (r0, 16, 21, .ref xt), (r0, 16, 22, .ref xb), (r0, 16, 23, .ref xe), (r0, 16, 24, .ref xi), (r0, 16, 25, .ref xg), (r0, 16, 27, .ref xp), (r0, 16, 43, .ref yg), (r0, 16, 44, .int pu), (r0, 16, 45, .ref yl)]) [0, 1, 2, 3, 4, 5, 6, 7, 8, 9, 10, 11, 12] rfl (M1 := [(yg, 112, 3100, ca 1, fg), (yl, 101, 1500, ca 1, fl_14), (zm, 117, 3100, ca 1, ms), (xh, 118, 3100, ca 1, mh), (xn, 119, 3100, ca 1, mx), (xf, 120, 3100, ca 1, mf), (xt, 121, 3100, ca 1, mt), (xb, 122, 3100, ca 1, mb), (xe, 123, 3100, ca 1, me), (xi, 124, 3100, ca 3, mi), (xg, 125, 3100, ca 1, mn), (xp, 127, 3300, ca 1, fu)]) [11, 0, 1, 2, 3, 4, 5, 6, 7, 8, 9, 10] rfl (I1 := []) [] rfl) (by refine ⟨by omega, by omega, ?_⟩; rw [hp9]; exact ⟨fun j h0 h1 => rfl, fun j h0 h1 => absurd h1 (by omega), fun j h0 h1 => absurd h1 (by omega)⟩) (by omega) _ (lv_sub hl [1, 2, 3, 4, 5, 6, 7, 8, 9, 0] rfl)
          · skip
            have c_15' : v9_14.toInt < z_13.toInt := jb_ge_n (rfl) (rfl) c_15
            refine lv_aload_n hx hb dX14_make_174 rfl (lv_at hl 0 rfl) ?_
            refine j7_read hx hb hown hK (C := RX14) (T := TX14) (N := 74) rfl hly_16_45 hlk_81 (hh_14.at 12 rfl) dX14_make_175 ?_
            refine lv_iload hx hb dX14_make_178 (lv_at hl 9 rfl) ?_
            refine lv_aload_n hx hb dX14_make_180 rfl (lv_at hl 0 rfl) ?_
            refine j7_read hx hb hown hK (C := RX14) (T := TX14) (N := 74) rfl hly_16_43 hlk_78 (hh_14.at 10 rfl) dX14_make_181 ?_
            refine lv_iload hx hb dX14_make_184 (lv_at hl 6 rfl) ?_
            refine lv_iload hx hb dX14_make_186 (lv_at hl 9 rfl) ?_
            refine lv_iadd hx hb dX14_make_188 ?_
            refine lv_topi (fun z_34 ez_34 => ?_)
            have hz_34 : z_34.toInt = pu.toInt + v9_14.toInt := by rw [ez_34]; exact jb_iadd2 (rfl) (rfl) (by omega)
            refine j7_ialdM hx hb hK hh_14 hB112 1 rfl (by decide) hg_yg (x := z_34.toInt) (rfl) (by omega) (j := 11) rfl dX14_make_189 (fun z_35 ez_35 (hz_35 : True) => ?_)
            have hqz_35 : z_35.toInt = jSo fg ((pu.toInt + v9_14.toInt)) := by unfold jSo; rw [ez_35, show z_34.toInt = (pu.toInt + v9_14.toInt) by omega]
            refine j7_iastU hx hb hK hh_14 hB hB101 1 rfl (by decide) (by decide) rfl 0 rfl (M1 := [(zm, 117, 3100, ca 1, ms), (xh, 118, 3100, ca 1, mh), (xn, 119, 3100, ca 1, mx), (xf, 120, 3100, ca 1, mf), (xt, 121, 3100, ca 1, mt), (xb, 122, 3100, ca 1, mb), (xe, 123, 3100, ca 1, me), (xi, 124, 3100, ca 3, mi), (xg, 125, 3100, ca 1, mn), (xp, 127, 3300, ca 1, fu), (yg, 112, 3100, ca 1, fg)]) [1, 2, 3, 4, 5, 6, 7, 8, 9, 10, 11] rfl rfl rfl hg_yl (x := v9_14.toInt) (rfl) (by omega) (trivial) dX14_make_190 (fun H_36 locs_36 fs_37 hv_36 ho_36 hh_36 => ?_)
            have hv_36 : jSo fs_37 (v9_14.toInt) = z_35.toInt := by unfold jSo; rw [hv_36]; try exact rfl
            clear hh_14
            obtain ⟨z_38, ez_38⟩ : ∃ y : Int32, y = v9_14 + 1 := ⟨_, rfl⟩
            refine lv_iinc (v := z_38) (lv' := [(9, .int z_38), (0, .ref r0), (1, .int a1), (2, .int r_2), (3, .int r_4), (4, .int z_7), (5, .int 0), (6, .int pu), (7, .int z_11), (8, .int z_13)]) hx hb dX14_make_191 hl (k := 9) rfl (by rw [ez_38]; rfl) (by decide) rfl (fun ls hl => ?_)
            have hz_38 : z_38.toInt = v9_14.toInt + 1 := by rw [ez_38]; exact jb_iadd2 (rfl) (by decide) (by omega)
            refine lv_goto (tgt := 167) hx hb dX14_make_194 (by decide) ?_
            exact L167 z_38 fs_37 _ _ hh_36 (by refine ⟨by omega, by omega, fun j h0 h1 => ?_⟩; by_cases q9 : j < v9_14.toInt; exact (jst ho_36 j h0 (by omega) (by omega) (by omega)).trans (hi_14_2 j h0 q9); rw [show j = v9_14.toInt by omega, hv_36, hqz_35, hp9]) (by omega) _ (lv_sub hl [1, 2, 3, 4, 5, 6, 7, 8, 9, 0] rfl)
      exact L167 (z_13.toInt - (0 : Int32).toInt : Int).toNat.succ 0 fl _ _ (hh_3.sub (L1 := [(r0, 16, 17, .ref zm), (r0, 16, 18, .ref xh), (r0, 16, 19, .ref xn), (r0, 16, 20, .ref xf), (r0, 16, 21, .ref xt), (r0, 16, 22, .ref xb), (r0, 16, 23, .ref xe), (r0, 16, 24, .ref xi), (r0, 16, 25, .ref xg), (r0, 16, 27, .ref xp), (r0, 16, 43, .ref yg), (r0, 16, 44, .int pu), (r0, 16, 45, .ref yl)]) [0, 1, 2, 3, 4, 5, 6, 7, 8, 9, 10, 11, 12] rfl (M1 := [(yl, 101, 1500, ca 1, fl), (zm, 117, 3100, ca 1, ms), (xh, 118, 3100, ca 1, mh), (xn, 119, 3100, ca 1, mx), (xf, 120, 3100, ca 1, mf), (xt, 121, 3100, ca 1, mt), (xb, 122, 3100, ca 1, mb), (xe, 123, 3100, ca 1, me), (xi, 124, 3100, ca 3, mi), (xg, 125, 3100, ca 1, mn), (xp, 127, 3300, ca 1, fu), (yg, 112, 3100, ca 1, fg)]) [11, 0, 1, 2, 3, 4, 5, 6, 7, 8, 9, 10] rfl (I1 := []) [] rfl) (by refine ⟨by omega, by omega, fun j h0 h1 => absurd h1 (by omega)⟩) (by omega) _ (lv_sub hl [8, 9, 7, 6, 5, 4, 3, 2, 1, 0] rfl)
    · skip
      have c_12' : z_11.toInt > 1500 := jb_le_n (rfl) ((by decide)) c_12
      refine lv_iconst (v := 0) hx hb dX14_make_153 (by decide) ?_
      rw [hQ]
      exact W.zret (v := 0) hx hb hr (jb_nz (Or.inl rfl)) (fun t ht hW => ⟨⟨0, (pu, fg, fl), rfl, ⟨(Or.inl rfl), by (try dsimp only); refine ⟨?_, by omega, by omega⟩; exact jdA.no hk0 (jdO.n hr_2_0 hS9 (fun q => by have h9 := q.2.2.2; omega))⟩, ⟨hh_3.rt (M1 := [(r0, 16, 44, .int pu)]) [11] rfl ht, by rw [ht]; exact hh_3.2.2.2.2.2.2.2.1.sub [10, 11] rfl⟩⟩, by rw [ht]; try exact hh_3.1.1, fun q h9 hq => by rw [ht]; try exact hh_3.1.2.1 q h9 hq⟩) hh_3.1.2.2 dX14_make_154
  · skip
    have c_8' : r_4.toInt ≥ 0 := jb_lt_n (rfl) ((by decide)) c_8
    obtain ⟨gp, gq⟩ := hp6.2.resolve_left (by rw [← hr_4_0]; omega)
    rw [← hr_4_0] at gp gq
    refine lv_aload_n hx hb dX14_make_46 rfl (lv_at hl 5 rfl) ?_
    refine lv_iload_n hx hb dX14_make_47 rfl (lv_at hl 3 rfl) ?_
    refine j_ldcSw hx hb hown rstr553 dX14_make_48 ?_
    refine va_calli (A0 := jA base) (H0 := s.heap) (va_runV (As := [.int r_4, .ref str553]) (rest := []) ⟨hx, hb, hml, hown, hts⟩ (uX14_memberR l dC dI ca base B hB hAp hB16 hB117 hB118 hB119 hB120 hB121 hB127 G0 H_3 r0 r_4 str553 5 (jChT "start") zm xh xn xf xt xb xe xi xg xp T9 nd9 po9 ms mh mx mf mt mb me mi mn fu) (cwV 2 hts (jgV (jWr_55 _ (List.mem_of_getElem? (i := 15) rfl)) (jWr_55 _ (List.mem_of_getElem? (i := 16) rfl)) (jWr_55 _ (List.mem_of_getElem? (i := 17) rfl)) (jWr_1 _ (List.mem_of_getElem? (i := 5) rfl)) (jWr_55 _ (List.mem_of_getElem? (i := 18) rfl))) rfl rfl rfl (by decide +kernel) ⟨by rw [← hR]; exact Nat.le_of_ble_eq_true rfl, by rw [← hR]; exact Nat.le_of_ble_eq_true rfl⟩) ⟨fun a U g mk q => by obtain ⟨q0, q1, q2, qK, q10, q11, q12, q13, q14, q15, q16, q17, q18, q19, q20, q21, q22, q23, q24⟩ := q; exact ⟨q0, q1, q2, jG.calling g mk a qK, (q10.moved (Vm.Alike.refl U.vm)), q11, q12, q13, q14, q15, q16, q17, q18, q19, q20, q21, q22, q23, q24⟩, hh_3.recv (C := RX14) (T := TX14) (N := 74) hB16 rfl (by decide) hg_r0 hK, fun U hU hW => ⟨rfl, hU, hh_3.2.1, hG.step hW hU hh_3.1, (hTstr553.moved hW.alike).kept hh_3.1.2.1, hg_r0, hg_zm, hg_xh, hg_xn, hg_xf, hg_xt, hg_xb, hg_xe, hg_xi, hg_xg, hg_xp, (hh_3.2.2.1.sub (L1 := [(r0, 16, 17, .ref zm), (r0, 16, 18, .ref xh), (r0, 16, 19, .ref xn), (r0, 16, 20, .ref xf), (r0, 16, 21, .ref xt), (r0, 16, 22, .ref xb), (r0, 16, 23, .ref xe), (r0, 16, 24, .ref xi), (r0, 16, 25, .ref xg), (r0, 16, 27, .ref xp)]) [0, 1, 2, 3, 4, 5, 6, 7, 8, 9] rfl), (hh_3.2.2.2.2.2.2.2.1.sub (L1 := [(zm, 117, 3100, ca 1, ms), (xh, 118, 3100, ca 1, mh), (xn, 119, 3100, ca 1, mx), (xf, 120, 3100, ca 1, mf), (xt, 121, 3100, ca 1, mt), (xb, 122, 3100, ca 1, mb), (xe, 123, 3100, ca 1, me), (xi, 124, 3100, ca 3, mi), (xg, 125, 3100, ca 1, mn), (xp, 127, 3300, ca 1, fu)]) [0, 1, 2, 3, 4, 5, 6, 7, 8, 9] rfl), by first | omega | (refine ⟨?_, ?_, ?_, ?_, ?_, ?_, ?_⟩ <;> (first | omega | rfl | assumption | decide | exact Or.inl rfl | exact Or.inr rfl | (simp only; omega)))⟩⟩ rfl rfl hl.1 rfl (lv_room (Nat.le_of_ble_eq_true rfl)) dX14_make_51 ⟨Nat.zero_le _, Nat.zero_le _⟩) hh_3.1 (fun q _ h => h) (fun q h => h) (fun r_40 u_39 t_39 H_39 locs_39 ht_39 hvm_39 hr_40 hb_39 hz_39 hk_39 hS_39 => ?_)
    rw [ht_39] at hb_39
    obtain ⟨hb_391, hb_392, hb_393, hb_394, hb_395⟩ := hb_39
    have hh_39 : jSt (dC, dI) B base G0 G0 EX14_makeR s.heap 0 0 [(r0, 16, 17, .ref zm), (r0, 16, 18, .ref xh), (r0, 16, 19, .ref xn), (r0, 16, 20, .ref xf), (r0, 16, 21, .ref xt), (r0, 16, 22, .ref xb), (r0, 16, 23, .ref xe), (r0, 16, 24, .ref xi), (r0, 16, 25, .ref xg), (r0, 16, 27, .ref xp), (r0, 16, 43, .ref yg), (r0, 16, 44, .int pu), (r0, 16, 45, .ref yl)] [(zm, 117, 3100, ca 1, ms), (xh, 118, 3100, ca 1, mh), (xn, 119, 3100, ca 1, mx), (xf, 120, 3100, ca 1, mf), (xt, 121, 3100, ca 1, mt), (xb, 122, 3100, ca 1, mb), (xe, 123, 3100, ca 1, me), (xi, 124, 3100, ca 3, mi), (xg, 125, 3100, ca 1, mn), (xp, 127, 3300, ca 1, fu), (yg, 112, 3100, ca 1, fg), (yl, 101, 1500, ca 1, fl)] [] H_39 locs_39 := ((hh_3.call hb_391 hb_392 hb_393 hb_394 hS_39 rfl (L1 := [(r0, 16, 17, .ref zm), (r0, 16, 18, .ref xh), (r0, 16, 19, .ref xn), (r0, 16, 20, .ref xf), (r0, 16, 21, .ref xt), (r0, 16, 22, .ref xb), (r0, 16, 23, .ref xe), (r0, 16, 24, .ref xi), (r0, 16, 25, .ref xg), (r0, 16, 27, .ref xp), (r0, 16, 43, .ref yg), (r0, 16, 44, .int pu), (r0, 16, 45, .ref yl)]) [0, 1, 2, 3, 4, 5, 6, 7, 8, 9, 10, 11, 12] rfl rfl (M1 := [(zm, 117, 3100, ca 1, ms), (xh, 118, 3100, ca 1, mh), (xn, 119, 3100, ca 1, mx), (xf, 120, 3100, ca 1, mf), (xt, 121, 3100, ca 1, mt), (xb, 122, 3100, ca 1, mb), (xe, 123, 3100, ca 1, me), (xi, 124, 3100, ca 3, mi), (xg, 125, 3100, ca 1, mn), (xp, 127, 3300, ca 1, fu), (yg, 112, 3100, ca 1, fg), (yl, 101, 1500, ca 1, fl)]) [0, 1, 2, 3, 4, 5, 6, 7, 8, 9, 10, 11] rfl rfl (I1 := []) [] rfl rfl).more hb_395)
    clear hh_3 ht_39 hvm_39 hz_39 hk_39 hS_39 hb_391 hb_392 hb_393 hb_394 hb_395
    obtain ⟨hr_40_0, hr_40_1, hr_40_2⟩ := hr_40
    refine lv_istore (lv' := [(7, .int r_40), (6, .int pu), (5, .int 0), (4, .int z_7), (3, .int r_4), (2, .int r_2), (0, .ref r0), (1, .int a1)]) hx hb dX14_make_54 hl (by decide) rfl (fun ls hl => ?_)
    refine lv_aload_n hx hb dX14_make_56 rfl (lv_at hl 6 rfl) ?_
    refine lv_iload_n hx hb dX14_make_57 rfl (lv_at hl 4 rfl) ?_
    refine j_ldcSw hx hb hown rstr555 dX14_make_58 ?_
    refine va_calli (A0 := jA base) (H0 := s.heap) (va_runV (As := [.int r_4, .ref str555]) (rest := []) ⟨hx, hb, hml, hown, hts⟩ (uX14_memberR l dC dI ca base B hB hAp hB16 hB117 hB118 hB119 hB120 hB121 hB127 G0 H_39 r0 r_4 str555 3 (jChT "end") zm xh xn xf xt xb xe xi xg xp T9 nd9 po9 ms mh mx mf mt mb me mi mn fu) (cwV 2 hts (jgV (jWr_55 _ (List.mem_of_getElem? (i := 15) rfl)) (jWr_55 _ (List.mem_of_getElem? (i := 16) rfl)) (jWr_55 _ (List.mem_of_getElem? (i := 17) rfl)) (jWr_1 _ (List.mem_of_getElem? (i := 5) rfl)) (jWr_55 _ (List.mem_of_getElem? (i := 18) rfl))) rfl rfl rfl (by decide +kernel) ⟨by rw [← hR]; exact Nat.le_of_ble_eq_true rfl, by rw [← hR]; exact Nat.le_of_ble_eq_true rfl⟩) ⟨fun a U g mk q => by obtain ⟨q0, q1, q2, qK, q10, q11, q12, q13, q14, q15, q16, q17, q18, q19, q20, q21, q22, q23, q24⟩ := q; exact ⟨q0, q1, q2, jG.calling g mk a qK, (q10.moved (Vm.Alike.refl U.vm)), q11, q12, q13, q14, q15, q16, q17, q18, q19, q20, q21, q22, q23, q24⟩, hh_39.recv (C := RX14) (T := TX14) (N := 74) hB16 rfl (by decide) hg_r0 hK, fun U hU hW => ⟨rfl, hU, hh_39.2.1, hG.step hW hU hh_39.1, (hTstr555.moved hW.alike).kept hh_39.1.2.1, hg_r0, hg_zm, hg_xh, hg_xn, hg_xf, hg_xt, hg_xb, hg_xe, hg_xi, hg_xg, hg_xp, (hh_39.2.2.1.sub (L1 := [(r0, 16, 17, .ref zm), (r0, 16, 18, .ref xh), (r0, 16, 19, .ref xn), (r0, 16, 20, .ref xf), (r0, 16, 21, .ref xt), (r0, 16, 22, .ref xb), (r0, 16, 23, .ref xe), (r0, 16, 24, .ref xi), (r0, 16, 25, .ref xg), (r0, 16, 27, .ref xp)]) [0, 1, 2, 3, 4, 5, 6, 7, 8, 9] rfl), (hh_39.2.2.2.2.2.2.2.1.sub (L1 := [(zm, 117, 3100, ca 1, ms), (xh, 118, 3100, ca 1, mh), (xn, 119, 3100, ca 1, mx), (xf, 120, 3100, ca 1, mf), (xt, 121, 3100, ca 1, mt), (xb, 122, 3100, ca 1, mb), (xe, 123, 3100, ca 1, me), (xi, 124, 3100, ca 3, mi), (xg, 125, 3100, ca 1, mn), (xp, 127, 3300, ca 1, fu)]) [0, 1, 2, 3, 4, 5, 6, 7, 8, 9] rfl), by first | omega | (refine ⟨?_, ?_, ?_, ?_, ?_, ?_, ?_⟩ <;> (first | omega | rfl | assumption | decide | exact Or.inl rfl | exact Or.inr rfl | (simp only; omega)))⟩⟩ rfl rfl hl.1 rfl (lv_room (Nat.le_of_ble_eq_true rfl)) dX14_make_61 ⟨Nat.zero_le _, Nat.zero_le _⟩) hh_39.1 (fun q _ h => h) (fun q h => h) (fun r_42 u_41 t_41 H_41 locs_41 ht_41 hvm_41 hr_42 hb_41 hz_41 hk_41 hS_41 => ?_)
    rw [ht_41] at hb_41
    obtain ⟨hb_411, hb_412, hb_413, hb_414, hb_415⟩ := hb_41
    have hh_41 : jSt (dC, dI) B base G0 G0 EX14_makeR s.heap 0 0 [(r0, 16, 17, .ref zm), (r0, 16, 18, .ref xh), (r0, 16, 19, .ref xn), (r0, 16, 20, .ref xf), (r0, 16, 21, .ref xt), (r0, 16, 22, .ref xb), (r0, 16, 23, .ref xe), (r0, 16, 24, .ref xi), (r0, 16, 25, .ref xg), (r0, 16, 27, .ref xp), (r0, 16, 43, .ref yg), (r0, 16, 44, .int pu), (r0, 16, 45, .ref yl)] [(zm, 117, 3100, ca 1, ms), (xh, 118, 3100, ca 1, mh), (xn, 119, 3100, ca 1, mx), (xf, 120, 3100, ca 1, mf), (xt, 121, 3100, ca 1, mt), (xb, 122, 3100, ca 1, mb), (xe, 123, 3100, ca 1, me), (xi, 124, 3100, ca 3, mi), (xg, 125, 3100, ca 1, mn), (xp, 127, 3300, ca 1, fu), (yg, 112, 3100, ca 1, fg), (yl, 101, 1500, ca 1, fl)] [] H_41 locs_41 := ((hh_39.call hb_411 hb_412 hb_413 hb_414 hS_41 rfl (L1 := [(r0, 16, 17, .ref zm), (r0, 16, 18, .ref xh), (r0, 16, 19, .ref xn), (r0, 16, 20, .ref xf), (r0, 16, 21, .ref xt), (r0, 16, 22, .ref xb), (r0, 16, 23, .ref xe), (r0, 16, 24, .ref xi), (r0, 16, 25, .ref xg), (r0, 16, 27, .ref xp), (r0, 16, 43, .ref yg), (r0, 16, 44, .int pu), (r0, 16, 45, .ref yl)]) [0, 1, 2, 3, 4, 5, 6, 7, 8, 9, 10, 11, 12] rfl rfl (M1 := [(zm, 117, 3100, ca 1, ms), (xh, 118, 3100, ca 1, mh), (xn, 119, 3100, ca 1, mx), (xf, 120, 3100, ca 1, mf), (xt, 121, 3100, ca 1, mt), (xb, 122, 3100, ca 1, mb), (xe, 123, 3100, ca 1, me), (xi, 124, 3100, ca 3, mi), (xg, 125, 3100, ca 1, mn), (xp, 127, 3300, ca 1, fu), (yg, 112, 3100, ca 1, fg), (yl, 101, 1500, ca 1, fl)]) [0, 1, 2, 3, 4, 5, 6, 7, 8, 9, 10, 11] rfl rfl (I1 := []) [] rfl rfl).more hb_415)
    clear hh_39 ht_41 hvm_41 hz_41 hk_41 hS_41 hb_411 hb_412 hb_413 hb_414 hb_415
    obtain ⟨hr_42_0, hr_42_1, hr_42_2⟩ := hr_42
    refine lv_istore (lv' := [(8, .int r_42), (7, .int r_40), (6, .int pu), (5, .int 0), (4, .int z_7), (3, .int r_4), (2, .int r_2), (0, .ref r0), (1, .int a1)]) hx hb dX14_make_64 hl (by decide) rfl (fun ls hl => ?_)
    rw [← hr_40_0] at gp
    rw [← hr_42_0] at gq
    refine lv_aload_n hx hb dX14_make_66 rfl (lv_at hl 7 rfl) ?_
    refine j7_read hx hb hown hK (C := RX14) (T := TX14) (N := 74) rfl hly_16_43 hlk_78 (hh_41.at 10 rfl) dX14_make_67 ?_
    refine lv_aload_n hx hb dX14_make_70 rfl (lv_at hl 7 rfl) ?_
    refine j7_read hx hb hown hK (C := RX14) (T := TX14) (N := 74) rfl hly_16_44 hlk_550 (hh_41.at 11 rfl) dX14_make_71 ?_
    refine lv_aload_n hx hb dX14_make_74 rfl (lv_at hl 7 rfl) ?_
    refine lv_iload hx hb dX14_make_75 (lv_at hl 1 rfl) ?_
    refine va_calli (A0 := jA base) (H0 := s.heap) (va_runV (As := [.int r_40]) (rest := [.int pu, .ref yg]) ⟨hx, hb, hml, hown, hts⟩ (uX14_lineOfR l dC dI ca base B hB hAp hB16 hB117 hB118 hB119 hB120 hB121 hB125 hB127 G0 H_41 r0 r_40 zm xh xn xf xt xb xe xi xg xp T9 nd9 po9 ms mh mx mf mt mb me mi mn fu) (cwV 1 hts (jgV (jWr_73 _ (List.mem_of_getElem? (i := 11) rfl)) (jWr_73 _ (List.mem_of_getElem? (i := 12) rfl)) (jWr_73 _ (List.mem_of_getElem? (i := 13) rfl)) (jWr_1 _ (List.mem_of_getElem? (i := 5) rfl)) (jWr_73 _ (List.mem_of_getElem? (i := 14) rfl))) rfl rfl rfl (by decide +kernel) ⟨by rw [← hR]; exact Nat.le_of_ble_eq_true rfl, by rw [← hR]; exact Nat.le_of_ble_eq_true rfl⟩) ⟨fun a U g mk q => by obtain ⟨q0, q1, q2, qK, q10, q11, q12, q13, q14, q15, q16, q17, q18, q19, q20, q21, q22, q23⟩ := q; exact ⟨q0, q1, q2, jG.calling g mk a qK, q10, q11, q12, q13, q14, q15, q16, q17, q18, q19, q20, q21, q22, q23⟩, hh_41.recv (C := RX14) (T := TX14) (N := 74) hB16 rfl (by decide) hg_r0 hK, fun U hU hW => ⟨rfl, hU, hh_41.2.1, hG.step hW hU hh_41.1, hg_r0, hg_zm, hg_xh, hg_xn, hg_xf, hg_xt, hg_xb, hg_xe, hg_xi, hg_xg, hg_xp, (hh_41.2.2.1.sub (L1 := [(r0, 16, 17, .ref zm), (r0, 16, 18, .ref xh), (r0, 16, 19, .ref xn), (r0, 16, 20, .ref xf), (r0, 16, 21, .ref xt), (r0, 16, 22, .ref xb), (r0, 16, 23, .ref xe), (r0, 16, 24, .ref xi), (r0, 16, 25, .ref xg), (r0, 16, 27, .ref xp)]) [0, 1, 2, 3, 4, 5, 6, 7, 8, 9] rfl), (hh_41.2.2.2.2.2.2.2.1.sub (L1 := [(zm, 117, 3100, ca 1, ms), (xh, 118, 3100, ca 1, mh), (xn, 119, 3100, ca 1, mx), (xf, 120, 3100, ca 1, mf), (xt, 121, 3100, ca 1, mt), (xb, 122, 3100, ca 1, mb), (xe, 123, 3100, ca 1, me), (xi, 124, 3100, ca 3, mi), (xg, 125, 3100, ca 1, mn), (xp, 127, 3300, ca 1, fu)]) [0, 1, 2, 3, 4, 5, 6, 7, 8, 9] rfl), ⟨(by first | omega | rfl | assumption | exact gp.1), (by first | omega | rfl | assumption | exact gp.1), (by first | assumption | exact gp.1 | omega), (by first | omega | rfl | assumption | exact gp.1), (by first | omega | rfl | assumption | exact gp.1), (by first | assumption | exact gp.1 | omega)⟩⟩⟩ rfl rfl hl.1 rfl (lv_room (Nat.le_of_ble_eq_true rfl)) dX14_make_77 ⟨Nat.zero_le _, Nat.zero_le _⟩) hh_41.1 (fun q _ h => h) (fun q h => h) (fun r_44 u_43 t_43 H_43 locs_43 ht_43 hvm_43 hr_44 hb_43 hz_43 hk_43 hS_43 => ?_)
    rw [ht_43] at hb_43
    obtain ⟨hb_431, hb_432, hb_433, hb_434, hb_435⟩ := hb_43
    have hh_43 : jSt (dC, dI) B base G0 G0 EX14_makeR s.heap 0 0 [(r0, 16, 17, .ref zm), (r0, 16, 18, .ref xh), (r0, 16, 19, .ref xn), (r0, 16, 20, .ref xf), (r0, 16, 21, .ref xt), (r0, 16, 22, .ref xb), (r0, 16, 23, .ref xe), (r0, 16, 24, .ref xi), (r0, 16, 25, .ref xg), (r0, 16, 27, .ref xp), (r0, 16, 43, .ref yg), (r0, 16, 44, .int pu), (r0, 16, 45, .ref yl)] [(zm, 117, 3100, ca 1, ms), (xh, 118, 3100, ca 1, mh), (xn, 119, 3100, ca 1, mx), (xf, 120, 3100, ca 1, mf), (xt, 121, 3100, ca 1, mt), (xb, 122, 3100, ca 1, mb), (xe, 123, 3100, ca 1, me), (xi, 124, 3100, ca 3, mi), (xg, 125, 3100, ca 1, mn), (xp, 127, 3300, ca 1, fu), (yg, 112, 3100, ca 1, fg), (yl, 101, 1500, ca 1, fl)] [] H_43 locs_43 := ((hh_41.call hb_431 hb_432 hb_433 hb_434 hS_43 rfl (L1 := [(r0, 16, 17, .ref zm), (r0, 16, 18, .ref xh), (r0, 16, 19, .ref xn), (r0, 16, 20, .ref xf), (r0, 16, 21, .ref xt), (r0, 16, 22, .ref xb), (r0, 16, 23, .ref xe), (r0, 16, 24, .ref xi), (r0, 16, 25, .ref xg), (r0, 16, 27, .ref xp), (r0, 16, 43, .ref yg), (r0, 16, 44, .int pu), (r0, 16, 45, .ref yl)]) [0, 1, 2, 3, 4, 5, 6, 7, 8, 9, 10, 11, 12] rfl rfl (M1 := [(zm, 117, 3100, ca 1, ms), (xh, 118, 3100, ca 1, mh), (xn, 119, 3100, ca 1, mx), (xf, 120, 3100, ca 1, mf), (xt, 121, 3100, ca 1, mt), (xb, 122, 3100, ca 1, mb), (xe, 123, 3100, ca 1, me), (xi, 124, 3100, ca 3, mi), (xg, 125, 3100, ca 1, mn), (xp, 127, 3300, ca 1, fu), (yg, 112, 3100, ca 1, fg), (yl, 101, 1500, ca 1, fl)]) [0, 1, 2, 3, 4, 5, 6, 7, 8, 9, 10, 11] rfl rfl (I1 := []) [] rfl rfl).more hb_435)
    clear hh_41 ht_43 hvm_43 hz_43 hk_43 hS_43 hb_431 hb_432 hb_433 hb_434 hb_435
    refine lv_aload_n hx hb dX14_make_80 rfl (lv_at hl 7 rfl) ?_
    refine lv_iload hx hb dX14_make_81 (lv_at hl 1 rfl) ?_
    refine va_calli (A0 := jA base) (H0 := s.heap) (va_runV (As := [.int r_40]) (rest := [.int r_44, .int pu, .ref yg]) ⟨hx, hb, hml, hown, hts⟩ (uX14_characterOfR l dC dI ca base B hB hAp hB16 hB117 hB118 hB119 hB120 hB121 hB125 hB127 G0 H_43 r0 r_40 zm xh xn xf xt xb xe xi xg xp T9 nd9 po9 ms mh mx mf mt mb me mi mn fu) (cwV 1 hts (jgV (jWr_73 _ (List.mem_of_getElem? (i := 15) rfl)) (jWr_73 _ (List.mem_of_getElem? (i := 16) rfl)) (jWr_73 _ (List.mem_of_getElem? (i := 17) rfl)) (jWr_1 _ (List.mem_of_getElem? (i := 5) rfl)) (jWr_73 _ (List.mem_of_getElem? (i := 18) rfl))) rfl rfl rfl (by decide +kernel) ⟨by rw [← hR]; exact Nat.le_of_ble_eq_true rfl, by rw [← hR]; exact Nat.le_of_ble_eq_true rfl⟩) ⟨fun a U g mk q => by obtain ⟨q0, q1, q2, qK, q10, q11, q12, q13, q14, q15, q16, q17, q18, q19, q20, q21, q22, q23⟩ := q; exact ⟨q0, q1, q2, jG.calling g mk a qK, q10, q11, q12, q13, q14, q15, q16, q17, q18, q19, q20, q21, q22, q23⟩, hh_43.recv (C := RX14) (T := TX14) (N := 74) hB16 rfl (by decide) hg_r0 hK, fun U hU hW => ⟨rfl, hU, hh_43.2.1, hG.step hW hU hh_43.1, hg_r0, hg_zm, hg_xh, hg_xn, hg_xf, hg_xt, hg_xb, hg_xe, hg_xi, hg_xg, hg_xp, (hh_43.2.2.1.sub (L1 := [(r0, 16, 17, .ref zm), (r0, 16, 18, .ref xh), (r0, 16, 19, .ref xn), (r0, 16, 20, .ref xf), (r0, 16, 21, .ref xt), (r0, 16, 22, .ref xb), (r0, 16, 23, .ref xe), (r0, 16, 24, .ref xi), (r0, 16, 25, .ref xg), (r0, 16, 27, .ref xp)]) [0, 1, 2, 3, 4, 5, 6, 7, 8, 9] rfl), (hh_43.2.2.2.2.2.2.2.1.sub (L1 := [(zm, 117, 3100, ca 1, ms), (xh, 118, 3100, ca 1, mh), (xn, 119, 3100, ca 1, mx), (xf, 120, 3100, ca 1, mf), (xt, 121, 3100, ca 1, mt), (xb, 122, 3100, ca 1, mb), (xe, 123, 3100, ca 1, me), (xi, 124, 3100, ca 3, mi), (xg, 125, 3100, ca 1, mn), (xp, 127, 3300, ca 1, fu)]) [0, 1, 2, 3, 4, 5, 6, 7, 8, 9] rfl), ⟨(by first | omega | rfl | assumption | exact gp.2.1), (by first | omega | rfl | assumption | exact gp.2.1), (by first | assumption | exact gp.2.1 | omega), (by first | omega | rfl | assumption | exact gp.2.1), (by first | omega | rfl | assumption | exact gp.2.1), (by first | assumption | exact gp.2.1 | omega)⟩⟩⟩ rfl rfl hl.1 rfl (lv_room (Nat.le_of_ble_eq_true rfl)) dX14_make_83 ⟨Nat.zero_le _, Nat.zero_le _⟩) hh_43.1 (fun q _ h => h) (fun q h => h) (fun r_46 u_45 t_45 H_45 locs_45 ht_45 hvm_45 hr_46 hb_45 hz_45 hk_45 hS_45 => ?_)
    rw [ht_45] at hb_45
    obtain ⟨hb_451, hb_452, hb_453, hb_454, hb_455⟩ := hb_45
    have hh_45 : jSt (dC, dI) B base G0 G0 EX14_makeR s.heap 0 0 [(r0, 16, 17, .ref zm), (r0, 16, 18, .ref xh), (r0, 16, 19, .ref xn), (r0, 16, 20, .ref xf), (r0, 16, 21, .ref xt), (r0, 16, 22, .ref xb), (r0, 16, 23, .ref xe), (r0, 16, 24, .ref xi), (r0, 16, 25, .ref xg), (r0, 16, 27, .ref xp), (r0, 16, 43, .ref yg), (r0, 16, 44, .int pu), (r0, 16, 45, .ref yl)] [(zm, 117, 3100, ca 1, ms), (xh, 118, 3100, ca 1, mh), (xn, 119, 3100, ca 1, mx), (xf, 120, 3100, ca 1, mf), (xt, 121, 3100, ca 1, mt), (xb, 122, 3100, ca 1, mb), (xe, 123, 3100, ca 1, me), (xi, 124, 3100, ca 3, mi), (xg, 125, 3100, ca 1, mn), (xp, 127, 3300, ca 1, fu), (yg, 112, 3100, ca 1, fg), (yl, 101, 1500, ca 1, fl)] [] H_45 locs_45 := ((hh_43.call hb_451 hb_452 hb_453 hb_454 hS_45 rfl (L1 := [(r0, 16, 17, .ref zm), (r0, 16, 18, .ref xh), (r0, 16, 19, .ref xn), (r0, 16, 20, .ref xf), (r0, 16, 21, .ref xt), (r0, 16, 22, .ref xb), (r0, 16, 23, .ref xe), (r0, 16, 24, .ref xi), (r0, 16, 25, .ref xg), (r0, 16, 27, .ref xp), (r0, 16, 43, .ref yg), (r0, 16, 44, .int pu), (r0, 16, 45, .ref yl)]) [0, 1, 2, 3, 4, 5, 6, 7, 8, 9, 10, 11, 12] rfl rfl (M1 := [(zm, 117, 3100, ca 1, ms), (xh, 118, 3100, ca 1, mh), (xn, 119, 3100, ca 1, mx), (xf, 120, 3100, ca 1, mf), (xt, 121, 3100, ca 1, mt), (xb, 122, 3100, ca 1, mb), (xe, 123, 3100, ca 1, me), (xi, 124, 3100, ca 3, mi), (xg, 125, 3100, ca 1, mn), (xp, 127, 3300, ca 1, fu), (yg, 112, 3100, ca 1, fg), (yl, 101, 1500, ca 1, fl)]) [0, 1, 2, 3, 4, 5, 6, 7, 8, 9, 10, 11] rfl rfl (I1 := []) [] rfl rfl).more hb_455)
    clear hh_43 ht_45 hvm_45 hz_45 hk_45 hS_45 hb_451 hb_452 hb_453 hb_454 hb_455
    refine va_calli (A0 := jA base) (H0 := s.heap) (va_runS (As := [.ref yg, .int pu, .int r_44, .int r_46]) (rest := []) ⟨hx, hb, hml, hown, hts⟩ (uX14_placeOfR l dC dI ca base B hB hAp hB101 hB112 G0 H_45 yg pu r_44 r_46 3100 fg) (va_cwS 4 hts (jgS (jWr_73 _ (List.mem_of_getElem? (i := 19) rfl)) (jWr_73 _ (List.mem_of_getElem? (i := 20) rfl)) (jWr_1 _ (List.mem_of_getElem? (i := 5) rfl)) (jWr_73 _ (List.mem_of_getElem? (i := 21) rfl))) rfl rfl rfl (by decide +kernel) ⟨by rw [← hR]; exact Nat.le_of_ble_eq_true rfl, by rw [← hR]; exact Nat.le_of_ble_eq_true rfl⟩) ⟨fun a U g mk q => by obtain ⟨q0, q1, q2, qK, q10, q11, q12, q13⟩ := q; exact ⟨q0, q1, q2, jG.calling g mk a qK, q10, q11, q12, q13⟩, fun U hU hW => ⟨rfl, hU, hh_45.2.1, hG.step hW hU hh_45.1, hg_yg, jP.nil, (hh_45.2.2.2.2.2.2.2.1.sub (L1 := [(yg, 112, 3100, ca 1, fg)]) [10] rfl), ⟨(by first | omega | rfl | assumption | (rw [hr_44]; exact gp.2.2.1) | (rw [hr_46]; exact gp.2.2.2)), (by first | omega | rfl | assumption | (rw [hr_44]; exact gp.2.2.1) | (rw [hr_46]; exact gp.2.2.2)), (by first | omega | rfl | assumption | (rw [hr_44]; exact gp.2.2.1) | (rw [hr_46]; exact gp.2.2.2)), (by first | omega | rfl | assumption | (rw [hr_44]; exact gp.2.2.1) | (rw [hr_46]; exact gp.2.2.2)), (by first | omega | rfl | assumption | (rw [hr_44]; exact gp.2.2.1) | (rw [hr_46]; exact gp.2.2.2))⟩⟩⟩ rfl rfl hl.1 rfl (lv_room (Nat.le_of_ble_eq_true rfl)) dX14_make_86 ⟨Nat.zero_le _, Nat.zero_le _⟩) hh_45.1 (fun q _ h => h) (fun q h => h) (fun r_48 u_47 t_47 H_47 locs_47 ht_47 hvm_47 hr_48 hb_47 hz_47 hk_47 hS_47 => ?_)
    rw [ht_47] at hb_47
    obtain ⟨hb_471, hb_472, hb_473, hb_474, hb_475⟩ := hb_47
    have hh_47 : jSt (dC, dI) B base G0 G0 EX14_makeR s.heap 0 0 [(r0, 16, 17, .ref zm), (r0, 16, 18, .ref xh), (r0, 16, 19, .ref xn), (r0, 16, 20, .ref xf), (r0, 16, 21, .ref xt), (r0, 16, 22, .ref xb), (r0, 16, 23, .ref xe), (r0, 16, 24, .ref xi), (r0, 16, 25, .ref xg), (r0, 16, 27, .ref xp), (r0, 16, 43, .ref yg), (r0, 16, 44, .int pu), (r0, 16, 45, .ref yl)] [(zm, 117, 3100, ca 1, ms), (xh, 118, 3100, ca 1, mh), (xn, 119, 3100, ca 1, mx), (xf, 120, 3100, ca 1, mf), (xt, 121, 3100, ca 1, mt), (xb, 122, 3100, ca 1, mb), (xe, 123, 3100, ca 1, me), (xi, 124, 3100, ca 3, mi), (xg, 125, 3100, ca 1, mn), (xp, 127, 3300, ca 1, fu), (yg, 112, 3100, ca 1, fg), (yl, 101, 1500, ca 1, fl)] [] H_47 locs_47 := ((hh_45.call hb_471 hb_472 hb_473 hb_474 hS_47 rfl (L1 := [(r0, 16, 17, .ref zm), (r0, 16, 18, .ref xh), (r0, 16, 19, .ref xn), (r0, 16, 20, .ref xf), (r0, 16, 21, .ref xt), (r0, 16, 22, .ref xb), (r0, 16, 23, .ref xe), (r0, 16, 24, .ref xi), (r0, 16, 25, .ref xg), (r0, 16, 27, .ref xp), (r0, 16, 43, .ref yg), (r0, 16, 44, .int pu), (r0, 16, 45, .ref yl)]) [0, 1, 2, 3, 4, 5, 6, 7, 8, 9, 10, 11, 12] rfl rfl (M1 := [(zm, 117, 3100, ca 1, ms), (xh, 118, 3100, ca 1, mh), (xn, 119, 3100, ca 1, mx), (xf, 120, 3100, ca 1, mf), (xt, 121, 3100, ca 1, mt), (xb, 122, 3100, ca 1, mb), (xe, 123, 3100, ca 1, me), (xi, 124, 3100, ca 3, mi), (xg, 125, 3100, ca 1, mn), (xp, 127, 3300, ca 1, fu), (yg, 112, 3100, ca 1, fg), (yl, 101, 1500, ca 1, fl)]) [0, 1, 2, 3, 4, 5, 6, 7, 8, 9, 10, 11] rfl rfl (I1 := []) [] rfl rfl).more hb_475)
    clear hh_45 ht_47 hvm_47 hz_47 hk_47 hS_47 hb_471 hb_472 hb_473 hb_474 hb_475
    obtain ⟨hr_48_0, hr_48_1, hr_48_2⟩ := hr_48
    refine lv_istore (lv' := [(5, .int r_48), (8, .int r_42), (7, .int r_40), (6, .int pu), (4, .int z_7), (3, .int r_4), (2, .int r_2), (0, .ref r0), (1, .int a1)]) hx hb dX14_make_89 hl (by decide) rfl (fun ls hl => ?_)
    refine lv_aload_n hx hb dX14_make_91 rfl (lv_at hl 7 rfl) ?_
    refine j7_read hx hb hown hK (C := RX14) (T := TX14) (N := 74) rfl hly_16_43 hlk_78 (hh_47.at 10 rfl) dX14_make_92 ?_
    refine lv_aload_n hx hb dX14_make_95 rfl (lv_at hl 7 rfl) ?_
    refine j7_read hx hb hown hK (C := RX14) (T := TX14) (N := 74) rfl hly_16_44 hlk_550 (hh_47.at 11 rfl) dX14_make_96 ?_
    refine lv_aload_n hx hb dX14_make_99 rfl (lv_at hl 7 rfl) ?_
    refine lv_iload hx hb dX14_make_100 (lv_at hl 1 rfl) ?_
    refine va_calli (A0 := jA base) (H0 := s.heap) (va_runV (As := [.int r_42]) (rest := [.int pu, .ref yg]) ⟨hx, hb, hml, hown, hts⟩ (uX14_lineOfR l dC dI ca base B hB hAp hB16 hB117 hB118 hB119 hB120 hB121 hB125 hB127 G0 H_47 r0 r_42 zm xh xn xf xt xb xe xi xg xp T9 nd9 po9 ms mh mx mf mt mb me mi mn fu) (cwV 1 hts (jgV (jWr_73 _ (List.mem_of_getElem? (i := 11) rfl)) (jWr_73 _ (List.mem_of_getElem? (i := 12) rfl)) (jWr_73 _ (List.mem_of_getElem? (i := 13) rfl)) (jWr_1 _ (List.mem_of_getElem? (i := 5) rfl)) (jWr_73 _ (List.mem_of_getElem? (i := 14) rfl))) rfl rfl rfl (by decide +kernel) ⟨by rw [← hR]; exact Nat.le_of_ble_eq_true rfl, by rw [← hR]; exact Nat.le_of_ble_eq_true rfl⟩) ⟨fun a U g mk q => by obtain ⟨q0, q1, q2, qK, q10, q11, q12, q13, q14, q15, q16, q17, q18, q19, q20, q21, q22, q23⟩ := q; exact ⟨q0, q1, q2, jG.calling g mk a qK, q10, q11, q12, q13, q14, q15, q16, q17, q18, q19, q20, q21, q22, q23⟩, hh_47.recv (C := RX14) (T := TX14) (N := 74) hB16 rfl (by decide) hg_r0 hK, fun U hU hW => ⟨rfl, hU, hh_47.2.1, hG.step hW hU hh_47.1, hg_r0, hg_zm, hg_xh, hg_xn, hg_xf, hg_xt, hg_xb, hg_xe, hg_xi, hg_xg, hg_xp, (hh_47.2.2.1.sub (L1 := [(r0, 16, 17, .ref zm), (r0, 16, 18, .ref xh), (r0, 16, 19, .ref xn), (r0, 16, 20, .ref xf), (r0, 16, 21, .ref xt), (r0, 16, 22, .ref xb), (r0, 16, 23, .ref xe), (r0, 16, 24, .ref xi), (r0, 16, 25, .ref xg), (r0, 16, 27, .ref xp)]) [0, 1, 2, 3, 4, 5, 6, 7, 8, 9] rfl), (hh_47.2.2.2.2.2.2.2.1.sub (L1 := [(zm, 117, 3100, ca 1, ms), (xh, 118, 3100, ca 1, mh), (xn, 119, 3100, ca 1, mx), (xf, 120, 3100, ca 1, mf), (xt, 121, 3100, ca 1, mt), (xb, 122, 3100, ca 1, mb), (xe, 123, 3100, ca 1, me), (xi, 124, 3100, ca 3, mi), (xg, 125, 3100, ca 1, mn), (xp, 127, 3300, ca 1, fu)]) [0, 1, 2, 3, 4, 5, 6, 7, 8, 9] rfl), ⟨(by first | omega | rfl | assumption | exact gq.1), (by first | omega | rfl | assumption | exact gq.1), (by first | assumption | exact gq.1 | omega), (by first | omega | rfl | assumption | exact gq.1), (by first | omega | rfl | assumption | exact gq.1), (by first | assumption | exact gq.1 | omega)⟩⟩⟩ rfl rfl hl.1 rfl (lv_room (Nat.le_of_ble_eq_true rfl)) dX14_make_102 ⟨Nat.zero_le _, Nat.zero_le _⟩) hh_47.1 (fun q _ h => h) (fun q h => h) (fun r_50 u_49 t_49 H_49 locs_49 ht_49 hvm_49 hr_50 hb_49 hz_49 hk_49 hS_49 => ?_)
    rw [ht_49] at hb_49
    obtain ⟨hb_491, hb_492, hb_493, hb_494, hb_495⟩ := hb_49
    have hh_49 : jSt (dC, dI) B base G0 G0 EX14_makeR s.heap 0 0 [(r0, 16, 17, .ref zm), (r0, 16, 18, .ref xh), (r0, 16, 19, .ref xn), (r0, 16, 20, .ref xf), (r0, 16, 21, .ref xt), (r0, 16, 22, .ref xb), (r0, 16, 23, .ref xe), (r0, 16, 24, .ref xi), (r0, 16, 25, .ref xg), (r0, 16, 27, .ref xp), (r0, 16, 43, .ref yg), (r0, 16, 44, .int pu), (r0, 16, 45, .ref yl)] [(zm, 117, 3100, ca 1, ms), (xh, 118, 3100, ca 1, mh), (xn, 119, 3100, ca 1, mx), (xf, 120, 3100, ca 1, mf), (xt, 121, 3100, ca 1, mt), (xb, 122, 3100, ca 1, mb), (xe, 123, 3100, ca 1, me), (xi, 124, 3100, ca 3, mi), (xg, 125, 3100, ca 1, mn), (xp, 127, 3300, ca 1, fu), (yg, 112, 3100, ca 1, fg), (yl, 101, 1500, ca 1, fl)] [] H_49 locs_49 := ((hh_47.call hb_491 hb_492 hb_493 hb_494 hS_49 rfl (L1 := [(r0, 16, 17, .ref zm), (r0, 16, 18, .ref xh), (r0, 16, 19, .ref xn), (r0, 16, 20, .ref xf), (r0, 16, 21, .ref xt), (r0, 16, 22, .ref xb), (r0, 16, 23, .ref xe), (r0, 16, 24, .ref xi), (r0, 16, 25, .ref xg), (r0, 16, 27, .ref xp), (r0, 16, 43, .ref yg), (r0, 16, 44, .int pu), (r0, 16, 45, .ref yl)]) [0, 1, 2, 3, 4, 5, 6, 7, 8, 9, 10, 11, 12] rfl rfl (M1 := [(zm, 117, 3100, ca 1, ms), (xh, 118, 3100, ca 1, mh), (xn, 119, 3100, ca 1, mx), (xf, 120, 3100, ca 1, mf), (xt, 121, 3100, ca 1, mt), (xb, 122, 3100, ca 1, mb), (xe, 123, 3100, ca 1, me), (xi, 124, 3100, ca 3, mi), (xg, 125, 3100, ca 1, mn), (xp, 127, 3300, ca 1, fu), (yg, 112, 3100, ca 1, fg), (yl, 101, 1500, ca 1, fl)]) [0, 1, 2, 3, 4, 5, 6, 7, 8, 9, 10, 11] rfl rfl (I1 := []) [] rfl rfl).more hb_495)
    clear hh_47 ht_49 hvm_49 hz_49 hk_49 hS_49 hb_491 hb_492 hb_493 hb_494 hb_495
    refine lv_aload_n hx hb dX14_make_105 rfl (lv_at hl 7 rfl) ?_
    refine lv_iload hx hb dX14_make_106 (lv_at hl 1 rfl) ?_
    refine va_calli (A0 := jA base) (H0 := s.heap) (va_runV (As := [.int r_42]) (rest := [.int r_50, .int pu, .ref yg]) ⟨hx, hb, hml, hown, hts⟩ (uX14_characterOfR l dC dI ca base B hB hAp hB16 hB117 hB118 hB119 hB120 hB121 hB125 hB127 G0 H_49 r0 r_42 zm xh xn xf xt xb xe xi xg xp T9 nd9 po9 ms mh mx mf mt mb me mi mn fu) (cwV 1 hts (jgV (jWr_73 _ (List.mem_of_getElem? (i := 15) rfl)) (jWr_73 _ (List.mem_of_getElem? (i := 16) rfl)) (jWr_73 _ (List.mem_of_getElem? (i := 17) rfl)) (jWr_1 _ (List.mem_of_getElem? (i := 5) rfl)) (jWr_73 _ (List.mem_of_getElem? (i := 18) rfl))) rfl rfl rfl (by decide +kernel) ⟨by rw [← hR]; exact Nat.le_of_ble_eq_true rfl, by rw [← hR]; exact Nat.le_of_ble_eq_true rfl⟩) ⟨fun a U g mk q => by obtain ⟨q0, q1, q2, qK, q10, q11, q12, q13, q14, q15, q16, q17, q18, q19, q20, q21, q22, q23⟩ := q; exact ⟨q0, q1, q2, jG.calling g mk a qK, q10, q11, q12, q13, q14, q15, q16, q17, q18, q19, q20, q21, q22, q23⟩, hh_49.recv (C := RX14) (T := TX14) (N := 74) hB16 rfl (by decide) hg_r0 hK, fun U hU hW => ⟨rfl, hU, hh_49.2.1, hG.step hW hU hh_49.1, hg_r0, hg_zm, hg_xh, hg_xn, hg_xf, hg_xt, hg_xb, hg_xe, hg_xi, hg_xg, hg_xp, (hh_49.2.2.1.sub (L1 := [(r0, 16, 17, .ref zm), (r0, 16, 18, .ref xh), (r0, 16, 19, .ref xn), (r0, 16, 20, .ref xf), (r0, 16, 21, .ref xt), (r0, 16, 22, .ref xb), (r0, 16, 23, .ref xe), (r0, 16, 24, .ref xi), (r0, 16, 25, .ref xg), (r0, 16, 27, .ref xp)]) [0, 1, 2, 3, 4, 5, 6, 7, 8, 9] rfl), (hh_49.2.2.2.2.2.2.2.1.sub (L1 := [(zm, 117, 3100, ca 1, ms), (xh, 118, 3100, ca 1, mh), (xn, 119, 3100, ca 1, mx), (xf, 120, 3100, ca 1, mf), (xt, 121, 3100, ca 1, mt), (xb, 122, 3100, ca 1, mb), (xe, 123, 3100, ca 1, me), (xi, 124, 3100, ca 3, mi), (xg, 125, 3100, ca 1, mn), (xp, 127, 3300, ca 1, fu)]) [0, 1, 2, 3, 4, 5, 6, 7, 8, 9] rfl), ⟨(by first | omega | rfl | assumption | exact gq.2.1), (by first | omega | rfl | assumption | exact gq.2.1), (by first | assumption | exact gq.2.1 | omega), (by first | omega | rfl | assumption | exact gq.2.1), (by first | omega | rfl | assumption | exact gq.2.1), (by first | assumption | exact gq.2.1 | omega)⟩⟩⟩ rfl rfl hl.1 rfl (lv_room (Nat.le_of_ble_eq_true rfl)) dX14_make_108 ⟨Nat.zero_le _, Nat.zero_le _⟩) hh_49.1 (fun q _ h => h) (fun q h => h) (fun r_52 u_51 t_51 H_51 locs_51 ht_51 hvm_51 hr_52 hb_51 hz_51 hk_51 hS_51 => ?_)
    rw [ht_51] at hb_51
    obtain ⟨hb_511, hb_512, hb_513, hb_514, hb_515⟩ := hb_51
    have hh_51 : jSt (dC, dI) B base G0 G0 EX14_makeR s.heap 0 0 [(r0, 16, 17, .ref zm), (r0, 16, 18, .ref xh), (r0, 16, 19, .ref xn), (r0, 16, 20, .ref xf), (r0, 16, 21, .ref xt), (r0, 16, 22, .ref xb), (r0, 16, 23, .ref xe), (r0, 16, 24, .ref xi), (r0, 16, 25, .ref xg), (r0, 16, 27, .ref xp), (r0, 16, 43, .ref yg), (r0, 16, 44, .int pu), (r0, 16, 45, .ref yl)] [(zm, 117, 3100, ca 1, ms), (xh, 118, 3100, ca 1, mh), (xn, 119, 3100, ca 1, mx), (xf, 120, 3100, ca 1, mf), (xt, 121, 3100, ca 1, mt), (xb, 122, 3100, ca 1, mb), (xe, 123, 3100, ca 1, me), (xi, 124, 3100, ca 3, mi), (xg, 125, 3100, ca 1, mn), (xp, 127, 3300, ca 1, fu), (yg, 112, 3100, ca 1, fg), (yl, 101, 1500, ca 1, fl)] [] H_51 locs_51 := ((hh_49.call hb_511 hb_512 hb_513 hb_514 hS_51 rfl (L1 := [(r0, 16, 17, .ref zm), (r0, 16, 18, .ref xh), (r0, 16, 19, .ref xn), (r0, 16, 20, .ref xf), (r0, 16, 21, .ref xt), (r0, 16, 22, .ref xb), (r0, 16, 23, .ref xe), (r0, 16, 24, .ref xi), (r0, 16, 25, .ref xg), (r0, 16, 27, .ref xp), (r0, 16, 43, .ref yg), (r0, 16, 44, .int pu), (r0, 16, 45, .ref yl)]) [0, 1, 2, 3, 4, 5, 6, 7, 8, 9, 10, 11, 12] rfl rfl (M1 := [(zm, 117, 3100, ca 1, ms), (xh, 118, 3100, ca 1, mh), (xn, 119, 3100, ca 1, mx), (xf, 120, 3100, ca 1, mf), (xt, 121, 3100, ca 1, mt), (xb, 122, 3100, ca 1, mb), (xe, 123, 3100, ca 1, me), (xi, 124, 3100, ca 3, mi), (xg, 125, 3100, ca 1, mn), (xp, 127, 3300, ca 1, fu), (yg, 112, 3100, ca 1, fg), (yl, 101, 1500, ca 1, fl)]) [0, 1, 2, 3, 4, 5, 6, 7, 8, 9, 10, 11] rfl rfl (I1 := []) [] rfl rfl).more hb_515)
    clear hh_49 ht_51 hvm_51 hz_51 hk_51 hS_51 hb_511 hb_512 hb_513 hb_514 hb_515
    refine va_calli (A0 := jA base) (H0 := s.heap) (va_runS (As := [.ref yg, .int pu, .int r_50, .int r_52]) (rest := []) ⟨hx, hb, hml, hown, hts⟩ (uX14_placeOfR l dC dI ca base B hB hAp hB101 hB112 G0 H_51 yg pu r_50 r_52 3100 fg) (va_cwS 4 hts (jgS (jWr_73 _ (List.mem_of_getElem? (i := 19) rfl)) (jWr_73 _ (List.mem_of_getElem? (i := 20) rfl)) (jWr_1 _ (List.mem_of_getElem? (i := 5) rfl)) (jWr_73 _ (List.mem_of_getElem? (i := 21) rfl))) rfl rfl rfl (by decide +kernel) ⟨by rw [← hR]; exact Nat.le_of_ble_eq_true rfl, by rw [← hR]; exact Nat.le_of_ble_eq_true rfl⟩) ⟨fun a U g mk q => by obtain ⟨q0, q1, q2, qK, q10, q11, q12, q13⟩ := q; exact ⟨q0, q1, q2, jG.calling g mk a qK, q10, q11, q12, q13⟩, fun U hU hW => ⟨rfl, hU, hh_51.2.1, hG.step hW hU hh_51.1, hg_yg, jP.nil, (hh_51.2.2.2.2.2.2.2.1.sub (L1 := [(yg, 112, 3100, ca 1, fg)]) [10] rfl), ⟨(by first | omega | rfl | assumption | (rw [hr_50]; exact gq.2.2.1) | (rw [hr_52]; exact gq.2.2.2)), (by first | omega | rfl | assumption | (rw [hr_50]; exact gq.2.2.1) | (rw [hr_52]; exact gq.2.2.2)), (by first | omega | rfl | assumption | (rw [hr_50]; exact gq.2.2.1) | (rw [hr_52]; exact gq.2.2.2)), (by first | omega | rfl | assumption | (rw [hr_50]; exact gq.2.2.1) | (rw [hr_52]; exact gq.2.2.2)), (by first | omega | rfl | assumption | (rw [hr_50]; exact gq.2.2.1) | (rw [hr_52]; exact gq.2.2.2))⟩⟩⟩ rfl rfl hl.1 rfl (lv_room (Nat.le_of_ble_eq_true rfl)) dX14_make_111 ⟨Nat.zero_le _, Nat.zero_le _⟩) hh_51.1 (fun q _ h => h) (fun q h => h) (fun r_54 u_53 t_53 H_53 locs_53 ht_53 hvm_53 hr_54 hb_53 hz_53 hk_53 hS_53 => ?_)
    rw [ht_53] at hb_53
    obtain ⟨hb_531, hb_532, hb_533, hb_534, hb_535⟩ := hb_53
    have hh_53 : jSt (dC, dI) B base G0 G0 EX14_makeR s.heap 0 0 [(r0, 16, 17, .ref zm), (r0, 16, 18, .ref xh), (r0, 16, 19, .ref xn), (r0, 16, 20, .ref xf), (r0, 16, 21, .ref xt), (r0, 16, 22, .ref xb), (r0, 16, 23, .ref xe), (r0, 16, 24, .ref xi), (r0, 16, 25, .ref xg), (r0, 16, 27, .ref xp), (r0, 16, 43, .ref yg), (r0, 16, 44, .int pu), (r0, 16, 45, .ref yl)] [(zm, 117, 3100, ca 1, ms), (xh, 118, 3100, ca 1, mh), (xn, 119, 3100, ca 1, mx), (xf, 120, 3100, ca 1, mf), (xt, 121, 3100, ca 1, mt), (xb, 122, 3100, ca 1, mb), (xe, 123, 3100, ca 1, me), (xi, 124, 3100, ca 3, mi), (xg, 125, 3100, ca 1, mn), (xp, 127, 3300, ca 1, fu), (yg, 112, 3100, ca 1, fg), (yl, 101, 1500, ca 1, fl)] [] H_53 locs_53 := ((hh_51.call hb_531 hb_532 hb_533 hb_534 hS_53 rfl (L1 := [(r0, 16, 17, .ref zm), (r0, 16, 18, .ref xh), (r0, 16, 19, .ref xn), (r0, 16, 20, .ref xf), (r0, 16, 21, .ref xt), (r0, 16, 22, .ref xb), (r0, 16, 23, .ref xe), (r0, 16, 24, .ref xi), (r0, 16, 25, .ref xg), (r0, 16, 27, .ref xp), (r0, 16, 43, .ref yg), (r0, 16, 44, .int pu), (r0, 16, 45, .ref yl)]) [0, 1, 2, 3, 4, 5, 6, 7, 8, 9, 10, 11, 12] rfl rfl (M1 := [(zm, 117, 3100, ca 1, ms), (xh, 118, 3100, ca 1, mh), (xn, 119, 3100, ca 1, mx), (xf, 120, 3100, ca 1, mf), (xt, 121, 3100, ca 1, mt), (xb, 122, 3100, ca 1, mb), (xe, 123, 3100, ca 1, me), (xi, 124, 3100, ca 3, mi), (xg, 125, 3100, ca 1, mn), (xp, 127, 3300, ca 1, fu), (yg, 112, 3100, ca 1, fg), (yl, 101, 1500, ca 1, fl)]) [0, 1, 2, 3, 4, 5, 6, 7, 8, 9, 10, 11] rfl rfl (I1 := []) [] rfl rfl).more hb_535)
    clear hh_51 ht_53 hvm_53 hz_53 hk_53 hS_53 hb_531 hb_532 hb_533 hb_534 hb_535
    obtain ⟨hr_54_0, hr_54_1, hr_54_2⟩ := hr_54
    refine lv_istore (lv' := [(6, .int r_54), (5, .int r_48), (8, .int r_42), (7, .int r_40), (4, .int z_7), (3, .int r_4), (2, .int r_2), (0, .ref r0), (1, .int a1)]) hx hb dX14_make_114 hl (by decide) rfl (fun ls hl => ?_)
    have hS9 : jdS T9 nd9 (jSo f0) pu.toInt a1.toInt = (r_48.toInt, r_54.toInt) := jdS.r hr_4_0 (by omega) hr_40_0 hr_42_0 (jdT.of gp hr_44 hr_46 (hr_48_2.trans (by rw [hp9]))) (jdT.of gq hr_50 hr_52 (hr_54_2.trans (by rw [hp9])))
    refine lv_iload hx hb dX14_make_116 (lv_at hl 1 rfl) ?_
    refine lv_if_lt (tgt := 128) hx hb dX14_make_118 (by decide) (fun c_55 => ?_) (fun c_55 => ?_)
    · skip
      have c_55' : r_48.toInt < 0 := jb_lt (rfl) ((by decide)) c_55
      refine lv_iconst (v := 0) hx hb dX14_make_128 (by decide) ?_
      rw [hQ]
      exact W.zret (v := 0) hx hb hr (jb_nz (Or.inl rfl)) (fun t ht hW => ⟨⟨0, (pu, fg, fl), rfl, ⟨(Or.inl rfl), by (try dsimp only); refine ⟨?_, by omega, by omega⟩; exact jdA.no hk0 (jdO.n hr_2_0 hS9 (fun q => by omega))⟩, ⟨hh_53.rt (M1 := [(r0, 16, 44, .int pu)]) [11] rfl ht, by rw [ht]; exact hh_53.2.2.2.2.2.2.2.1.sub [10, 11] rfl⟩⟩, by rw [ht]; try exact hh_53.1.1, fun q h9 hq => by rw [ht]; try exact hh_53.1.2.1 q h9 hq⟩) hh_53.1.2.2 dX14_make_129
    · skip
      have c_55' : r_48.toInt ≥ 0 := jb_lt_n (rfl) ((by decide)) c_55
      refine lv_iload hx hb dX14_make_121 (lv_at hl 0 rfl) ?_
      refine lv_iload hx hb dX14_make_123 (lv_at hl 1 rfl) ?_
      refine lv_icmp_ge (tgt := 130) hx hb dX14_make_125 (by decide) (fun c_56 => ?_) (fun c_56 => ?_)
      · skip
        have c_56' : r_54.toInt ≥ r_48.toInt := jb_ge (rfl) (rfl) c_56
        refine lv_aload_n hx hb dX14_make_130 rfl (lv_at hl 7 rfl) ?_
        refine j7_read hx hb hown hK (C := RX14) (T := TX14) (N := 74) rfl hly_16_44 hlk_550 (hh_53.at 11 rfl) dX14_make_131 ?_
        refine lv_iload hx hb dX14_make_134 (lv_at hl 0 rfl) ?_
        refine lv_iload hx hb dX14_make_136 (lv_at hl 1 rfl) ?_
        refine lv_isub hx hb dX14_make_138 ?_
        refine lv_topi (fun z_57 ez_57 => ?_)
        have hz_57 : z_57.toInt = r_54.toInt - r_48.toInt := by rw [ez_57]; exact jb_isub2 (rfl) (rfl) (by omega)
        refine lv_isub hx hb dX14_make_139 ?_
        refine lv_topi (fun z_58 ez_58 => ?_)
        have hz_58 : z_58.toInt = pu.toInt - z_57.toInt := by rw [ez_58]; exact jb_isub2 (rfl) (rfl) (by omega)
        refine lv_iload hx hb dX14_make_140 (lv_at hl 4 rfl) ?_
        refine lv_iadd hx hb dX14_make_142 ?_
        refine lv_topi (fun z_59 ez_59 => ?_)
        have hz_59 : z_59.toInt = z_58.toInt + z_7.toInt := by rw [ez_59]; exact jb_iadd2 (rfl) (rfl) (by omega)
        refine lv_istore (lv' := [(7, .int z_59), (6, .int r_54), (5, .int r_48), (8, .int r_42), (4, .int z_7), (3, .int r_4), (2, .int r_2), (0, .ref r0), (1, .int a1)]) hx hb dX14_make_143 hl (by decide) rfl (fun ls hl => ?_)
        refine lv_iload hx hb dX14_make_145 (lv_at hl 0 rfl) ?_
        refine lv_sipush (v := 1500) hx hb dX14_make_147 (by decide) ?_
        refine lv_icmp_le (tgt := 155) hx hb dX14_make_150 (by decide) (fun c_60 => ?_) (fun c_60 => ?_)
        · skip
          have c_60' : z_59.toInt ≤ 1500 := jb_le (rfl) ((by decide)) c_60
          refine lv_aload_n hx hb dX14_make_155 rfl (lv_at hl 7 rfl) ?_
          refine j7_read hx hb hown hK (C := RX14) (T := TX14) (N := 74) rfl hly_16_44 hlk_550 (hh_53.at 11 rfl) dX14_make_156 ?_
          refine lv_iload hx hb dX14_make_159 (lv_at hl 1 rfl) ?_
          refine lv_isub hx hb dX14_make_161 ?_
          refine lv_topi (fun z_61 ez_61 => ?_)
          have hz_61 : z_61.toInt = pu.toInt - r_54.toInt := by rw [ez_61]; exact jb_isub2 (rfl) (rfl) (by omega)
          refine lv_istore (lv' := [(8, .int z_61), (7, .int z_59), (6, .int r_54), (5, .int r_48), (4, .int z_7), (3, .int r_4), (2, .int r_2), (0, .ref r0), (1, .int a1)]) hx hb dX14_make_162 hl (by decide) rfl (fun ls hl => ?_)
          refine lv_iconst (v := 0) hx hb dX14_make_164 (by decide) ?_
          refine lv_istore (lv' := [(9, .int 0), (8, .int z_61), (7, .int z_59), (6, .int r_54), (5, .int r_48), (4, .int z_7), (3, .int r_4), (2, .int r_2), (0, .ref r0), (1, .int a1)]) hx hb dX14_make_165 hl (by decide) rfl (fun ls hl => ?_)
          have L167 : ∀ (N : Nat) (v9_62 : Int32) (fl_62 : Nat → Int32) (H_62 : Heap) (locs_62 : List Loc), jSt (dC, dI) B base G0 G0 EX14_makeR s.heap 0 0 [(r0, 16, 17, .ref zm), (r0, 16, 18, .ref xh), (r0, 16, 19, .ref xn), (r0, 16, 20, .ref xf), (r0, 16, 21, .ref xt), (r0, 16, 22, .ref xb), (r0, 16, 23, .ref xe), (r0, 16, 24, .ref xi), (r0, 16, 25, .ref xg), (r0, 16, 27, .ref xp), (r0, 16, 43, .ref yg), (r0, 16, 44, .int pu), (r0, 16, 45, .ref yl)] [(yl, 101, 1500, ca 1, fl_62), (zm, 117, 3100, ca 1, ms), (xh, 118, 3100, ca 1, mh), (xn, 119, 3100, ca 1, mx), (xf, 120, 3100, ca 1, mf), (xt, 121, 3100, ca 1, mt), (xb, 122, 3100, ca 1, mb), (xe, 123, 3100, ca 1, me), (xi, 124, 3100, ca 3, mi), (xg, 125, 3100, ca 1, mn), (xp, 127, 3300, ca 1, fu), (yg, 112, 3100, ca 1, fg)] [] H_62 locs_62 → (0 ≤ v9_62.toInt ∧ v9_62.toInt ≤ z_61.toInt ∧ (∀ j : Int, 0 ≤ j → j < v9_62.toInt → jSo fl_62 j = jSo f0 (r_54.toInt + j))) → (z_61.toInt - v9_62.toInt : Int) < N → ∀ ls : Array Slot, lv_has ls 10 [(0, .ref r0), (1, .int a1), (2, .int r_2), (3, .int r_4), (4, .int z_7), (5, .int r_48), (6, .int r_54), (7, .int z_59), (8, .int z_61), (9, .int v9_62)] → W p l e R s m ([.ref r0, .int a1] : List Value).toArray below meth c H_62 locs_62 0 0 Q (F0 m 167 ls []) := by
            intro N
            induction N with
            | zero => intro v9_62 fl_62 H_62 locs_62 hh_62  hi_62 hm; exact absurd hm (by omega)
            | succ N L167 =>
              intro v9_62 fl_62 H_62 locs_62 hh_62  hi_62 hm_62 ls hl
              obtain ⟨hi_62_0, hi_62_1, hi_62_2⟩ := hi_62
              refine lv_iload hx hb dX14_make_167 (lv_at hl 9 rfl) ?_
              refine lv_iload hx hb dX14_make_169 (lv_at hl 8 rfl) ?_
              refine lv_icmp_ge (tgt := 197) hx hb dX14_make_171 (by decide) (fun c_63 => ?_) (fun c_63 => ?_)
              · skip
                have c_63' : v9_62.toInt ≥ z_61.toInt := jb_ge (rfl) (rfl) c_63
                refine lv_iconst (v := 0) hx hb dX14_make_197 (by decide) ?_
                refine lv_istore (lv' := [(9, .int 0), (0, .ref r0), (1, .int a1), (2, .int r_2), (3, .int r_4), (4, .int z_7), (5, .int r_48), (6, .int r_54), (7, .int z_59), (8, .int z_61)]) hx hb dX14_make_198 hl (by decide) rfl (fun ls hl => ?_)
                have L200 : ∀ (N : Nat) (v9_64 : Int32) (fg_64 : Nat → Int32) (H_64 : Heap) (locs_64 : List Loc), jSt (dC, dI) B base G0 G0 EX14_makeR s.heap 0 0 [(r0, 16, 17, .ref zm), (r0, 16, 18, .ref xh), (r0, 16, 19, .ref xn), (r0, 16, 20, .ref xf), (r0, 16, 21, .ref xt), (r0, 16, 22, .ref xb), (r0, 16, 23, .ref xe), (r0, 16, 24, .ref xi), (r0, 16, 25, .ref xg), (r0, 16, 27, .ref xp), (r0, 16, 43, .ref yg), (r0, 16, 44, .int pu), (r0, 16, 45, .ref yl)] [(yg, 112, 3100, ca 1, fg_64), (yl, 101, 1500, ca 1, fl_62), (zm, 117, 3100, ca 1, ms), (xh, 118, 3100, ca 1, mh), (xn, 119, 3100, ca 1, mx), (xf, 120, 3100, ca 1, mf), (xt, 121, 3100, ca 1, mt), (xb, 122, 3100, ca 1, mb), (xe, 123, 3100, ca 1, me), (xi, 124, 3100, ca 3, mi), (xg, 125, 3100, ca 1, mn), (xp, 127, 3300, ca 1, fu)] [] H_64 locs_64 → (0 ≤ v9_64.toInt ∧ v9_64.toInt ≤ z_7.toInt ∧ jdB (jSo f0) (jSo fg_64) r_48.toInt r_54.toInt z_7.toInt (r_48.toInt + z_7.toInt) v9_64.toInt (fun j => jqA T9 nd9 r_2.toInt j)) → (z_7.toInt - v9_64.toInt : Int) < N → ∀ ls : Array Slot, lv_has ls 10 [(0, .ref r0), (1, .int a1), (2, .int r_2), (3, .int r_4), (4, .int z_7), (5, .int r_48), (6, .int r_54), (7, .int z_59), (8, .int z_61), (9, .int v9_64)] → W p l e R s m ([.ref r0, .int a1] : List Value).toArray below meth c H_64 locs_64 0 0 Q (F0 m 200 ls []) := by
                  intro N
                  induction N with
                  | zero => intro v9_64 fg_64 H_64 locs_64 hh_64  hi_64 hm; exact absurd hm (by omega)
                  | succ N L200 =>
                    intro v9_64 fg_64 H_64 locs_64 hh_64  hi_64 hm_64 ls hl
                    obtain ⟨hi_64_0, hi_64_1, hi_64_2⟩ := hi_64
                    refine lv_iload hx hb dX14_make_200 (lv_at hl 9 rfl) ?_
                    refine lv_iload hx hb dX14_make_202 (lv_at hl 4 rfl) ?_
                    refine lv_icmp_ge (tgt := 237) hx hb dX14_make_204 (by decide) (fun c_65 => ?_) (fun c_65 => ?_)
                    · skip
                      have c_65' : v9_64.toInt ≥ z_7.toInt := jb_ge (rfl) (rfl) c_65
                      refine lv_iconst (v := 0) hx hb dX14_make_237 (by decide) ?_
                      refine lv_istore (lv' := [(9, .int 0), (0, .ref r0), (1, .int a1), (2, .int r_2), (3, .int r_4), (4, .int z_7), (5, .int r_48), (6, .int r_54), (7, .int z_59), (8, .int z_61)]) hx hb dX14_make_238 hl (by decide) rfl (fun ls hl => ?_)
                      have L240 : ∀ (N : Nat) (v9_66 : Int32) (fg_66 : Nat → Int32) (H_66 : Heap) (locs_66 : List Loc), jSt (dC, dI) B base G0 G0 EX14_makeR s.heap 0 0 [(r0, 16, 17, .ref zm), (r0, 16, 18, .ref xh), (r0, 16, 19, .ref xn), (r0, 16, 20, .ref xf), (r0, 16, 21, .ref xt), (r0, 16, 22, .ref xb), (r0, 16, 23, .ref xe), (r0, 16, 24, .ref xi), (r0, 16, 25, .ref xg), (r0, 16, 27, .ref xp), (r0, 16, 43, .ref yg), (r0, 16, 44, .int pu), (r0, 16, 45, .ref yl)] [(yg, 112, 3100, ca 1, fg_66), (yl, 101, 1500, ca 1, fl_62), (zm, 117, 3100, ca 1, ms), (xh, 118, 3100, ca 1, mh), (xn, 119, 3100, ca 1, mx), (xf, 120, 3100, ca 1, mf), (xt, 121, 3100, ca 1, mt), (xb, 122, 3100, ca 1, mb), (xe, 123, 3100, ca 1, me), (xi, 124, 3100, ca 3, mi), (xg, 125, 3100, ca 1, mn), (xp, 127, 3300, ca 1, fu)] [] H_66 locs_66 → (0 ≤ v9_66.toInt ∧ v9_66.toInt ≤ z_61.toInt ∧ jdB (jSo f0) (jSo fg_66) r_48.toInt r_54.toInt z_7.toInt (r_48.toInt + z_7.toInt + v9_66.toInt) z_7.toInt (fun j => jqA T9 nd9 r_2.toInt j)) → (z_61.toInt - v9_66.toInt : Int) < N → ∀ ls : Array Slot, lv_has ls 10 [(0, .ref r0), (1, .int a1), (2, .int r_2), (3, .int r_4), (4, .int z_7), (5, .int r_48), (6, .int r_54), (7, .int z_59), (8, .int z_61), (9, .int v9_66)] → W p l e R s m ([.ref r0, .int a1] : List Value).toArray below meth c H_66 locs_66 0 0 Q (F0 m 240 ls []) := by
                        intro N
                        induction N with
                        | zero => intro v9_66 fg_66 H_66 locs_66 hh_66  hi_66 hm; exact absurd hm (by omega)
                        | succ N L240 =>
                          intro v9_66 fg_66 H_66 locs_66 hh_66  hi_66 hm_66 ls hl
                          obtain ⟨hi_66_0, hi_66_1, hi_66_2⟩ := hi_66
                          refine lv_iload hx hb dX14_make_240 (lv_at hl 9 rfl) ?_
                          refine lv_iload hx hb dX14_make_242 (lv_at hl 8 rfl) ?_
                          refine lv_icmp_ge (tgt := 273) hx hb dX14_make_244 (by decide) (fun c_67 => ?_) (fun c_67 => ?_)
                          · skip
                            have c_67' : v9_66.toInt ≥ z_61.toInt := jb_ge (rfl) (rfl) c_67
                            refine lv_aload_n hx hb dX14_make_273 rfl (lv_at hl 0 rfl) ?_
                            refine lv_iload hx hb dX14_make_274 (lv_at hl 7 rfl) ?_
                            refine j7_put hx hb hown hK hh_66 hB hAp hB16 (C := RX14) (T := TX14) (N := 74) rfl (by decide) hg_r0 (i := 44) (by decide) hly_16_44 rfl hlk_550 rfl (ty := .int) (v := .int z_59) (by decide +kernel) rfl rfl (⟨_, rfl, by omega, by omega⟩) rfl (L1 := [(r0, 16, 17, .ref zm), (r0, 16, 18, .ref xh), (r0, 16, 19, .ref xn), (r0, 16, 20, .ref xf), (r0, 16, 21, .ref xt), (r0, 16, 22, .ref xb), (r0, 16, 23, .ref xe), (r0, 16, 24, .ref xi), (r0, 16, 25, .ref xg), (r0, 16, 27, .ref xp), (r0, 16, 43, .ref yg), (r0, 16, 45, .ref yl)]) [0, 1, 2, 3, 4, 5, 6, 7, 8, 9, 10, 12] rfl rfl rfl dX14_make_276 (fun H_68 locs_68 hh_68 => ?_)
                            clear hh_66
                            refine lv_iconst (v := 1) hx hb dX14_make_279 (by decide) ?_
                            rw [hQ]
                            exact W.zret (v := 1) hx hb hr (jb_nz (Or.inr rfl)) (fun t ht hW => ⟨⟨1, (z_59, fg_66, fl_62), rfl, ⟨(Or.inr rfl), by (try dsimp only); refine ⟨?_, by omega, by omega⟩; have ho9 := jdO.y hr_2_0 hk5 hS9 (by omega) (by omega) (by omega); refine Or.inl ⟨hk1, by rw [ho9], by rw [ho9]; dsimp only; omega, ?_⟩; rw [ho9]; exact hi_66_2.done (by omega) (by omega) (by omega) (by omega)⟩, ⟨hh_68.rt (M1 := [(r0, 16, 44, .int z_59)]) [0] rfl ht, by rw [ht]; exact hh_68.2.2.2.2.2.2.2.1.sub [0, 1] rfl⟩⟩, by rw [ht]; try exact hh_68.1.1, fun q h9 hq => by rw [ht]; try exact hh_68.1.2.1 q h9 hq⟩) hh_68.1.2.2 dX14_make_280
                          · skip
                            have c_67' : v9_66.toInt < z_61.toInt := jb_ge_n (rfl) (rfl) c_67
                            refine lv_aload_n hx hb dX14_make_247 rfl (lv_at hl 0 rfl) ?_
                            refine j7_read hx hb hown hK (C := RX14) (T := TX14) (N := 74) rfl hly_16_43 hlk_78 (hh_66.at 10 rfl) dX14_make_248 ?_
                            refine lv_iload hx hb dX14_make_251 (lv_at hl 5 rfl) ?_
                            refine lv_iload hx hb dX14_make_253 (lv_at hl 4 rfl) ?_
                            refine lv_iadd hx hb dX14_make_255 ?_
                            refine lv_topi (fun z_69 ez_69 => ?_)
                            have hz_69 : z_69.toInt = r_48.toInt + z_7.toInt := by rw [ez_69]; exact jb_iadd2 (rfl) (rfl) (by omega)
                            refine lv_iload hx hb dX14_make_256 (lv_at hl 9 rfl) ?_
                            refine lv_iadd hx hb dX14_make_258 ?_
                            refine lv_topi (fun z_70 ez_70 => ?_)
                            have hz_70 : z_70.toInt = z_69.toInt + v9_66.toInt := by rw [ez_70]; exact jb_iadd2 (rfl) (rfl) (by omega)
                            refine lv_aload_n hx hb dX14_make_259 rfl (lv_at hl 0 rfl) ?_
                            refine j7_read hx hb hown hK (C := RX14) (T := TX14) (N := 74) rfl hly_16_45 hlk_81 (hh_66.at 12 rfl) dX14_make_260 ?_
                            refine lv_iload hx hb dX14_make_263 (lv_at hl 9 rfl) ?_
                            refine j7_ialdM hx hb hK hh_66 hB101 1 rfl (by decide) hg_yl (x := v9_66.toInt) (rfl) (by omega) (j := 1) rfl dX14_make_265 (fun z_71 ez_71 (hz_71 : True) => ?_)
                            have hqz_71 : z_71.toInt = jSo fl_62 (v9_66.toInt) := by unfold jSo; rw [ez_71]
                            refine j7_iastU hx hb hK hh_66 hB hB112 1 rfl (by decide) (by decide) rfl 0 rfl (M1 := [(yl, 101, 1500, ca 1, fl_62), (zm, 117, 3100, ca 1, ms), (xh, 118, 3100, ca 1, mh), (xn, 119, 3100, ca 1, mx), (xf, 120, 3100, ca 1, mf), (xt, 121, 3100, ca 1, mt), (xb, 122, 3100, ca 1, mb), (xe, 123, 3100, ca 1, me), (xi, 124, 3100, ca 3, mi), (xg, 125, 3100, ca 1, mn), (xp, 127, 3300, ca 1, fu)]) [1, 2, 3, 4, 5, 6, 7, 8, 9, 10, 11] rfl rfl rfl hg_yg (x := z_70.toInt) (rfl) (by omega) (trivial) dX14_make_266 (fun H_72 locs_72 fs_73 hv_72 ho_72 hh_72 => ?_)
                            have hv_72 : jSo fs_73 (z_70.toInt) = z_71.toInt := by unfold jSo; rw [hv_72]; try exact rfl
                            rw [show z_70.toInt = ((r_48.toInt + (z_5.toInt - z_6.toInt)) + v9_66.toInt) by omega] at hv_72 ho_72
                            clear hh_66
                            obtain ⟨z_74, ez_74⟩ : ∃ y : Int32, y = v9_66 + 1 := ⟨_, rfl⟩
                            refine lv_iinc (v := z_74) (lv' := [(9, .int z_74), (0, .ref r0), (1, .int a1), (2, .int r_2), (3, .int r_4), (4, .int z_7), (5, .int r_48), (6, .int r_54), (7, .int z_59), (8, .int z_61)]) hx hb dX14_make_267 hl (k := 9) rfl (by rw [ez_74]; rfl) (by decide) rfl (fun ls hl => ?_)
                            have hz_74 : z_74.toInt = v9_66.toInt + 1 := by rw [ez_74]; exact jb_iadd2 (rfl) (by decide) (by omega)
                            refine lv_goto (tgt := 240) hx hb dX14_make_270 (by decide) ?_
                            exact L240 z_74 fs_73 _ _ hh_72 (by refine ⟨by omega, by omega, ?_⟩; exact hi_66_2.tl (by rw [hv_72, hqz_71, hi_62_2 _ (by omega) (by omega)]; congr 1; omega) (fun j h1 h2 => ho_72 j (by omega) h2) (by omega) (by omega) (by omega) (by omega)) (by omega) _ (lv_sub hl [1, 2, 3, 4, 5, 6, 7, 8, 9, 0] rfl)
                      exact L240 (z_61.toInt - (0 : Int32).toInt : Int).toNat.succ 0 fg_64 _ _ hh_64 (by refine ⟨by omega, by omega, ?_⟩; have h9 := hi_64_2; rw [show v9_64.toInt = z_7.toInt by omega] at h9; rw [hk0, Int.add_zero]; exact h9) (by omega) _ (lv_sub hl [1, 2, 3, 4, 5, 6, 7, 8, 9, 0] rfl)
                    · skip
                      have c_65' : v9_64.toInt < z_7.toInt := jb_ge_n (rfl) (rfl) c_65
                      refine lv_aload_n hx hb dX14_make_207 rfl (lv_at hl 0 rfl) ?_
                      refine j7_read hx hb hown hK (C := RX14) (T := TX14) (N := 74) rfl hly_16_43 hlk_78 (hh_64.at 10 rfl) dX14_make_208 ?_
                      refine lv_iload hx hb dX14_make_211 (lv_at hl 5 rfl) ?_
                      refine lv_iload hx hb dX14_make_213 (lv_at hl 9 rfl) ?_
                      refine lv_iadd hx hb dX14_make_215 ?_
                      refine lv_topi (fun z_75 ez_75 => ?_)
                      have hz_75 : z_75.toInt = r_48.toInt + v9_64.toInt := by rw [ez_75]; exact jb_iadd2 (rfl) (rfl) (by omega)
                      refine lv_aload_n hx hb dX14_make_216 rfl (lv_at hl 0 rfl) ?_
                      refine j7_read hx hb hown hK (C := RX14) (T := TX14) (N := 74) rfl hly_16_27 hlk_65 (hh_64.at 9 rfl) dX14_make_217 ?_
                      refine lv_aload_n hx hb dX14_make_220 rfl (lv_at hl 0 rfl) ?_
                      refine j7_read hx hb hown hK (C := RX14) (T := TX14) (N := 74) rfl hly_16_22 hlk_52 (hh_64.at 5 rfl) dX14_make_221 ?_
                      refine lv_iload_n hx hb dX14_make_224 rfl (lv_at hl 2 rfl) ?_
                      refine j7_ialdM hx hb hK hh_64 hB122 1 rfl (by decide) hg_xb (x := r_2.toInt) (rfl) (by omega) (j := 7) rfl dX14_make_225 (fun z_76 ez_76 (hz_76 : 0 ≤ z_76.toInt ∧ z_76.toInt ≤ 3100) => ?_)
                      have hqz_76 : z_76.toInt = jSo mb (r_2.toInt) := by unfold jSo; rw [ez_76]
                      refine lv_iload hx hb dX14_make_226 (lv_at hl 9 rfl) ?_
                      refine lv_iadd hx hb dX14_make_228 ?_
                      refine lv_topi (fun z_77 ez_77 => ?_)
                      have hz_77 : z_77.toInt = z_76.toInt + v9_64.toInt := by rw [ez_77]; exact jb_iadd2 (rfl) (rfl) (by omega)
                      refine j7_ialdM hx hb hK hh_64 hB127 1 rfl (by decide) hg_xp (x := z_77.toInt) (rfl) (by omega) (j := 11) rfl dX14_make_229 (fun z_78 ez_78 (hz_78 : True) => ?_)
                      have hqz_78 : z_78.toInt = jSo fu ((z_76.toInt + v9_64.toInt)) := by unfold jSo; rw [ez_78, show z_77.toInt = (z_76.toInt + v9_64.toInt) by omega]
                      refine j7_iastU hx hb hK hh_64 hB hB112 1 rfl (by decide) (by decide) rfl 0 rfl (M1 := [(yl, 101, 1500, ca 1, fl_62), (zm, 117, 3100, ca 1, ms), (xh, 118, 3100, ca 1, mh), (xn, 119, 3100, ca 1, mx), (xf, 120, 3100, ca 1, mf), (xt, 121, 3100, ca 1, mt), (xb, 122, 3100, ca 1, mb), (xe, 123, 3100, ca 1, me), (xi, 124, 3100, ca 3, mi), (xg, 125, 3100, ca 1, mn), (xp, 127, 3300, ca 1, fu)]) [1, 2, 3, 4, 5, 6, 7, 8, 9, 10, 11] rfl rfl rfl hg_yg (x := z_75.toInt) (rfl) (by omega) (trivial) dX14_make_230 (fun H_79 locs_79 fs_80 hv_79 ho_79 hh_79 => ?_)
                      have hv_79 : jSo fs_80 (z_75.toInt) = z_78.toInt := by unfold jSo; rw [hv_79]; try exact rfl
                      rw [show z_75.toInt = (r_48.toInt + v9_64.toInt) by omega] at hv_79 ho_79
                      clear hh_64
                      obtain ⟨z_81, ez_81⟩ : ∃ y : Int32, y = v9_64 + 1 := ⟨_, rfl⟩
                      refine lv_iinc (v := z_81) (lv' := [(9, .int z_81), (0, .ref r0), (1, .int a1), (2, .int r_2), (3, .int r_4), (4, .int z_7), (5, .int r_48), (6, .int r_54), (7, .int z_59), (8, .int z_61)]) hx hb dX14_make_231 hl (k := 9) rfl (by rw [ez_81]; rfl) (by decide) rfl (fun ls hl => ?_)
                      have hz_81 : z_81.toInt = v9_64.toInt + 1 := by rw [ez_81]; exact jb_iadd2 (rfl) (by decide) (by omega)
                      refine lv_goto (tgt := 200) hx hb dX14_make_234 (by decide) ?_
                      exact L200 z_81 fs_80 _ _ hh_79 (by refine ⟨by omega, by omega, ?_⟩; exact hi_64_2.step (by rw [hv_79, hqz_78, ← hp2.un hk5 (by omega) (by omega)]; congr 1; have h9 := hqz_76; omega) (fun j h1 h2 => ho_79 j (by omega) h2) (by omega) (by omega) (by omega) (by omega)) (by omega) _ (lv_sub hl [1, 2, 3, 4, 5, 6, 7, 8, 9, 0] rfl)
                exact L200 (z_7.toInt - (0 : Int32).toInt : Int).toNat.succ 0 fg _ _ (hh_62.sub (L1 := [(r0, 16, 17, .ref zm), (r0, 16, 18, .ref xh), (r0, 16, 19, .ref xn), (r0, 16, 20, .ref xf), (r0, 16, 21, .ref xt), (r0, 16, 22, .ref xb), (r0, 16, 23, .ref xe), (r0, 16, 24, .ref xi), (r0, 16, 25, .ref xg), (r0, 16, 27, .ref xp), (r0, 16, 43, .ref yg), (r0, 16, 44, .int pu), (r0, 16, 45, .ref yl)]) [0, 1, 2, 3, 4, 5, 6, 7, 8, 9, 10, 11, 12] rfl (M1 := [(yg, 112, 3100, ca 1, fg), (yl, 101, 1500, ca 1, fl_62), (zm, 117, 3100, ca 1, ms), (xh, 118, 3100, ca 1, mh), (xn, 119, 3100, ca 1, mx), (xf, 120, 3100, ca 1, mf), (xt, 121, 3100, ca 1, mt), (xb, 122, 3100, ca 1, mb), (xe, 123, 3100, ca 1, me), (xi, 124, 3100, ca 3, mi), (xg, 125, 3100, ca 1, mn), (xp, 127, 3300, ca 1, fu)]) [11, 0, 1, 2, 3, 4, 5, 6, 7, 8, 9, 10] rfl (I1 := []) [] rfl) (by refine ⟨by omega, by omega, ?_⟩; rw [hp9]; exact ⟨fun j h0 h1 => rfl, fun j h0 h1 => absurd h1 (by omega), fun j h0 h1 => absurd h1 (by omega)⟩) (by omega) _ (lv_sub hl [1, 2, 3, 4, 5, 6, 7, 8, 9, 0] rfl)
              · skip
                have c_63' : v9_62.toInt < z_61.toInt := jb_ge_n (rfl) (rfl) c_63
                refine lv_aload_n hx hb dX14_make_174 rfl (lv_at hl 0 rfl) ?_
                refine j7_read hx hb hown hK (C := RX14) (T := TX14) (N := 74) rfl hly_16_45 hlk_81 (hh_62.at 12 rfl) dX14_make_175 ?_
                refine lv_iload hx hb dX14_make_178 (lv_at hl 9 rfl) ?_
                refine lv_aload_n hx hb dX14_make_180 rfl (lv_at hl 0 rfl) ?_
                refine j7_read hx hb hown hK (C := RX14) (T := TX14) (N := 74) rfl hly_16_43 hlk_78 (hh_62.at 10 rfl) dX14_make_181 ?_
                refine lv_iload hx hb dX14_make_184 (lv_at hl 6 rfl) ?_
                refine lv_iload hx hb dX14_make_186 (lv_at hl 9 rfl) ?_
                refine lv_iadd hx hb dX14_make_188 ?_
                refine lv_topi (fun z_82 ez_82 => ?_)
                have hz_82 : z_82.toInt = r_54.toInt + v9_62.toInt := by rw [ez_82]; exact jb_iadd2 (rfl) (rfl) (by omega)
                refine j7_ialdM hx hb hK hh_62 hB112 1 rfl (by decide) hg_yg (x := z_82.toInt) (rfl) (by omega) (j := 11) rfl dX14_make_189 (fun z_83 ez_83 (hz_83 : True) => ?_)
                have hqz_83 : z_83.toInt = jSo fg ((r_54.toInt + v9_62.toInt)) := by unfold jSo; rw [ez_83, show z_82.toInt = (r_54.toInt + v9_62.toInt) by omega]
                refine j7_iastU hx hb hK hh_62 hB hB101 1 rfl (by decide) (by decide) rfl 0 rfl (M1 := [(zm, 117, 3100, ca 1, ms), (xh, 118, 3100, ca 1, mh), (xn, 119, 3100, ca 1, mx), (xf, 120, 3100, ca 1, mf), (xt, 121, 3100, ca 1, mt), (xb, 122, 3100, ca 1, mb), (xe, 123, 3100, ca 1, me), (xi, 124, 3100, ca 3, mi), (xg, 125, 3100, ca 1, mn), (xp, 127, 3300, ca 1, fu), (yg, 112, 3100, ca 1, fg)]) [1, 2, 3, 4, 5, 6, 7, 8, 9, 10, 11] rfl rfl rfl hg_yl (x := v9_62.toInt) (rfl) (by omega) (trivial) dX14_make_190 (fun H_84 locs_84 fs_85 hv_84 ho_84 hh_84 => ?_)
                have hv_84 : jSo fs_85 (v9_62.toInt) = z_83.toInt := by unfold jSo; rw [hv_84]; try exact rfl
                clear hh_62
                obtain ⟨z_86, ez_86⟩ : ∃ y : Int32, y = v9_62 + 1 := ⟨_, rfl⟩
                refine lv_iinc (v := z_86) (lv' := [(9, .int z_86), (0, .ref r0), (1, .int a1), (2, .int r_2), (3, .int r_4), (4, .int z_7), (5, .int r_48), (6, .int r_54), (7, .int z_59), (8, .int z_61)]) hx hb dX14_make_191 hl (k := 9) rfl (by rw [ez_86]; rfl) (by decide) rfl (fun ls hl => ?_)
                have hz_86 : z_86.toInt = v9_62.toInt + 1 := by rw [ez_86]; exact jb_iadd2 (rfl) (by decide) (by omega)
                refine lv_goto (tgt := 167) hx hb dX14_make_194 (by decide) ?_
                exact L167 z_86 fs_85 _ _ hh_84 (by refine ⟨by omega, by omega, fun j h0 h1 => ?_⟩; by_cases q9 : j < v9_62.toInt; exact (jst ho_84 j h0 (by omega) (by omega) (by omega)).trans (hi_62_2 j h0 q9); rw [show j = v9_62.toInt by omega, hv_84, hqz_83, hp9]) (by omega) _ (lv_sub hl [1, 2, 3, 4, 5, 6, 7, 8, 9, 0] rfl)
          exact L167 (z_61.toInt - (0 : Int32).toInt : Int).toNat.succ 0 fl _ _ (hh_53.sub (L1 := [(r0, 16, 17, .ref zm), (r0, 16, 18, .ref xh), (r0, 16, 19, .ref xn), (r0, 16, 20, .ref xf), (r0, 16, 21, .ref xt), (r0, 16, 22, .ref xb), (r0, 16, 23, .ref xe), (r0, 16, 24, .ref xi), (r0, 16, 25, .ref xg), (r0, 16, 27, .ref xp), (r0, 16, 43, .ref yg), (r0, 16, 44, .int pu), (r0, 16, 45, .ref yl)]) [0, 1, 2, 3, 4, 5, 6, 7, 8, 9, 10, 11, 12] rfl (M1 := [(yl, 101, 1500, ca 1, fl), (zm, 117, 3100, ca 1, ms), (xh, 118, 3100, ca 1, mh), (xn, 119, 3100, ca 1, mx), (xf, 120, 3100, ca 1, mf), (xt, 121, 3100, ca 1, mt), (xb, 122, 3100, ca 1, mb), (xe, 123, 3100, ca 1, me), (xi, 124, 3100, ca 3, mi), (xg, 125, 3100, ca 1, mn), (xp, 127, 3300, ca 1, fu), (yg, 112, 3100, ca 1, fg)]) [11, 0, 1, 2, 3, 4, 5, 6, 7, 8, 9, 10] rfl (I1 := []) [] rfl) (by refine ⟨by omega, by omega, fun j h0 h1 => absurd h1 (by omega)⟩) (by omega) _ (lv_sub hl [8, 9, 7, 6, 5, 4, 3, 2, 1, 0] rfl)
        · skip
          have c_60' : z_59.toInt > 1500 := jb_le_n (rfl) ((by decide)) c_60
          refine lv_iconst (v := 0) hx hb dX14_make_153 (by decide) ?_
          rw [hQ]
          exact W.zret (v := 0) hx hb hr (jb_nz (Or.inl rfl)) (fun t ht hW => ⟨⟨0, (pu, fg, fl), rfl, ⟨(Or.inl rfl), by (try dsimp only); refine ⟨?_, by omega, by omega⟩; exact jdA.no hk0 (jdO.n hr_2_0 hS9 (fun q => by have h9 := q.2.2.2; omega))⟩, ⟨hh_53.rt (M1 := [(r0, 16, 44, .int pu)]) [11] rfl ht, by rw [ht]; exact hh_53.2.2.2.2.2.2.2.1.sub [10, 11] rfl⟩⟩, by rw [ht]; try exact hh_53.1.1, fun q h9 hq => by rw [ht]; try exact hh_53.1.2.1 q h9 hq⟩) hh_53.1.2.2 dX14_make_154
      · skip
        have c_56' : r_54.toInt < r_48.toInt := jb_ge_n (rfl) (rfl) c_56
        refine lv_iconst (v := 0) hx hb dX14_make_128 (by decide) ?_
        rw [hQ]
        exact W.zret (v := 0) hx hb hr (jb_nz (Or.inl rfl)) (fun t ht hW => ⟨⟨0, (pu, fg, fl), rfl, ⟨(Or.inl rfl), by (try dsimp only); refine ⟨?_, by omega, by omega⟩; exact jdA.no hk0 (jdO.n hr_2_0 hS9 (fun q => by omega))⟩, ⟨hh_53.rt (M1 := [(r0, 16, 44, .int pu)]) [11] rfl ht, by rw [ht]; exact hh_53.2.2.2.2.2.2.2.1.sub [10, 11] rfl⟩⟩, by rw [ht]; try exact hh_53.1.1, fun q h9 hq => by rw [ht]; try exact hh_53.1.2.1 q h9 hq⟩) hh_53.1.2.2 dX14_make_129
end
section
-- p9: the reference's open documents as one entry: S, as jdRs tells them
section J95
variable {dC : Nat → ClassId} {dI : Nat → Nat → Nat} {ca : Nat → ClassId} {G G1 : jT} {H H1 : Heap} {r dd n : Nat} {S : Int × (Int → jdD)} {t : jDtr} {fd : Nat → Option Nat} {dc : Int32}
end J95
-- which document is meant
theorem jdWh.rn {T : Nat → Int → Int} {v c : Int} {t : jDtr} {fd : Nat → Option Nat} (hI : jdIr t fd c) (h : (Value.null) = jdRr fd (jdF T v (jdUr T v) (jdRl t fd) (jdRx t fd) c.toNat 0)) : jdWh T v (jdRs t fd c).1 (jdRs t fd c).2 < 0 := by
  have he : ∀ i : Nat, (i : Int) < c → ∃ a, fd i = some a := fun i hi => hI.2.2.1 i (by have := hI.2.1; omega)
  rw [jdWh.q he] at h
  refine jdRr.n he ?_ h
  rcases jdWh.r (T := T) (v := v) (c := (jdRs t fd c).1) (F := (jdRs t fd c).2) hI.1 with e | e
  · have := hI.1
    omega
  · exact e.2
theorem jdWh.ry {T : Nat → Int → Int} {v c : Int} {t : jDtr} {fd : Nat → Option Nat} {x : Nat} (hI : jdIr t fd c) (h : (Value.ref x) = jdRr fd (jdF T v (jdUr T v) (jdRl t fd) (jdRx t fd) c.toNat 0)) : 0 ≤ jdWh T v (jdRs t fd c).1 (jdRs t fd c).2 ∧ jdWh T v (jdRs t fd c).1 (jdRs t fd c).2 < c ∧ fd (jdWh T v (jdRs t fd c).1 (jdRs t fd c).2).toNat = some x := by
  have he : ∀ i : Nat, (i : Int) < c → ∃ a, fd i = some a := fun i hi => hI.2.2.1 i (by have := hI.2.1; omega)
  rw [jdWh.q he] at h
  obtain ⟨a, b⟩ := jdRr.y h
  rcases jdWh.r (T := T) (v := v) (c := (jdRs t fd c).1) (F := (jdRs t fd c).2) hI.1 with e | e
  · omega
  · exact ⟨a, e.2, b⟩
theorem jqE.n1 {T : Nat → Int → Int} {v i n : Int} {g : Int → Int} (h : T 3 i ≠ n) : jqE T v i g n ≠ 1 := by
  unfold jqE
  rw [if_neg (fun q => h q.2)]
  decide
theorem jqE.n2 {T : Nat → Int → Int} {v i n j : Int} {g : Int → Int} (h0 : 0 ≤ j) (h1 : j < n) (h : jqA T v i j ≠ g j) : jqE T v i g n ≠ 1 := by
  unfold jqE
  by_cases w : jqK T v i = 3 ∧ T 3 i = n
  · rw [if_pos w, jqEl_0 (m := j.toNat) (by omega) (by rw [show ((j.toNat : Nat) : Int) = j by omega]; exact h)]
    decide
  · rw [if_neg w]
    decide
theorem jdF.nk {T : Nat → Int → Int} {v i : Int} {ul : Int → Int} {ur : Int → Int → Int} (h : jqK T v i ≠ 3) : ∀ (k : Nat) (d : Int), jdF T v i ul ur k d = -1
  | 0, _ => rfl
  | k + 1, d => by
    have e : jqE T v i (ur d) (ul d) ≠ 1 := by
      unfold jqE
      rw [if_neg (fun q => h q.1)]
      decide
    exact (if_neg e).trans (jdF.nk h k (d + 1))
end
section
-- p9: the reference opens, changes, closes a document
theorem jdOp.g {T : Nat → Int → Int} {v u s t : Int} {S : Int × (Int → jdD)} (hu : u = jdUr T v) (hs : s = jdVs T v) (ht : t = jdTt T v) (k1 : jqK T v u = 3) (z1 : 1 ≤ T 3 u) (z2 : T 3 u ≤ 40) (k2 : jqK T v s = 4) (k3 : jqK T v t = 3) (z3 : T 3 t ≤ 1500) (hn : jdWh T v S.1 S.2 < 0) (hc : S.1 < 3) : jdOp T v S.1 S.2 = 1 := by
  subst hu hs ht
  exact if_pos ⟨k1, z1, z2, k2, k3, z3, hn, hc⟩
theorem jdOp.gn {T : Nat → Int → Int} {v u s t : Int} {S : Int × (Int → jdD)} (hu : u = jdUr T v) (hs : s = jdVs T v) (ht : t = jdTt T v) (h : ¬ (jqK T v u = 3 ∧ 1 ≤ T 3 u ∧ T 3 u ≤ 40 ∧ jqK T v s = 4 ∧ jqK T v t = 3 ∧ T 3 t ≤ 1500 ∧ jdWh T v S.1 S.2 < 0 ∧ S.1 < 3)) : jdOpen T v S = S := by
  subst hu hs ht
  unfold jdOpen
  rw [if_neg (fun q => ?_)]
  unfold jdOp at q
  split at q
  · rename_i g
    exact h g
  · omega
theorem jdClose.gn {T : Nat → Int → Int} {v : Int} {S : Int × (Int → jdD)} (hn : jdWh T v S.1 S.2 < 0) : jdClose T v S = S := if_neg (by omega)
theorem jdJ.zv {T : Nat → Int → Int} {v c c0 n n0 : Int} {k k0 : Nat} {f f0 : Nat → Int32} {R : Int × Int × (Int → Int)} (hT : ∀ x, jqK T v x = 3 → 0 ≤ T 3 x) (hR : R = jdCh T v k0 c0 n0 (jSo f0)) (hk : k = k0) (hc : c = c0) (hn : n = n0) (h0 : 0 ≤ n) (h : jdV (jSo f) (jSo f0) n) : jdJ T v k c n f R := by
  subst hk hc hn hR
  exact jdCh.cg hT k c n _ _ h0 h
theorem jjRB.t3 {T : Nat → Int → Int} {v u : Int} {ms mh mx mf mt mb me mi mn mp : Nat → Int32} (h : jjRB T v u ms mh mx mf mt mb me mi mn mp) : ∀ x, jqK T v x = 3 → 0 ≤ T 3 x := fun x hx => by
  have hp := jqK.p (T := T) (v := v) (i := x) (by omega)
  exact (h.2.2.2.2.2.1 x hp.1 hp.2.1 (by rw [← hp.2.2]; exact hx)).2.1
theorem jdChange.ga {T : Nat → Int → Int} {v : Int} {S : Int × (Int → jdD)} (h : jdWh T v S.1 S.2 < 0) : jdChange T v S = S := by
  unfold jdChange
  rw [if_neg (fun q => ?_)]
  unfold jdCg at q
  split at q
  · rename_i g
    omega
  · omega
theorem jdChange.gn {T : Nat → Int → Int} {v s c : Int} {d : jDtr} {fd : Nat → Option Nat} {n : Int} {x : Nat} {R : Int × Int × (Int → Int)} (hT : ∀ x, jqK T v x = 3 → 0 ≤ T 3 x) (hI : jdIr d fd n) (hs : s = jdVs T v) (hc : c = jdCc T v) (hx : 0 ≤ jdWh T v (jdRs d fd n).1 (jdRs d fd n).2 ∧ jdWh T v (jdRs d fd n).1 (jdRs d fd n).2 < n ∧ fd (jdWh T v (jdRs d fd n).1 (jdRs d fd n).2).toNat = some x)
    (h : jqK T v s ≠ 4 ∨ T 2 s ≤ (d.ve x).toInt ∨ jqK T v c ≠ 2 ∨ T 3 c < 1 ∨ 8 < T 3 c ∨ (R = jdCh T v (T 3 c).toNat (T 2 c) (d.ln x).toInt (jSo (d.tx x)) ∧ R.1 ≠ 1) ∨ ¬ jdAc T v (T 3 c).toNat (T 2 c)) : jdChange T v (jdRs d fd n) = jdRs d fd n := by
  unfold jdChange
  rw [if_neg (fun q => ?_)]
  unfold jdCg at q
  rw [jdCg.q hx] at q
  split at q
  · rename_i g
    obtain ⟨-, g2, g3, g4, g5, g6, g7⟩ := g
    rw [← hs] at g2 g3
    rw [← hc] at g4 g5 g6
    have g3 : (d.ve x).toInt < T 2 s := g3
    have e := (jdNew.r hT (hI.2.2.2 x).1 hc rfl).1
    rcases h with h | h | h | h | h | ⟨h, h1⟩ | h
    · exact h g2
    · omega
    · exact h g4
    · omega
    · omega
    · rw [h] at h1
      exact h1 (e.symm.trans g7)
    · exact h (jdAc.of _ _ _ _ (e.symm.trans g7))
  · omega
end
section
-- p9: the reference's tables behind a read; its kept bytes
section
variable {D : Int → Int} {z p v u r q : Int} {T : Nat → Int → Int} {S : Int × (Int → jdD)}
theorem jdMs.ya (hD : jfBy D) (h : jjRd (jB8 (jfCu D)) z = (1, v, u, T)) : jdMs D z p S = jdMg T v p S := jdMs.y (by rw [← jB8.cu hD]; exact h)
end
theorem jjA.zz {T : Nat → Int → Int} {k : Nat} {n : Int} {f : Nat → Int32} (h : n = 0) : jjA T k n f := fun j h0 h1 => by omega
end
section
-- p9: a byte as the reference takes it
theorem jRS.grow {dC : Nat → ClassId} {dI : Nat → Nat → Nat} {ca : Nat → ClassId} {G G1 : jT} {H : Heap} {r : Nat} {S : Int × (Int → jdD)} (h : jRS dC dI ca G r S H) (hle : jLe G G1) (hN : ∀ a, G1 a = some (14, 0) → G a = some (14, 0)) : jRS dC dI ca G1 r S H := by
  obtain ⟨t, fd, dc, dd, ⟨n, h1⟩, h2, h3, h4, h5, h6, h7⟩ := h
  exact ⟨t, fd, dc, dd, ⟨n, hle _ _ h1⟩, h2, hle _ _ h3, h4, h5, jRD.grow h6 hle hN, h7⟩
section
variable {X : Nat → Int} {s : jdSt} {c r bk pk m h l b cn cv qm qh ql qb qn qv e p z z1 n : Int} {fn fv gn gv fk gk : Nat → Int32} {S S1 : Int × (Int → jdD)} {D : Int → Int}
theorem jfRe.n6 (q : jfRe X m h l b fn cn fv cv) (hm : m ≠ 6) : X 1 ≠ 6 := by
  obtain ⟨-, q⟩ := q
  rcases q with ⟨-, e, -⟩ | ⟨-, -, e⟩
  · exact absurd e hm
  · rcases e with e | e | e | e | e | e
    · have := e.1; omega
    · have := e.1; omega
    · have := e.1; omega
    · have := e.1; omega
    · have := e.1; omega
    · have := e.1; omega
theorem jfRe.y6 (q : jfRe X m h l b fn cn fv cv) (hm : m = 6) : X 1 = 6 ∧ X 2 = l ∧ b = X 8 := by
  obtain ⟨q2, q⟩ := q
  rcases q with ⟨a, -, c⟩ | ⟨-, -, e⟩
  · exact ⟨a, q2, c⟩
  · exfalso
    rcases e with e | e | e | e | e | e
    · have := e.2; omega
    · have := e.2.1; omega
    · have := e.2.1; omega
    · have := e.2.1; omega
    · have := e.2; omega
    · have := e.2; omega
theorem jdStep.a0 {Y : Nat → Int} {w : Int} (h0 : s.1 0 = 0) (ha : jfAc s.1 c = (Y, 0, w)) : jdStep s c = (Y, jdBy s c, s.2.2) := by
  unfold jdStep
  rw [ha, if_neg (by rw [h0]; decide), if_neg (by show ¬ (0 : Int) = 1; decide)]
theorem jfAc.h0 (h1 : X 1 ≠ 6) (hx : 200 ≤ X 3 ∨ jfHd X c 0 = 0) : jfAc X c = (jfB, 0, 0) := by
  unfold jfAc
  rw [if_neg h1, if_pos hx]
theorem jfAc.h1 (h1 : X 1 ≠ 6) (h3 : X 3 < 200) (hd : jfHd X c 0 = 1) : jfAc X c = jfW (jfNx X c) := by
  unfold jfAc jfNx
  rw [if_neg h1, if_neg (by omega)]
theorem jfAc.b6 (h1 : X 1 = 6) : jfAc X c = jfW (jfV 0 6 (X 2) (X 3 + 1) (X 4) (X 5) (X 6) (X 7) (X 8 + 1)) := by
  unfold jfAc
  rw [if_pos h1]
theorem jfBy.bu (h : jfBy D) {i : Int} (h0 : 0 ≤ c) (h1 : c ≤ 255) : jfBy (jfBu D i c) := fun j => by
  unfold jfBu
  split
  · exact ⟨h0, h1⟩
  · exact h j
/-- a header's byte that breaks the frame -/
theorem jrQ.x (hq : jrQ s pk m h l b fn cn fv cv fk z S) (hk : pk = 0) (hm : m ≠ 6) (hH : jfHq s.1 c r qm qh ql qb gn qn gv qv) (hr : r = 0) (hb : bk = 1) : (∀ m1 h1 l1 b1 f1 n1 f2 v1, jrQ (jdStep s c) bk m1 h1 l1 b1 f1 n1 f2 v1 fk z (jdStep s c).2.2.2) ∧ (jdStep s c).2.2.2 = S := by
  obtain ⟨q1, q2, q3, q4, q5⟩ := hq
  obtain ⟨-, h0, hR⟩ := q1.resolve_left (fun w => by have := w.1; omega)
  have n6 := hR.n6 hm
  have hx := (hH.resolve_right (fun w => by have := w.1; omega)).2
  have eb : jdBy s c = s.2.1 := if_neg n6
  have e1 := jdStep.a0 h0 (jfAc.h0 n6 hx)
  rw [eb] at e1
  rw [e1]
  exact ⟨fun _ _ _ _ _ _ _ _ => ⟨Or.inl ⟨hb, rfl⟩, q2, q3, q4, rfl⟩, q5⟩
/-- a header's byte behind which no message is whole -/
theorem jrQ.hh (hq : jrQ s pk m h l b fn cn fv cv fk z S) (hk : pk = 0) (hm : m ≠ 6) (hH : jfHq s.1 c r qm qh ql qb gn qn gv qv) (hr : r = 1) (hb : bk = 0) (hw : qm ≠ 6 ∨ qb < ql) : jrQ (jdStep s c) bk qm qh ql qb gn qn gv qv fk z (jdStep s c).2.2.2 ∧ (jdStep s c).2.2.2 = S := by
  obtain ⟨q1, q2, q3, q4, q5⟩ := hq
  obtain ⟨-, h0, hR⟩ := q1.resolve_left (fun w => by have := w.1; omega)
  have n6 := hR.n6 hm
  obtain ⟨-, a3, ad, aR⟩ := hH.resolve_left (fun w => by have := w.1; omega)
  have eb : jdBy s c = s.2.1 := if_neg n6
  have ew : jfW (jfNx s.1 c) = (jfNx s.1 c, 0, 0) := if_neg (fun w => by
    have w1 : jfNx s.1 c 1 = 6 := w.1
    have w2 : jfNx s.1 c 2 ≤ jfNx s.1 c 8 := w.2
    by_cases q : qm = 6
    · obtain ⟨-, g2, g3⟩ := aR.y6 q
      omega
    · exact aR.n6 q w1)
  have e1 := jdStep.a0 h0 ((jfAc.h1 n6 a3 ad).trans ew)
  rw [eb] at e1
  rw [e1]
  exact ⟨⟨Or.inr ⟨hb, rfl, aR⟩, q2, q3, q4, rfl⟩, q5⟩
/-- a header's last byte: a message of no bytes -/
theorem jrQ.mm (hq : jrQ s pk m h l b fn cn fv cv fk z S) (hk : pk = 0) (hm : m ≠ 6) (hH : jfHq s.1 c r qm qh ql qb gn qn gv qv) (hr : r = 1) (hw : qm = 6) (hl : ql ≤ qb) (hn : n = ql) (hb : (bk = 1 ∧ (jdMs s.2.1 n z S).1 = 1) ∨ (bk = 0 ∧ (jdMs s.2.1 n z S).1 = 0)) (hz : z1 = (jdMs s.2.1 n z S).2.1) {m1 h2 l1 : Int} (e1 : m1 = 0) (e2 : h2 = 0) (e3 : l1 = -1) : (∀ b1 f1 n1 f2 v1, jrQ (jdStep s c) bk m1 h2 l1 b1 f1 n1 f2 v1 fk z1 (jdStep s c).2.2.2) ∧ (jdStep s c).2.2.2 = (jdMs s.2.1 n z S).2.2 := by
  obtain ⟨q1, q2, q3, q4, q5⟩ := hq
  obtain ⟨-, h0, hR⟩ := q1.resolve_left (fun w => by have := w.1; omega)
  have n6 := hR.n6 hm
  obtain ⟨-, a3, ad, aR⟩ := hH.resolve_left (fun w => by have := w.1; omega)
  have eb : jdBy s c = s.2.1 := if_neg n6
  obtain ⟨g1, g2, g3⟩ := aR.y6 hw
  have ew : jfW (jfNx s.1 c) = (jfV 0 0 (-1) 0 (jfNx s.1 c 4) (jfNx s.1 c 5) (jfNx s.1 c 6) (jfNx s.1 c 7) 0, 1, jfNx s.1 c 2) := if_pos ⟨g1, by omega⟩
  exact jrQ.fin h0 ((jfAc.h1 n6 a3 ad).trans ew) ⟨rfl, rfl, rfl, rfl, rfl⟩ (by rw [eb, g2, ← hn, q4, q5]) (by rw [eb]; exact q2) (by rw [eb]; exact q3) hb hz e1 e2 e3
/-- a byte of the body -/
theorem jrQ.bn (hq : jrQ s pk m h l b fn cn fv cv fk z S) (hk : pk = 0) (hm : m = 6) (h0 : 0 ≤ c) (h1 : c ≤ 255) (hf : gk = jfCu (jfBu s.2.1 b c)) (hb : bk = 0) (hw : b + 1 < l) (e1 : qm = 6) (e3 : ql = l) (e4 : qb = b + 1) : (∀ h1 f1 n1 f2 v1, jrQ (jdStep s c) bk qm h1 ql qb f1 n1 f2 v1 gk z (jdStep s c).2.2.2) ∧ (jdStep s c).2.2.2 = S := by
  obtain ⟨q1, q2, q3, q4, q5⟩ := hq
  obtain ⟨-, g0, hR⟩ := q1.resolve_left (fun w => by have := w.1; omega)
  obtain ⟨g1, g2, g3⟩ := hR.y6 hm
  have eb : jdBy s c = jfBu s.2.1 b c := by rw [g3]; exact if_pos g1
  have e9 := jdStep.a0 (c := c) g0 ((jfAc.b6 g1).trans (jfW_n (Or.inr (by omega))))
  rw [eb] at e9
  rw [e9]
  refine ⟨fun h1' f1 n1 f2 v1 => ⟨Or.inr ⟨hb, rfl, ?_⟩, q2.bu h0 h1, hf, q4, rfl⟩, q5⟩
  exact ⟨g2.trans e3.symm, Or.inl ⟨rfl, e1, by show qb = s.1 8 + 1; omega⟩⟩
/-- the last one -/
theorem jrQ.bm (hq : jrQ s pk m h l b fn cn fv cv fk z S) (hk : pk = 0) (hm : m = 6) (h0 : 0 ≤ c) (h1 : c ≤ 255) (hf : gk = jfCu (jfBu s.2.1 b c)) (hw : l ≤ b + 1) (hn : n = l) (hb : (bk = 1 ∧ (jdMs (jfBu s.2.1 b c) n z S).1 = 1) ∨ (bk = 0 ∧ (jdMs (jfBu s.2.1 b c) n z S).1 = 0)) (hz : z1 = (jdMs (jfBu s.2.1 b c) n z S).2.1) {m1 h2 l1 : Int} (e1 : m1 = 0) (e2 : h2 = 0) (e3 : l1 = -1) : (∀ b1 f1 n1 f2 v1, jrQ (jdStep s c) bk m1 h2 l1 b1 f1 n1 f2 v1 gk z1 (jdStep s c).2.2.2) ∧ (jdStep s c).2.2.2 = (jdMs (jfBu s.2.1 b c) n z S).2.2 := by
  obtain ⟨q1, q2, q3, q4, q5⟩ := hq
  obtain ⟨-, g0, hR⟩ := q1.resolve_left (fun w => by have := w.1; omega)
  obtain ⟨g1, g2, g3⟩ := hR.y6 hm
  have eb : jdBy s c = jfBu s.2.1 b c := by rw [g3]; exact if_pos g1
  exact jrQ.fin g0 ((jfAc.b6 g1).trans (jfW_y rfl (by omega))) ⟨rfl, rfl, rfl, rfl, rfl⟩ (by rw [eb, g2, ← hn, q4, q5]) (by rw [eb]; exact q2.bu h0 h1) (by rw [eb]; exact hf) hb hz e1 e2 e3
end
/-- the kept bytes, in their plain form -/
theorem jfCu.set {D : Int → Int} {f k : Nat → Int32} {i c : Int} {N : Nat} (hf : f = jfCu D) (hv : jSo k i = c) (ho : ∀ j, j < N → j ≠ i.toNat → k j = f j) (h0 : 0 ≤ i) (hi : i < 3000) : ∀ j, j < N → k j = jfCu (jfBu D i c) j := fun j hj => by
  by_cases w : j = i.toNat
  · have e : k j = Int32.ofInt c := by
      rw [← hv, w]
      exact (Int32.ofInt_toInt _).symm
    rw [e]
    show Int32.ofInt c = if j < 3000 then Int32.ofInt (if (j : Int) = i then c else D j) else 0
    rw [if_pos (by omega), if_pos (by omega)]
  · rw [ho j hj w, hf]
    show (if j < 3000 then Int32.ofInt (D j) else 0) = if j < 3000 then Int32.ofInt (if (j : Int) = i then c else D j) else 0
    rw [if_neg (show ¬ (j : Int) = i by omega)]
theorem jrQ.br {s : jdSt} {bk m h l b cn cv z : Int} {fn fv fk : Nat → Int32} {S : Int × (Int → jdD)} (hq : jrQ s bk m h l b fn cn fv cv fk z S) (hk : bk = 1) : s.1 0 = 1 := (hq.1.resolve_right (fun w => by have w1 := w.1; omega)).2
theorem jrQ.ss {s : jdSt} {bk m h l b cn cv z : Int} {fn fv fk : Nat → Int32} {S : Int × (Int → jdD)} (hq : jrQ s bk m h l b fn cn fv cv fk z S) : jrQ s bk m h l b fn cn fv cv fk z s.2.2.2 := ⟨hq.1, hq.2.1, hq.2.2.1, hq.2.2.2.1, rfl⟩
end
section
-- p9: what unit answers
theorem jdUn.out {c d i : Int} {F : Int → jdD} (h : d < 0 ∨ c ≤ d ∨ i < 0) : jdUn c F d i = -1 := if_pos (by
  rcases h with h | h | h
  · exact Or.inl h
  · exact Or.inr (Or.inl h)
  · exact Or.inr (Or.inr (Or.inl h)))
section
variable {t : jDtl} {w : jWl9} {tr : jDtr} {fd : Nat → Option Nat} {c d i : Int} {a : Nat}
theorem jdUn.rn (h0 : 0 ≤ d) (h1 : d < c) (he : fd d.toNat = some a) (hi : (tr.ln a).toInt ≤ i) : jdUn (jdRs tr fd c).1 (jdRs tr fd c).2 d i = -1 := by
  have e : (jdRs tr fd c).2 d = jdR1 tr a := jdLi.at h0 h1 he
  exact if_pos (Or.inr (Or.inr (Or.inr (by rw [e]; exact hi))))
theorem jdUn.ry (h0 : 0 ≤ d) (h1 : d < c) (he : fd d.toNat = some a) (i0 : 0 ≤ i) (hi : i < (tr.ln a).toInt) : jdUn (jdRs tr fd c).1 (jdRs tr fd c).2 d i = jSo (tr.tx a) i := by
  have e : (jdRs tr fd c).2 d = jdR1 tr a := jdLi.at h0 h1 he
  unfold jdUn
  rw [if_neg (by rw [e]; show ¬ (d < 0 ∨ c ≤ d ∨ i < 0 ∨ (tr.ln a).toInt ≤ i); omega), e]
  exact jdKp.at i0 hi
end
end
section
-- p9: what both sides hold between two calls
section
variable {a0 a1 a2 a3 a4 a5 a6 a7 a8 z bk m h l b cn cv zr : Int} {fb fn fv fk : Nat → Int32} {t t1 : jDtl} {w w1 : jWl9} {S : Int × (Int → jdD)}
theorem jlI.zz {w0 : Nat → Option Nat} {b0 c0 : List Nat} (h0 : a0 = 0) (h1 : a1 = 0) (h2 : a2 = -1) (h3 : a3 = 0) (h4 : a4 = 0) (h5 : a5 = 0) (h6 : a6 = 0) (h7 : a7 = 0) (h8 : a8 = 0) (hb : fb = fun _ => 0) (hz : z = 0) (k0 : bk = 0) (k1 : m = 0) (k2 : h = 0) (k3 : l = -1) (hk : fk = fun _ => 0) (hr : zr = 0) : jlI a0 a1 a2 a3 a4 a5 a6 a7 a8 fb z t ⟨0, w0, b0, c0⟩ bk m h l b fn cn fv cv fk zr (0, fun _ => jdDz) := by
  subst h0 h1 h2 h3 h4 h5 h6 h7 h8 hb hz k0 k1 k2 k3 hk hr
  refine ⟨(jfV 0 0 (-1) 0 0 0 0 0 0, fun _ => 0, 0, (0, fun _ => jdDz)), Or.inr ⟨rfl, rfl⟩, fun j h0 h1 => ?_, rfl, ?_, ?_⟩
  · refine ⟨?_, ?_, ?_⟩
    · show (0 : Int32).toInt % 256 = 0
      decide
    · show (-128 : Int) ≤ (0 : Int32).toInt
      decide
    · show (0 : Int32).toInt ≤ (127 : Int)
      decide
  · exact Prod.ext rfl (funext fun d => (jdLi.out (by show d < 0 ∨ (0 : Int) ≤ d; omega)).symm)
  · exact ⟨Or.inr ⟨rfl, rfl, ⟨rfl, Or.inr ⟨rfl, rfl, Or.inl ⟨rfl, rfl⟩⟩⟩⟩, fun j => by show (0 : Int) ≤ 0 ∧ (0 : Int) ≤ 255; decide, jfCu.z, rfl, rfl⟩
end
end
