section
def EX14_closeR : List (Nat × Nat) := [(16, 3), (16, 4), (16, 6), (16, 36), (16, 37), (16, 39), (16, 40), (16, 42), (16, 48), (101, 0), (103, 0), (201, 0), (202, 0), (203, 0), (204, 0), (206, 0), (208, 0)]
set_option maxHeartbeats 4000000 in
set_option maxRecDepth 20000 in
theorem uX14_closeR (l : Launch) (dC : Nat → ClassId) (dI : Nat → Nat → Nat) (ca : Nat → ClassId) (base : Nat) (B : jF) (hB : jBok B) (hAp : jAp (dC, dI)) (hB14 : ∀ n G a H, B 14 n G a H ↔ jOb (dC, dI) 14 11 (F14 n G) a H) (hB16 : ∀ n G a H, B 16 n G a H ↔ jOb (dC, dI) 16 74 (F16 n G) a H) (hB101 : ∀ n G a H, B 101 n G a H ↔ jAr (dC, dI) (ca 1) (fun j z => True) n a H) (hB103 : ∀ n G a H, B 103 n G a H ↔ jAr (dC, dI) (ca 3) (fun j z => (z = 0 ∨ z = 1)) n a H) (hB117 : ∀ n G a H, B 117 n G a H ↔ jAr (dC, dI) (ca 1) (fun j z => True) n a H) (hB118 : ∀ n G a H, B 118 n G a H ↔ jAr (dC, dI) (ca 1) (fun j z => -1 ≤ z.toInt ∧ z.toInt ≤ 3099) n a H) (hB119 : ∀ n G a H, B 119 n G a H ↔ jAr (dC, dI) (ca 1) (fun j z => z.toInt = -1 ∨ z.toInt = 0 ∨ ((j : Nat) < z.toInt ∧ z.toInt ≤ 3099)) n a H) (hB120 : ∀ n G a H, B 120 n G a H ↔ jAr (dC, dI) (ca 1) (fun j z => 0 ≤ z.toInt ∧ z.toInt ≤ 3300) n a H) (hB121 : ∀ n G a H, B 121 n G a H ↔ jAr (dC, dI) (ca 1) (fun j z => 0 ≤ z.toInt ∧ z.toInt ≤ 3300) n a H) (hB122 : ∀ n G a H, B 122 n G a H ↔ jAr (dC, dI) (ca 1) (fun j z => 0 ≤ z.toInt ∧ z.toInt ≤ 3100) n a H) (hB123 : ∀ n G a H, B 123 n G a H ↔ jAr (dC, dI) (ca 1) (fun j z => 0 ≤ z.toInt ∧ z.toInt ≤ 3100) n a H) (hB127 : ∀ n G a H, B 127 n G a H ↔ jAr (dC, dI) (ca 1) (fun j z => True) n a H) (hB195 : ∀ n G a H, B 195 n G a H ↔ jAr (dC, dI) (ca 1) (fun j z => True) n a H) (hB201 : ∀ n G a H, B 201 n G a H ↔ jAq (dC, dI) (ca 4) (jQs 14 0) n G a H) (hB202 : ∀ n G a H, B 202 n G a H ↔ jAq (dC, dI) (ca 4) (jQn 14 0) n G a H) (hB203 : ∀ n G a H, B 203 n G a H ↔ jAr (dC, dI) (ca 1) (fun j z => -3300 ≤ z.toInt ∧ z.toInt ≤ 20) n a H) (hB204 : ∀ n G a H, B 204 n G a H ↔ jAr (dC, dI) (ca 1) (fun j z => -3100 ≤ z.toInt ∧ z.toInt ≤ 3100) n a H) (hB206 : ∀ n G a H, B 206 n G a H ↔ jAr (dC, dI) (ca 1) (fun j z => 0 ≤ z.toInt ∧ z.toInt ≤ 40) n a H) (hB208 : ∀ n G a H, B 208 n G a H ↔ jAq (dC, dI) (ca 4) (jQn 14 0) n G a H) (G0 : jT) (H0 : Heap) (r0 : Nat) (a1 : Int32) (zm : Nat) (xh : Nat) (xn : Nat) (xf : Nat) (xt : Nat) (xb : Nat) (xe : Nat) (xi : Nat) (xg : Nat) (xp : Nat) (dd : Nat) (dc : Int32) (co : Nat) (cs : Nat) (ol : Nat) (nw : Nat) (td : Nat) (T9 : Nat → Int → Int) (nd9 po9 : Int) (sn ck : Nat → Int32) (fd fo : Nat → Option Nat) (S9 S8 : Int × (Int → jdD)) (ms : Nat → Int32) (mh : Nat → Int32) (mx : Nat → Int32) (mf : Nat → Int32) (mt : Nat → Int32) (mb : Nat → Int32) (me : Nat → Int32) (mi : Nat → Int32) (mn : Nat → Int32) (fu : Nat → Int32) (fs : Nat → Int32) : Met l yX14_close (jw yX14_close cX14_close 5 none) ({ frames := 16, cells := 0, slots := 0, locals := 548 }) (va_Pc [.ref r0, .int a1] (fun U => U.heap = H0 ∧ jX B base G0 [] H0 ∧ jG dC dI ca base U ∧ jK2 dC dI ca U ∧ G0 r0 = some (16, 0) ∧ G0 zm = some (117, 3100) ∧ G0 xh = some (118, 3100) ∧ G0 xn = some (119, 3100) ∧ G0 xf = some (120, 3100) ∧ G0 xt = some (121, 3100) ∧ G0 xb = some (122, 3100) ∧ G0 xe = some (123, 3100) ∧ G0 xi = some (124, 3100) ∧ G0 xg = some (125, 3100) ∧ G0 xp = some (127, 3300) ∧ G0 dd = some (201, 3) ∧ G0 co = some (208, 2) ∧ G0 cs = some (207, 2) ∧ G0 ol = some (14, 0) ∧ G0 nw = some (14, 0) ∧ G0 td = some (14, 0) ∧ jP (dC, dI) G0 H0 [(r0, 16, 17, .ref zm), (r0, 16, 18, .ref xh), (r0, 16, 19, .ref xn), (r0, 16, 20, .ref xf), (r0, 16, 21, .ref xt), (r0, 16, 22, .ref xb), (r0, 16, 23, .ref xe), (r0, 16, 24, .ref xi), (r0, 16, 25, .ref xg), (r0, 16, 27, .ref xp), (r0, 16, 41, .ref dd), (r0, 16, 42, .int dc), (r0, 16, 60, .ref co), (r0, 16, 61, .ref cs), (r0, 16, 46, .ref ol), (r0, 16, 47, .ref nw), (r0, 16, 71, .ref td)] ∧ jMc (dC, dI) G0 H0 [(zm, 117, 3100, ca 1, ms), (xh, 118, 3100, ca 1, mh), (xn, 119, 3100, ca 1, mx), (xf, 120, 3100, ca 1, mf), (xt, 121, 3100, ca 1, mt), (xb, 122, 3100, ca 1, mb), (xe, 123, 3100, ca 1, me), (xi, 124, 3100, ca 3, mi), (xg, 125, 3100, ca 1, mn), (xp, 127, 3300, ca 1, fu), (cs, 207, 2, ca 1, fs)] ∧ jIs (dC, dI) G0 H0 [(jFs, jDY dC dI ca G0 none sn), (jF9, jVl dC dI G0 9 ck), ([(201, 0)], jQc dC dI (ca 4) dd 3 fd), ([(208, 0)], jQc dC dI (ca 4) co 2 fo), (jFra, jRS dC dI ca G0 r0 S9)] ∧ jPu sn ck fd fo fs dc.toInt ol nw td ∧ 0 ≤ nd9 ∧ nd9 ≤ 3100 ∧ jjRB T9 nd9 po9 ms mh mx mf mt mb me mi mn fu ∧ a1.toInt < nd9 ∧ jSo mx 0 = -1 ∧ a1.toInt = jdPm T9 nd9 ∧ S8 = jdClose T9 nd9 S9)) (va_Qv (S := Unit) (fun u => True) (fun u t => ((jRt (dC, dI) B base G0 EX14_closeR H0 [] t.heap) ∧ jDV dC dI ca G0 r0 dd co cs ol nw td t.heap) ∧ jIs (dC, dI) G0 t.heap [(jFra, jRS dC dI ca G0 r0 S8)]) (jA base)) 0 0 (jA base) := by
  refine Met.ofW (cc := cX14_close) (maxL := 5) (ret := none) (by decide) rfl ?_
  intro p e s m args below meth c s₁ Bd hml hv
  obtain ⟨rfl, hH0, hX, hG, hK2, hg_r0, hg_zm, hg_xh, hg_xn, hg_xf, hg_xt, hg_xb, hg_xe, hg_xi, hg_xg, hg_xp, hg_dd, hg_co, hg_cs, hg_ol, hg_nw, hg_td, hP0, hM0, hI0, hp0, hp1, hp2, hp3, hp4, hp5, hp6, hp7⟩ := hv
  have hK := hG.1
  have hx := Bd.exec
  have hb := Bd.bytes
  have hr := Bd.returns
  have hts := atoms_spec (ws := (jw yX14_close cX14_close 5 none)) Bd.pre
  have htw : ∀ w ∈ jWl, w.before _ s = true := fun w h => hts w (List.mem_cons_of_mem _ h)
  have hown : s.vm.findClass RX14 = some m.cls := findClass_of_methodNamed Bd.named
  have hlocks := Bd.notSynchronized
  obtain ⟨Q, hQ⟩ : ∃ Q, Q = MQ below (va_Qv (S := Unit) (fun u => True) (fun u t => ((jRt (dC, dI) B base G0 EX14_closeR H0 [] t.heap) ∧ jDV dC dI ca G0 r0 dd co cs ol nw td t.heap) ∧ jIs (dC, dI) G0 t.heap [(jFra, jRS dC dI ca G0 r0 S8)]) (jA base)) ([.ref r0, .int a1] : List Value).toArray s 0 0 (jA base) := ⟨_, rfl⟩
  rw [← hQ]
  have hl := lv_entry ([.ref r0, .int a1]) (n := 5) (Nat.le_of_ble_eq_true rfl)
  rw [lg_entry_eq]
  generalize (lg_sl ([.ref r0, .int a1]) ++ List.replicate (5 - (lg_sl ([.ref r0, .int a1])).length) Slot.unset).toArray = ls at hl ⊢
  have hl : lv_has ls 5 [(0, .ref r0), (1, .int a1)] := hl
  generalize hR : (headSpec (jw yX14_close cX14_close 5 none) ({ frames := 16, cells := 0, slots := 0, locals := 548 })).room = R
  subst hH0
  have hh : jSt (dC, dI) B base G0 G0 EX14_closeR s.heap 0 0 [(r0, 16, 17, .ref zm), (r0, 16, 18, .ref xh), (r0, 16, 19, .ref xn), (r0, 16, 20, .ref xf), (r0, 16, 21, .ref xt), (r0, 16, 22, .ref xb), (r0, 16, 23, .ref xe), (r0, 16, 24, .ref xi), (r0, 16, 25, .ref xg), (r0, 16, 27, .ref xp), (r0, 16, 41, .ref dd), (r0, 16, 42, .int dc), (r0, 16, 60, .ref co), (r0, 16, 61, .ref cs), (r0, 16, 46, .ref ol), (r0, 16, 47, .ref nw), (r0, 16, 71, .ref td)] [(zm, 117, 3100, ca 1, ms), (xh, 118, 3100, ca 1, mh), (xn, 119, 3100, ca 1, mx), (xf, 120, 3100, ca 1, mf), (xt, 121, 3100, ca 1, mt), (xb, 122, 3100, ca 1, mb), (xe, 123, 3100, ca 1, me), (xi, 124, 3100, ca 3, mi), (xg, 125, 3100, ca 1, mn), (xp, 127, 3300, ca 1, fu), (cs, 207, 2, ca 1, fs)] [(jFs, jDY dC dI ca G0 none sn), (jF9, jVl dC dI G0 9 ck), ([(201, 0)], jQc dC dI (ca 4) dd 3 fd), ([(208, 0)], jQc dC dI (ca 4) co 2 fo), (jFra, jRS dC dI ca G0 r0 S9)] s.heap [] := jSt.start hX hP0 hM0 hI0
  clear hX hP0
  have hk0 : (0 : Int32).toInt = 0 := by decide
  have hk1 : (1 : Int32).toInt = 1 := by decide
  have hk2 : (2 : Int32).toInt = 2 := by decide
  have hly_16_41 := htw (u_lay RX14 TX14 41) (jWc_wsX140 _ (u_in_lay (by decide)))
  have hly_16_42 := htw (u_lay RX14 TX14 42) (jWc_wsX140 _ (u_in_lay (by decide)))
  have hly_16_60 := htw (u_lay RX14 TX14 60) (jWc_wsX140 _ (u_in_lay (by decide)))
  obtain ⟨str514, rstr514, hstr5140⟩ := hG.strT (o := RX14) (k := 514) (tx := "textDocument") (List.mem_of_getElem? (i := 2486) (by decide +kernel))
  have hTstr514 : jStrF base str514 12 (jChT "textDocument") s s.heap := hstr5140.F (by decide +kernel)
  have hstr514 : jStr base str514 12 s s.heap := hTstr514.str
  obtain ⟨str516, rstr516, hstr5160⟩ := hG.strT (o := RX14) (k := 516) (tx := "uri") (List.mem_of_getElem? (i := 2487) (by decide +kernel))
  have hTstr516 : jStrF base str516 3 (jChT "uri") s s.heap := hstr5160.F (by decide +kernel)
  have hstr516 : jStr base str516 3 s s.heap := hTstr516.str
  have hlk_129 := (htw (.fieldLink RX14 129 "ProofServerModel" "checkOf" "[LProofServerModel$Document;") (jWr_12 _ (List.mem_of_getElem? (i := 15) rfl)))
  have hlk_74 := (htw (.fieldLink RX14 74 "ProofServerModel" "documents" "[LProofServerModel$Document;") (jWr_11 _ (List.mem_of_getElem? (i := 19) rfl)))
  have hlk_505 := (htw (.fieldLink RX14 505 "ProofServerModel" "documentCount" "I") (jWr_57 _ (List.mem_of_getElem? (i := 5) rfl)))
  have hrg_a1 := jb_rng a1
  obtain ⟨fdz, hfdz⟩ : ∃ q, q = fd := ⟨_, rfl⟩
  obtain ⟨sx_1, esx_1, hsx_1⟩ := hh.sat (C := RX14) (T := TX14) (N := 74) hB16 rfl (by decide) hg_r0 (i := 42) (by decide) rfl 11 rfl
  cases esx_1
  obtain ⟨rt_2, hRd_2, hIr9, hRs9⟩ := jRS.opn (hh.iv 4 rfl) (hh.at 10 rfl) (hh.at 11 rfl) (hh.iv 2 rfl)
  have hh_3 := hh.sub (L1 := [(r0, 16, 17, .ref zm), (r0, 16, 18, .ref xh), (r0, 16, 19, .ref xn), (r0, 16, 20, .ref xf), (r0, 16, 21, .ref xt), (r0, 16, 22, .ref xb), (r0, 16, 23, .ref xe), (r0, 16, 24, .ref xi), (r0, 16, 25, .ref xg), (r0, 16, 27, .ref xp), (r0, 16, 41, .ref dd), (r0, 16, 42, .int dc), (r0, 16, 60, .ref co), (r0, 16, 61, .ref cs), (r0, 16, 46, .ref ol), (r0, 16, 47, .ref nw), (r0, 16, 71, .ref td)]) [0, 1, 2, 3, 4, 5, 6, 7, 8, 9, 10, 11, 12, 13, 14, 15, 16] rfl (M1 := [(zm, 117, 3100, ca 1, ms), (xh, 118, 3100, ca 1, mh), (xn, 119, 3100, ca 1, mx), (xf, 120, 3100, ca 1, mf), (xt, 121, 3100, ca 1, mt), (xb, 122, 3100, ca 1, mb), (xe, 123, 3100, ca 1, me), (xi, 124, 3100, ca 3, mi), (xg, 125, 3100, ca 1, mn), (xp, 127, 3300, ca 1, fu), (cs, 207, 2, ca 1, fs)]) [0, 1, 2, 3, 4, 5, 6, 7, 8, 9, 10] rfl (I1 := [(jFs, jDY dC dI ca G0 none sn), (jF9, jVl dC dI G0 9 ck), ([(201, 0)], jQc dC dI (ca 4) dd 3 fd), ([(208, 0)], jQc dC dI (ca 4) co 2 fo)]) [0, 1, 2, 3] rfl
  clear hh
  have hh_4 := hh_3.addI (jRD.ie hRd_2)
  clear hh_3
  refine lv_aload_n hx hb dX14_close_0 rfl (lv_at hl 0 rfl) ?_
  refine lv_aload_n hx hb dX14_close_1 rfl (lv_at hl 0 rfl) ?_
  refine lv_aload_n hx hb dX14_close_2 rfl (lv_at hl 0 rfl) ?_
  refine lv_iload_n hx hb dX14_close_3 rfl (lv_at hl 1 rfl) ?_
  refine j_ldcSw hx hb hown rstr514 dX14_close_4 ?_
  refine va_calli (A0 := jA base) (H0 := s.heap) (va_runV (As := [.int a1, .ref str514]) (rest := [.ref r0, .ref r0]) ⟨hx, hb, hml, hown, hts⟩ (uX14_memberR l dC dI ca base B hB hAp hB16 hB117 hB118 hB119 hB120 hB121 hB127 G0 s.heap r0 a1 str514 12 (jChT "textDocument") zm xh xn xf xt xb xe xi xg xp T9 nd9 po9 ms mh mx mf mt mb me mi mn fu) (cwV 2 hts (jgV (jWr_55 _ (List.mem_of_getElem? (i := 15) rfl)) (jWr_55 _ (List.mem_of_getElem? (i := 16) rfl)) (jWr_55 _ (List.mem_of_getElem? (i := 17) rfl)) (jWr_1 _ (List.mem_of_getElem? (i := 5) rfl)) (jWr_55 _ (List.mem_of_getElem? (i := 18) rfl))) rfl rfl rfl (by decide +kernel) ⟨by rw [← hR]; exact Nat.le_of_ble_eq_true rfl, by rw [← hR]; exact Nat.le_of_ble_eq_true rfl⟩) ⟨fun a U g mk q => by obtain ⟨q0, q1, q2, qK, q10, q11, q12, q13, q14, q15, q16, q17, q18, q19, q20, q21, q22, q23, q24⟩ := q; exact ⟨q0, q1, q2, jG.calling g mk a qK, (q10.moved (Vm.Alike.refl U.vm)), q11, q12, q13, q14, q15, q16, q17, q18, q19, q20, q21, q22, q23, q24⟩, hh_4.recv (C := RX14) (T := TX14) (N := 74) hB16 rfl (by decide) hg_r0 hK, fun U hU hW => ⟨rfl, hU, hh_4.2.1, hG.step hW hU hh_4.1, (hTstr514.moved hW.alike).kept hh_4.1.2.1, hg_r0, hg_zm, hg_xh, hg_xn, hg_xf, hg_xt, hg_xb, hg_xe, hg_xi, hg_xg, hg_xp, (hh_4.2.2.1.sub (L1 := [(r0, 16, 17, .ref zm), (r0, 16, 18, .ref xh), (r0, 16, 19, .ref xn), (r0, 16, 20, .ref xf), (r0, 16, 21, .ref xt), (r0, 16, 22, .ref xb), (r0, 16, 23, .ref xe), (r0, 16, 24, .ref xi), (r0, 16, 25, .ref xg), (r0, 16, 27, .ref xp)]) [0, 1, 2, 3, 4, 5, 6, 7, 8, 9] rfl), (hh_4.2.2.2.2.2.2.2.1.sub (L1 := [(zm, 117, 3100, ca 1, ms), (xh, 118, 3100, ca 1, mh), (xn, 119, 3100, ca 1, mx), (xf, 120, 3100, ca 1, mf), (xt, 121, 3100, ca 1, mt), (xb, 122, 3100, ca 1, mb), (xe, 123, 3100, ca 1, me), (xi, 124, 3100, ca 3, mi), (xg, 125, 3100, ca 1, mn), (xp, 127, 3300, ca 1, fu)]) [0, 1, 2, 3, 4, 5, 6, 7, 8, 9] rfl), by first | omega | (refine ⟨?_, ?_, ?_, ?_, ?_, ?_, ?_⟩ <;> (first | omega | rfl | assumption | decide | exact Or.inl rfl | exact Or.inr rfl | (simp only; omega)))⟩⟩ rfl rfl hl.1 rfl (lv_room (Nat.le_of_ble_eq_true rfl)) dX14_close_7 ⟨Nat.zero_le _, Nat.zero_le _⟩) hh_4.1 (fun q _ h => h) (fun q h => h) (fun r_6 u_5 t_5 H_5 locs_5 ht_5 hvm_5 hr_6 hb_5 hz_5 hk_5 hS_5 => ?_)
  rw [ht_5] at hb_5
  obtain ⟨hb_51, hb_52, hb_53, hb_54, hb_55⟩ := hb_5
  have hh_5 : jSt (dC, dI) B base G0 G0 EX14_closeR s.heap 0 0 [(r0, 16, 17, .ref zm), (r0, 16, 18, .ref xh), (r0, 16, 19, .ref xn), (r0, 16, 20, .ref xf), (r0, 16, 21, .ref xt), (r0, 16, 22, .ref xb), (r0, 16, 23, .ref xe), (r0, 16, 24, .ref xi), (r0, 16, 25, .ref xg), (r0, 16, 27, .ref xp), (r0, 16, 41, .ref dd), (r0, 16, 42, .int dc), (r0, 16, 60, .ref co), (r0, 16, 61, .ref cs), (r0, 16, 46, .ref ol), (r0, 16, 47, .ref nw), (r0, 16, 71, .ref td)] [(zm, 117, 3100, ca 1, ms), (xh, 118, 3100, ca 1, mh), (xn, 119, 3100, ca 1, mx), (xf, 120, 3100, ca 1, mf), (xt, 121, 3100, ca 1, mt), (xb, 122, 3100, ca 1, mb), (xe, 123, 3100, ca 1, me), (xi, 124, 3100, ca 3, mi), (xg, 125, 3100, ca 1, mn), (xp, 127, 3300, ca 1, fu), (cs, 207, 2, ca 1, fs)] [(jFrd, jRD dC dI ca G0 none rt_2), (jFs, jDY dC dI ca G0 none sn), (jF9, jVl dC dI G0 9 ck), ([(201, 0)], jQc dC dI (ca 4) dd 3 fd), ([(208, 0)], jQc dC dI (ca 4) co 2 fo)] H_5 locs_5 := ((hh_4.call hb_51 hb_52 hb_53 hb_54 hS_5 rfl (L1 := [(r0, 16, 17, .ref zm), (r0, 16, 18, .ref xh), (r0, 16, 19, .ref xn), (r0, 16, 20, .ref xf), (r0, 16, 21, .ref xt), (r0, 16, 22, .ref xb), (r0, 16, 23, .ref xe), (r0, 16, 24, .ref xi), (r0, 16, 25, .ref xg), (r0, 16, 27, .ref xp), (r0, 16, 41, .ref dd), (r0, 16, 42, .int dc), (r0, 16, 60, .ref co), (r0, 16, 61, .ref cs), (r0, 16, 46, .ref ol), (r0, 16, 47, .ref nw), (r0, 16, 71, .ref td)]) [0, 1, 2, 3, 4, 5, 6, 7, 8, 9, 10, 11, 12, 13, 14, 15, 16] rfl rfl (M1 := [(zm, 117, 3100, ca 1, ms), (xh, 118, 3100, ca 1, mh), (xn, 119, 3100, ca 1, mx), (xf, 120, 3100, ca 1, mf), (xt, 121, 3100, ca 1, mt), (xb, 122, 3100, ca 1, mb), (xe, 123, 3100, ca 1, me), (xi, 124, 3100, ca 3, mi), (xg, 125, 3100, ca 1, mn), (xp, 127, 3300, ca 1, fu), (cs, 207, 2, ca 1, fs)]) [0, 1, 2, 3, 4, 5, 6, 7, 8, 9, 10] rfl rfl (I1 := [(jFrd, jRD dC dI ca G0 none rt_2), (jFs, jDY dC dI ca G0 none sn), (jF9, jVl dC dI G0 9 ck), ([(201, 0)], jQc dC dI (ca 4) dd 3 fd), ([(208, 0)], jQc dC dI (ca 4) co 2 fo)]) [0, 1, 2, 3, 4] rfl rfl).more hb_55)
  clear hh_4 ht_5 hvm_5 hz_5 hk_5 hS_5 hb_51 hb_52 hb_53 hb_54 hb_55
  obtain ⟨hr_6_0, hr_6_1, hr_6_2⟩ := hr_6
  refine j_ldcSw hx hb hown rstr516 dX14_close_10 ?_
  refine va_calli (A0 := jA base) (H0 := s.heap) (va_runV (As := [.int r_6, .ref str516]) (rest := [.ref r0]) ⟨hx, hb, hml, hown, hts⟩ (uX14_memberR l dC dI ca base B hB hAp hB16 hB117 hB118 hB119 hB120 hB121 hB127 G0 H_5 r0 r_6 str516 3 (jChT "uri") zm xh xn xf xt xb xe xi xg xp T9 nd9 po9 ms mh mx mf mt mb me mi mn fu) (cwV 2 hts (jgV (jWr_55 _ (List.mem_of_getElem? (i := 15) rfl)) (jWr_55 _ (List.mem_of_getElem? (i := 16) rfl)) (jWr_55 _ (List.mem_of_getElem? (i := 17) rfl)) (jWr_1 _ (List.mem_of_getElem? (i := 5) rfl)) (jWr_55 _ (List.mem_of_getElem? (i := 18) rfl))) rfl rfl rfl (by decide +kernel) ⟨by rw [← hR]; exact Nat.le_of_ble_eq_true rfl, by rw [← hR]; exact Nat.le_of_ble_eq_true rfl⟩) ⟨fun a U g mk q => by obtain ⟨q0, q1, q2, qK, q10, q11, q12, q13, q14, q15, q16, q17, q18, q19, q20, q21, q22, q23, q24⟩ := q; exact ⟨q0, q1, q2, jG.calling g mk a qK, (q10.moved (Vm.Alike.refl U.vm)), q11, q12, q13, q14, q15, q16, q17, q18, q19, q20, q21, q22, q23, q24⟩, hh_5.recv (C := RX14) (T := TX14) (N := 74) hB16 rfl (by decide) hg_r0 hK, fun U hU hW => ⟨rfl, hU, hh_5.2.1, hG.step hW hU hh_5.1, (hTstr516.moved hW.alike).kept hh_5.1.2.1, hg_r0, hg_zm, hg_xh, hg_xn, hg_xf, hg_xt, hg_xb, hg_xe, hg_xi, hg_xg, hg_xp, (hh_5.2.2.1.sub (L1 := [(r0, 16, 17, .ref zm), (r0, 16, 18, .ref xh), (r0, 16, 19, .ref xn), (r0, 16, 20, .ref xf), (r0, 16, 21, .ref xt), (r0, 16, 22, .ref xb), (r0, 16, 23, .ref xe), (r0, 16, 24, .ref xi), (r0, 16, 25, .ref xg), (r0, 16, 27, .ref xp)]) [0, 1, 2, 3, 4, 5, 6, 7, 8, 9] rfl), (hh_5.2.2.2.2.2.2.2.1.sub (L1 := [(zm, 117, 3100, ca 1, ms), (xh, 118, 3100, ca 1, mh), (xn, 119, 3100, ca 1, mx), (xf, 120, 3100, ca 1, mf), (xt, 121, 3100, ca 1, mt), (xb, 122, 3100, ca 1, mb), (xe, 123, 3100, ca 1, me), (xi, 124, 3100, ca 3, mi), (xg, 125, 3100, ca 1, mn), (xp, 127, 3300, ca 1, fu)]) [0, 1, 2, 3, 4, 5, 6, 7, 8, 9] rfl), by first | omega | (refine ⟨?_, ?_, ?_, ?_, ?_, ?_, ?_⟩ <;> (first | omega | rfl | assumption | decide | exact Or.inl rfl | exact Or.inr rfl | (simp only; omega)))⟩⟩ rfl rfl hl.1 rfl (lv_room (Nat.le_of_ble_eq_true rfl)) dX14_close_13 ⟨Nat.zero_le _, Nat.zero_le _⟩) hh_5.1 (fun q _ h => h) (fun q h => h) (fun r_8 u_7 t_7 H_7 locs_7 ht_7 hvm_7 hr_8 hb_7 hz_7 hk_7 hS_7 => ?_)
  rw [ht_7] at hb_7
  obtain ⟨hb_71, hb_72, hb_73, hb_74, hb_75⟩ := hb_7
  have hh_7 : jSt (dC, dI) B base G0 G0 EX14_closeR s.heap 0 0 [(r0, 16, 17, .ref zm), (r0, 16, 18, .ref xh), (r0, 16, 19, .ref xn), (r0, 16, 20, .ref xf), (r0, 16, 21, .ref xt), (r0, 16, 22, .ref xb), (r0, 16, 23, .ref xe), (r0, 16, 24, .ref xi), (r0, 16, 25, .ref xg), (r0, 16, 27, .ref xp), (r0, 16, 41, .ref dd), (r0, 16, 42, .int dc), (r0, 16, 60, .ref co), (r0, 16, 61, .ref cs), (r0, 16, 46, .ref ol), (r0, 16, 47, .ref nw), (r0, 16, 71, .ref td)] [(zm, 117, 3100, ca 1, ms), (xh, 118, 3100, ca 1, mh), (xn, 119, 3100, ca 1, mx), (xf, 120, 3100, ca 1, mf), (xt, 121, 3100, ca 1, mt), (xb, 122, 3100, ca 1, mb), (xe, 123, 3100, ca 1, me), (xi, 124, 3100, ca 3, mi), (xg, 125, 3100, ca 1, mn), (xp, 127, 3300, ca 1, fu), (cs, 207, 2, ca 1, fs)] [(jFrd, jRD dC dI ca G0 none rt_2), (jFs, jDY dC dI ca G0 none sn), (jF9, jVl dC dI G0 9 ck), ([(201, 0)], jQc dC dI (ca 4) dd 3 fd), ([(208, 0)], jQc dC dI (ca 4) co 2 fo)] H_7 locs_7 := ((hh_5.call hb_71 hb_72 hb_73 hb_74 hS_7 rfl (L1 := [(r0, 16, 17, .ref zm), (r0, 16, 18, .ref xh), (r0, 16, 19, .ref xn), (r0, 16, 20, .ref xf), (r0, 16, 21, .ref xt), (r0, 16, 22, .ref xb), (r0, 16, 23, .ref xe), (r0, 16, 24, .ref xi), (r0, 16, 25, .ref xg), (r0, 16, 27, .ref xp), (r0, 16, 41, .ref dd), (r0, 16, 42, .int dc), (r0, 16, 60, .ref co), (r0, 16, 61, .ref cs), (r0, 16, 46, .ref ol), (r0, 16, 47, .ref nw), (r0, 16, 71, .ref td)]) [0, 1, 2, 3, 4, 5, 6, 7, 8, 9, 10, 11, 12, 13, 14, 15, 16] rfl rfl (M1 := [(zm, 117, 3100, ca 1, ms), (xh, 118, 3100, ca 1, mh), (xn, 119, 3100, ca 1, mx), (xf, 120, 3100, ca 1, mf), (xt, 121, 3100, ca 1, mt), (xb, 122, 3100, ca 1, mb), (xe, 123, 3100, ca 1, me), (xi, 124, 3100, ca 3, mi), (xg, 125, 3100, ca 1, mn), (xp, 127, 3300, ca 1, fu), (cs, 207, 2, ca 1, fs)]) [0, 1, 2, 3, 4, 5, 6, 7, 8, 9, 10] rfl rfl (I1 := [(jFrd, jRD dC dI ca G0 none rt_2), (jFs, jDY dC dI ca G0 none sn), (jF9, jVl dC dI G0 9 ck), ([(201, 0)], jQc dC dI (ca 4) dd 3 fd), ([(208, 0)], jQc dC dI (ca 4) co 2 fo)]) [0, 1, 2, 3, 4] rfl rfl).more hb_75)
  clear hh_5 ht_7 hvm_7 hz_7 hk_7 hS_7 hb_71 hb_72 hb_73 hb_74 hb_75
  obtain ⟨hr_8_0, hr_8_1, hr_8_2⟩ := hr_8
  refine j_callx (A0 := jA base) (H0 := s.heap) (va_runV (As := [.int r_8]) (rest := []) ⟨hx, hb, hml, hown, hts⟩ (uX14_documentOfR l dC dI ca base B hB hAp hB14 hB16 hB117 hB122 hB123 hB127 hB195 hB201 G0 H_7 r0 r_8 zm xh xn xf xt xb xe xi xg xp dd dc co cs ol nw td T9 nd9 po9 rt_2 sn ck fd fo ms mh mx mf mt mb me mi mn fu fs) (cwV 1 hts (jgV (jWr_57 _ (List.mem_of_getElem? (i := 6) rfl)) (jWr_57 _ (List.mem_of_getElem? (i := 7) rfl)) (jWr_57 _ (List.mem_of_getElem? (i := 8) rfl)) (jWr_1 _ (List.mem_of_getElem? (i := 5) rfl)) (jWr_57 _ (List.mem_of_getElem? (i := 9) rfl))) rfl rfl rfl (by decide +kernel) ⟨by rw [← hR]; exact Nat.le_of_ble_eq_true rfl, by rw [← hR]; exact Nat.le_of_ble_eq_true rfl⟩) ⟨fun a U g mk q => by obtain ⟨q0, q1, q2, qK, q10, q11, q12, q13, q14, q15, q16, q17, q18, q19, q20, q21, q22, q23, q24, q25, q26, q27, q28, q29, q30, q31⟩ := q; exact ⟨q0, q1, q2, jG.calling g mk a qK, (va_K.moved (Vm.Alike.refl U.vm) q10), q11, q12, q13, q14, q15, q16, q17, q18, q19, q20, q21, q22, q23, q24, q25, q26, q27, q28, q29, q30, q31⟩, hh_7.recv (C := RX14) (T := TX14) (N := 74) hB16 rfl (by decide) hg_r0 hK, fun U hU hW => ⟨rfl, hU, hh_7.2.1, hG.step hW hU hh_7.1, va_K.moved hW.alike hK2, hg_r0, hg_zm, hg_xh, hg_xn, hg_xf, hg_xt, hg_xb, hg_xe, hg_xi, hg_xg, hg_xp, hg_dd, hg_co, hg_cs, hg_ol, hg_nw, hg_td, (hh_7.2.2.1.sub (L1 := [(r0, 16, 17, .ref zm), (r0, 16, 18, .ref xh), (r0, 16, 19, .ref xn), (r0, 16, 20, .ref xf), (r0, 16, 21, .ref xt), (r0, 16, 22, .ref xb), (r0, 16, 23, .ref xe), (r0, 16, 24, .ref xi), (r0, 16, 25, .ref xg), (r0, 16, 27, .ref xp), (r0, 16, 41, .ref dd), (r0, 16, 42, .int dc), (r0, 16, 60, .ref co), (r0, 16, 61, .ref cs), (r0, 16, 46, .ref ol), (r0, 16, 47, .ref nw), (r0, 16, 71, .ref td)]) [0, 1, 2, 3, 4, 5, 6, 7, 8, 9, 10, 11, 12, 13, 14, 15, 16] rfl), (hh_7.2.2.2.2.2.2.2.1.sub (L1 := [(zm, 117, 3100, ca 1, ms), (xh, 118, 3100, ca 1, mh), (xn, 119, 3100, ca 1, mx), (xf, 120, 3100, ca 1, mf), (xt, 121, 3100, ca 1, mt), (xb, 122, 3100, ca 1, mb), (xe, 123, 3100, ca 1, me), (xi, 124, 3100, ca 3, mi), (xg, 125, 3100, ca 1, mn), (xp, 127, 3300, ca 1, fu), (cs, 207, 2, ca 1, fs)]) [0, 1, 2, 3, 4, 5, 6, 7, 8, 9, 10] rfl), (hh_7.2.2.2.2.2.2.2.2.sub (L1 := [(jFs, jDY dC dI ca G0 none sn), (jF9, jVl dC dI G0 9 ck), ([(201, 0)], jQc dC dI (ca 4) dd 3 fd), ([(208, 0)], jQc dC dI (ca 4) co 2 fo), (jFrd, jRD dC dI ca G0 none rt_2)]) [1, 2, 3, 4, 0] rfl), by first | omega | (refine ⟨?_, ?_, ?_, ?_, ?_, ?_⟩ <;> (first | omega | rfl | assumption | decide | exact Or.inl rfl | exact Or.inr rfl | (simp only; omega)))⟩⟩ rfl rfl hl.1 rfl (lv_room (Nat.le_of_ble_eq_true rfl)) dX14_close_16 ⟨Nat.zero_le _, Nat.zero_le _⟩) hh_7.1 (fun q _ h => h) (fun q h => h) (fun r_10 u_9 t_9 H_9 locs_9 ht_9 hvm_9 hr_10 hb_9 hz_9 hk_9 hS_9 => ?_)
  rw [ht_9] at hb_9
  obtain ⟨hb_9, hbE_9⟩ := hb_9
  obtain ⟨hb_91, hb_92, hb_93, hb_94, hb_95⟩ := hb_9
  have hh_9 : jSt (dC, dI) B base G0 G0 EX14_closeR s.heap 0 0 [(r0, 16, 17, .ref zm), (r0, 16, 18, .ref xh), (r0, 16, 19, .ref xn), (r0, 16, 20, .ref xf), (r0, 16, 21, .ref xt), (r0, 16, 22, .ref xb), (r0, 16, 23, .ref xe), (r0, 16, 24, .ref xi), (r0, 16, 25, .ref xg), (r0, 16, 27, .ref xp), (r0, 16, 41, .ref dd), (r0, 16, 42, .int dc), (r0, 16, 60, .ref co), (r0, 16, 61, .ref cs), (r0, 16, 46, .ref ol), (r0, 16, 47, .ref nw), (r0, 16, 71, .ref td)] [(zm, 117, 3100, ca 1, ms), (xh, 118, 3100, ca 1, mh), (xn, 119, 3100, ca 1, mx), (xf, 120, 3100, ca 1, mf), (xt, 121, 3100, ca 1, mt), (xb, 122, 3100, ca 1, mb), (xe, 123, 3100, ca 1, me), (xi, 124, 3100, ca 3, mi), (xg, 125, 3100, ca 1, mn), (xp, 127, 3300, ca 1, fu), (cs, 207, 2, ca 1, fs)] [(jFrd, jRD dC dI ca G0 none rt_2), (jFs, jDY dC dI ca G0 none sn), (jF9, jVl dC dI G0 9 ck), ([(201, 0)], jQc dC dI (ca 4) dd 3 fd), ([(208, 0)], jQc dC dI (ca 4) co 2 fo)] H_9 locs_9 := (((hh_7.call hb_91 hb_92 hb_93 hb_94 hS_9 rfl (L1 := [(r0, 16, 17, .ref zm), (r0, 16, 18, .ref xh), (r0, 16, 19, .ref xn), (r0, 16, 20, .ref xf), (r0, 16, 21, .ref xt), (r0, 16, 22, .ref xb), (r0, 16, 23, .ref xe), (r0, 16, 24, .ref xi), (r0, 16, 25, .ref xg), (r0, 16, 27, .ref xp), (r0, 16, 41, .ref dd), (r0, 16, 42, .int dc), (r0, 16, 60, .ref co), (r0, 16, 61, .ref cs), (r0, 16, 46, .ref ol), (r0, 16, 47, .ref nw), (r0, 16, 71, .ref td)]) [0, 1, 2, 3, 4, 5, 6, 7, 8, 9, 10, 11, 12, 13, 14, 15, 16] rfl rfl (M1 := [(zm, 117, 3100, ca 1, ms), (xh, 118, 3100, ca 1, mh), (xn, 119, 3100, ca 1, mx), (xf, 120, 3100, ca 1, mf), (xt, 121, 3100, ca 1, mt), (xb, 122, 3100, ca 1, mb), (xe, 123, 3100, ca 1, me), (xi, 124, 3100, ca 3, mi), (xg, 125, 3100, ca 1, mn), (xp, 127, 3300, ca 1, fu), (cs, 207, 2, ca 1, fs)]) [0, 1, 2, 3, 4, 5, 6, 7, 8, 9, 10] rfl rfl (I1 := [(jFs, jDY dC dI ca G0 none sn), (jF9, jVl dC dI G0 9 ck), ([(201, 0)], jQc dC dI (ca 4) dd 3 fd), ([(208, 0)], jQc dC dI (ca 4) co 2 fo)]) [1, 2, 3, 4] rfl rfl).more hb_95)).addIs hbE_9
  clear hh_7 ht_9 hvm_9 hz_9 hk_9 hS_9 hb_91 hb_92 hb_93 hb_94 hb_95
  clear  hbE_9
  obtain ⟨hr_10, hr_10p⟩ := hr_10
  have hu9 : r_8.toInt = jdUr T9 nd9 := jdUr.of (z := (0 : Int)) rfl hp6 hr_6_0 hr_8_0
  have hdo9 := hr_10p
  rw [hu9] at hdo9
  rcases hr_10 with rfl | ⟨ret_11, rfl, hg_ret_11⟩
  · skip
    refine j7_nst_n (lv' := [(2, .null), (0, .ref r0), (1, .int a1)]) hx hb dX14_close_19 rfl hl (by decide) rfl (fun ls hl => ?_)
    refine j7_nld_n hx hb dX14_close_20 rfl (lv_at hl 0 rfl) ?_
    refine lv_ifnonnullN hx hb dX14_close_21 ?_
    have hI_12 : jdIr rt_2 fd (dc).toInt := hIr9
    have hAf_12 := jRS.mk hg_r0 (hh_9.at 10 rfl) hg_dd (hh_9.iv 3 rfl) (hh_9.at 11 rfl) (hh_9.iv 0 rfl) hI_12
    have hh_13 := hh_9.sub (L1 := [(r0, 16, 17, .ref zm), (r0, 16, 18, .ref xh), (r0, 16, 19, .ref xn), (r0, 16, 20, .ref xf), (r0, 16, 21, .ref xt), (r0, 16, 22, .ref xb), (r0, 16, 23, .ref xe), (r0, 16, 24, .ref xi), (r0, 16, 25, .ref xg), (r0, 16, 27, .ref xp), (r0, 16, 41, .ref dd), (r0, 16, 42, .int dc), (r0, 16, 60, .ref co), (r0, 16, 61, .ref cs), (r0, 16, 46, .ref ol), (r0, 16, 47, .ref nw), (r0, 16, 71, .ref td)]) [0, 1, 2, 3, 4, 5, 6, 7, 8, 9, 10, 11, 12, 13, 14, 15, 16] rfl (M1 := [(zm, 117, 3100, ca 1, ms), (xh, 118, 3100, ca 1, mh), (xn, 119, 3100, ca 1, mx), (xf, 120, 3100, ca 1, mf), (xt, 121, 3100, ca 1, mt), (xb, 122, 3100, ca 1, mb), (xe, 123, 3100, ca 1, me), (xi, 124, 3100, ca 3, mi), (xg, 125, 3100, ca 1, mn), (xp, 127, 3300, ca 1, fu), (cs, 207, 2, ca 1, fs)]) [0, 1, 2, 3, 4, 5, 6, 7, 8, 9, 10] rfl (I1 := [(jFs, jDY dC dI ca G0 none sn), (jF9, jVl dC dI G0 9 ck), ([(201, 0)], jQc dC dI (ca 4) dd 3 fd), ([(208, 0)], jQc dC dI (ca 4) co 2 fo)]) [1, 2, 3, 4] rfl
    clear hh_9
    have hh_14 := hh_13.addI (jRS.ie hAf_12)
    clear hh_13
    have hA_15 : (jdRs rt_2 fd (dc).toInt) = S8 := by rw [hp7, ← hRs9]; exact (jdClose.gn (jdWh.rn hIr9 hdo9)).symm
    have hAe_15 := hh_14.iv 0 rfl
    rw [hA_15] at hAe_15
    have hh_16 := hh_14.sub (L1 := [(r0, 16, 17, .ref zm), (r0, 16, 18, .ref xh), (r0, 16, 19, .ref xn), (r0, 16, 20, .ref xf), (r0, 16, 21, .ref xt), (r0, 16, 22, .ref xb), (r0, 16, 23, .ref xe), (r0, 16, 24, .ref xi), (r0, 16, 25, .ref xg), (r0, 16, 27, .ref xp), (r0, 16, 41, .ref dd), (r0, 16, 42, .int dc), (r0, 16, 60, .ref co), (r0, 16, 61, .ref cs), (r0, 16, 46, .ref ol), (r0, 16, 47, .ref nw), (r0, 16, 71, .ref td)]) [0, 1, 2, 3, 4, 5, 6, 7, 8, 9, 10, 11, 12, 13, 14, 15, 16] rfl (M1 := [(zm, 117, 3100, ca 1, ms), (xh, 118, 3100, ca 1, mh), (xn, 119, 3100, ca 1, mx), (xf, 120, 3100, ca 1, mf), (xt, 121, 3100, ca 1, mt), (xb, 122, 3100, ca 1, mb), (xe, 123, 3100, ca 1, me), (xi, 124, 3100, ca 3, mi), (xg, 125, 3100, ca 1, mn), (xp, 127, 3300, ca 1, fu), (cs, 207, 2, ca 1, fs)]) [0, 1, 2, 3, 4, 5, 6, 7, 8, 9, 10] rfl (I1 := [(jFs, jDY dC dI ca G0 none sn), (jF9, jVl dC dI G0 9 ck), ([(201, 0)], jQc dC dI (ca 4) dd 3 fd), ([(208, 0)], jQc dC dI (ca 4) co 2 fo)]) [1, 2, 3, 4] rfl
    clear hh_14
    have hh_17 := hh_16.addI (jRS.ie hAe_15)
    clear hh_16
    rw [hQ]
    exact W.vret hx hb hr (fun t ht hW => ⟨⟨(), rfl, trivial, ⟨⟨hh_17.rt (M1 := []) [] rfl ht, by rw [ht]; exact ⟨sn, ck, fs, fd, fo, dc, hh_17.2.2.1.sub (L1 := [(r0, 16, 41, .ref dd), (r0, 16, 42, .int dc), (r0, 16, 60, .ref co), (r0, 16, 61, .ref cs), (r0, 16, 46, .ref ol), (r0, 16, 47, .ref nw), (r0, 16, 71, .ref td)]) [10, 11, 12, 13, 14, 15, 16] rfl, hh_17.2.2.2.2.2.2.2.1.sub (L1 := [(cs, 207, 2, ca 1, fs)]) [10] rfl, hh_17.2.2.2.2.2.2.2.2.sub (L1 := [(jFs, jDY dC dI ca G0 none sn), (jF9, jVl dC dI G0 9 ck), ([(201, 0)], jQc dC dI (ca 4) dd 3 fd), ([(208, 0)], jQc dC dI (ca 4) co 2 fo)]) [1, 2, 3, 4] rfl, hp0⟩⟩, by rw [ht]; exact hh_17.2.2.2.2.2.2.2.2.sub (L1 := [(jFra, jRS dC dI ca G0 r0 S8)]) [0] rfl⟩⟩, by rw [ht]; try exact hh_17.1.1, fun q h9 hq => by rw [ht]; try exact hh_17.1.2.1 q h9 hq⟩) hh_17.1.2.2 dX14_close_24
  · skip
    refine lv_astore_n (lv' := [(2, .ref ret_11), (0, .ref r0), (1, .int a1)]) hx hb dX14_close_19 rfl hl (by decide) rfl (fun ls hl => ?_)
    refine lv_aload_n hx hb dX14_close_20 rfl (lv_at hl 0 rfl) ?_
    refine lv_ifnonnull (tgt := 25) hx hb dX14_close_21 (by decide) ?_
    have hry9 := jdWh.ry hIr9 hdo9
    obtain ⟨d0, hd0, hd1, hd2⟩ : ∃ d : Nat, d < 3 ∧ (d : Int) < dc.toInt ∧ fd d = some ret_11 := ⟨_, by have h9 := hIr9.2.1; omega, by have h9 := hry9; omega, hry9.2.2⟩
    refine lv_aload_n hx hb dX14_close_25 rfl (lv_at hl 1 rfl) ?_
    refine lv_aload_n hx hb dX14_close_26 rfl (lv_at hl 0 rfl) ?_
    refine va_callv (A0 := jA base) (H0 := s.heap) (va_runV (As := [.ref ret_11]) (rest := []) ⟨hx, hb, hml, hown, hts⟩ (uX14_modified l dC dI ca base B hB hAp hB14 hB16 hB101 hB103 hB202 hB203 hB204 hB206 G0 H_9 r0 ret_11) (cwV 1 hts (jgV (jWr_73 _ (List.mem_of_getElem? (i := 22) rfl)) (jWr_73 _ (List.mem_of_getElem? (i := 23) rfl)) (jWr_74 _ (List.mem_of_getElem? (i := 0) rfl)) (jWr_1 _ (List.mem_of_getElem? (i := 5) rfl)) (jWr_74 _ (List.mem_of_getElem? (i := 1) rfl))) rfl rfl rfl (by decide +kernel) ⟨by rw [← hR]; exact Nat.le_of_ble_eq_true rfl, by rw [← hR]; exact Nat.le_of_ble_eq_true rfl⟩) ⟨fun a U g mk q => by obtain ⟨q0, q1, q2, qK, q10, q11, q12, q13, q14⟩ := q; exact ⟨q0, q1, q2, jG.calling g mk a qK, (va_K.moved (Vm.Alike.refl U.vm) q10), q11, q12, q13, q14⟩, hh_9.recv (C := RX14) (T := TX14) (N := 74) hB16 rfl (by decide) hg_r0 hK, fun U hU hW => ⟨rfl, hU, hh_9.2.1, hG.step hW hU hh_9.1, va_K.moved hW.alike hK2, hg_ret_11, hg_r0, jP.nil, trivial⟩⟩ rfl rfl hl.1 rfl (lv_room (Nat.le_of_ble_eq_true rfl)) dX14_close_27 ⟨Nat.zero_le _, Nat.zero_le _⟩) hh_9.1 (fun q _ h => h) (fun q h => h) (fun u_18 t_18 H_18 locs_18 ht_18 hvm_18 hr_19 hb_18 hz_18 hk_18 hS_18 => ?_)
    rw [ht_18] at hb_18
    obtain ⟨hb_181, hb_182, hb_183, hb_184, hb_185⟩ := hb_18
    have hh_18 : jSt (dC, dI) B base G0 G0 EX14_closeR s.heap 0 0 [(r0, 16, 17, .ref zm), (r0, 16, 18, .ref xh), (r0, 16, 19, .ref xn), (r0, 16, 20, .ref xf), (r0, 16, 21, .ref xt), (r0, 16, 22, .ref xb), (r0, 16, 23, .ref xe), (r0, 16, 24, .ref xi), (r0, 16, 25, .ref xg), (r0, 16, 27, .ref xp), (r0, 16, 41, .ref dd), (r0, 16, 42, .int dc), (r0, 16, 60, .ref co), (r0, 16, 61, .ref cs), (r0, 16, 46, .ref ol), (r0, 16, 47, .ref nw), (r0, 16, 71, .ref td)] [(zm, 117, 3100, ca 1, ms), (xh, 118, 3100, ca 1, mh), (xn, 119, 3100, ca 1, mx), (xf, 120, 3100, ca 1, mf), (xt, 121, 3100, ca 1, mt), (xb, 122, 3100, ca 1, mb), (xe, 123, 3100, ca 1, me), (xi, 124, 3100, ca 3, mi), (xg, 125, 3100, ca 1, mn), (xp, 127, 3300, ca 1, fu), (cs, 207, 2, ca 1, fs)] [(jFrd, jRD dC dI ca G0 none rt_2), (jFs, jDY dC dI ca G0 none sn), (jF9, jVl dC dI G0 9 ck), ([(201, 0)], jQc dC dI (ca 4) dd 3 fd), ([(208, 0)], jQc dC dI (ca 4) co 2 fo)] H_18 locs_18 := ((hh_9.call hb_181 hb_182 hb_183 hb_184 hS_18 rfl (L1 := [(r0, 16, 17, .ref zm), (r0, 16, 18, .ref xh), (r0, 16, 19, .ref xn), (r0, 16, 20, .ref xf), (r0, 16, 21, .ref xt), (r0, 16, 22, .ref xb), (r0, 16, 23, .ref xe), (r0, 16, 24, .ref xi), (r0, 16, 25, .ref xg), (r0, 16, 27, .ref xp), (r0, 16, 41, .ref dd), (r0, 16, 42, .int dc), (r0, 16, 60, .ref co), (r0, 16, 61, .ref cs), (r0, 16, 46, .ref ol), (r0, 16, 47, .ref nw), (r0, 16, 71, .ref td)]) [0, 1, 2, 3, 4, 5, 6, 7, 8, 9, 10, 11, 12, 13, 14, 15, 16] rfl rfl (M1 := [(zm, 117, 3100, ca 1, ms), (xh, 118, 3100, ca 1, mh), (xn, 119, 3100, ca 1, mx), (xf, 120, 3100, ca 1, mf), (xt, 121, 3100, ca 1, mt), (xb, 122, 3100, ca 1, mb), (xe, 123, 3100, ca 1, me), (xi, 124, 3100, ca 3, mi), (xg, 125, 3100, ca 1, mn), (xp, 127, 3300, ca 1, fu), (cs, 207, 2, ca 1, fs)]) [0, 1, 2, 3, 4, 5, 6, 7, 8, 9, 10] rfl rfl (I1 := [(jFrd, jRD dC dI ca G0 none rt_2), (jFs, jDY dC dI ca G0 none sn), (jF9, jVl dC dI G0 9 ck), ([(201, 0)], jQc dC dI (ca 4) dd 3 fd), ([(208, 0)], jQc dC dI (ca 4) co 2 fo)]) [0, 1, 2, 3, 4] rfl rfl).more hb_185)
    clear hh_9 ht_18 hvm_18 hz_18 hk_18 hS_18 hb_181 hb_182 hb_183 hb_184 hb_185
    refine lv_aload_n hx hb dX14_close_30 rfl (lv_at hl 1 rfl) ?_
    refine lv_aload_n hx hb dX14_close_31 rfl (lv_at hl 0 rfl) ?_
    refine va_callv (A0 := jA base) (H0 := s.heap) (va_runV (As := [.ref ret_11]) (rest := []) ⟨hx, hb, hml, hown, hts⟩ (uX14_beginDiagnostics l dC dI ca base B hB hAp hB14 hB16 hB101 hB195 G0 H_18 r0 ret_11) (cwV 1 hts (jgV (jWr_58 _ (List.mem_of_getElem? (i := 12) rfl)) (jWr_58 _ (List.mem_of_getElem? (i := 13) rfl)) (jWr_58 _ (List.mem_of_getElem? (i := 14) rfl)) (jWr_1 _ (List.mem_of_getElem? (i := 5) rfl)) (jWr_58 _ (List.mem_of_getElem? (i := 15) rfl))) rfl rfl rfl (by decide +kernel) ⟨by rw [← hR]; exact Nat.le_of_ble_eq_true rfl, by rw [← hR]; exact Nat.le_of_ble_eq_true rfl⟩) ⟨fun a U g mk q => by obtain ⟨q0, q1, q2, qK, q10, q11, q12, q13⟩ := q; exact ⟨q0, q1, q2, jG.calling g mk a qK, q10, q11, q12, q13⟩, hh_18.recv (C := RX14) (T := TX14) (N := 74) hB16 rfl (by decide) hg_r0 hK, fun U hU hW => ⟨rfl, hU, hh_18.2.1, hG.step hW hU hh_18.1, hg_ret_11, hg_r0, jP.nil, trivial⟩⟩ rfl rfl hl.1 rfl (lv_room (Nat.le_of_ble_eq_true rfl)) dX14_close_32 ⟨Nat.zero_le _, Nat.zero_le _⟩) hh_18.1 (fun q _ h => h) (fun q h => h) (fun u_20 t_20 H_20 locs_20 ht_20 hvm_20 hr_21 hb_20 hz_20 hk_20 hS_20 => ?_)
    rw [ht_20] at hb_20
    obtain ⟨hb_201, hb_202, hb_203, hb_204, hb_205⟩ := hb_20
    have hh_20 : jSt (dC, dI) B base G0 G0 EX14_closeR s.heap 0 0 [(r0, 16, 17, .ref zm), (r0, 16, 18, .ref xh), (r0, 16, 19, .ref xn), (r0, 16, 20, .ref xf), (r0, 16, 21, .ref xt), (r0, 16, 22, .ref xb), (r0, 16, 23, .ref xe), (r0, 16, 24, .ref xi), (r0, 16, 25, .ref xg), (r0, 16, 27, .ref xp), (r0, 16, 41, .ref dd), (r0, 16, 42, .int dc), (r0, 16, 60, .ref co), (r0, 16, 61, .ref cs), (r0, 16, 46, .ref ol), (r0, 16, 47, .ref nw), (r0, 16, 71, .ref td)] [(zm, 117, 3100, ca 1, ms), (xh, 118, 3100, ca 1, mh), (xn, 119, 3100, ca 1, mx), (xf, 120, 3100, ca 1, mf), (xt, 121, 3100, ca 1, mt), (xb, 122, 3100, ca 1, mb), (xe, 123, 3100, ca 1, me), (xi, 124, 3100, ca 3, mi), (xg, 125, 3100, ca 1, mn), (xp, 127, 3300, ca 1, fu), (cs, 207, 2, ca 1, fs)] [(jFrd, jRD dC dI ca G0 none rt_2), (jFs, jDY dC dI ca G0 none sn), (jF9, jVl dC dI G0 9 ck), ([(201, 0)], jQc dC dI (ca 4) dd 3 fd), ([(208, 0)], jQc dC dI (ca 4) co 2 fo)] H_20 locs_20 := ((hh_18.call hb_201 hb_202 hb_203 hb_204 hS_20 rfl (L1 := [(r0, 16, 17, .ref zm), (r0, 16, 18, .ref xh), (r0, 16, 19, .ref xn), (r0, 16, 20, .ref xf), (r0, 16, 21, .ref xt), (r0, 16, 22, .ref xb), (r0, 16, 23, .ref xe), (r0, 16, 24, .ref xi), (r0, 16, 25, .ref xg), (r0, 16, 27, .ref xp), (r0, 16, 41, .ref dd), (r0, 16, 42, .int dc), (r0, 16, 60, .ref co), (r0, 16, 61, .ref cs), (r0, 16, 46, .ref ol), (r0, 16, 47, .ref nw), (r0, 16, 71, .ref td)]) [0, 1, 2, 3, 4, 5, 6, 7, 8, 9, 10, 11, 12, 13, 14, 15, 16] rfl rfl (M1 := [(zm, 117, 3100, ca 1, ms), (xh, 118, 3100, ca 1, mh), (xn, 119, 3100, ca 1, mx), (xf, 120, 3100, ca 1, mf), (xt, 121, 3100, ca 1, mt), (xb, 122, 3100, ca 1, mb), (xe, 123, 3100, ca 1, me), (xi, 124, 3100, ca 3, mi), (xg, 125, 3100, ca 1, mn), (xp, 127, 3300, ca 1, fu), (cs, 207, 2, ca 1, fs)]) [0, 1, 2, 3, 4, 5, 6, 7, 8, 9, 10] rfl rfl (I1 := [(jFrd, jRD dC dI ca G0 none rt_2), (jFs, jDY dC dI ca G0 none sn), (jF9, jVl dC dI G0 9 ck), ([(201, 0)], jQc dC dI (ca 4) dd 3 fd), ([(208, 0)], jQc dC dI (ca 4) co 2 fo)]) [0, 1, 2, 3, 4] rfl rfl).more hb_205)
    clear hh_18 ht_20 hvm_20 hz_20 hk_20 hS_20 hb_201 hb_202 hb_203 hb_204 hb_205
    refine lv_aload_n hx hb dX14_close_35 rfl (lv_at hl 1 rfl) ?_
    refine va_callv (A0 := jA base) (H0 := s.heap) (va_runV (As := []) (rest := []) ⟨hx, hb, hml, hown, hts⟩ (uX14_endDiagnostics l dC dI ca base B hB hAp hB16 hB101 G0 H_20 r0) (cwV 0 hts (jgV (jWr_59 _ (List.mem_of_getElem? (i := 2) rfl)) (jWr_59 _ (List.mem_of_getElem? (i := 3) rfl)) (jWr_59 _ (List.mem_of_getElem? (i := 4) rfl)) (jWr_1 _ (List.mem_of_getElem? (i := 5) rfl)) (jWr_59 _ (List.mem_of_getElem? (i := 5) rfl))) rfl rfl rfl (by decide +kernel) ⟨by rw [← hR]; exact Nat.le_of_ble_eq_true rfl, by rw [← hR]; exact Nat.le_of_ble_eq_true rfl⟩) ⟨fun a U g mk q => by obtain ⟨q0, q1, q2, qK, q10, q11, q12⟩ := q; exact ⟨q0, q1, q2, jG.calling g mk a qK, q10, q11, q12⟩, hh_20.recv (C := RX14) (T := TX14) (N := 74) hB16 rfl (by decide) hg_r0 hK, fun U hU hW => ⟨rfl, hU, hh_20.2.1, hG.step hW hU hh_20.1, hg_r0, jP.nil, trivial⟩⟩ rfl rfl hl.1 rfl (lv_room (Nat.le_of_ble_eq_true rfl)) dX14_close_36 ⟨Nat.zero_le _, Nat.zero_le _⟩) hh_20.1 (fun q _ h => h) (fun q h => h) (fun u_22 t_22 H_22 locs_22 ht_22 hvm_22 hr_23 hb_22 hz_22 hk_22 hS_22 => ?_)
    rw [ht_22] at hb_22
    obtain ⟨hb_221, hb_222, hb_223, hb_224, hb_225⟩ := hb_22
    have hh_22 : jSt (dC, dI) B base G0 G0 EX14_closeR s.heap 0 0 [(r0, 16, 17, .ref zm), (r0, 16, 18, .ref xh), (r0, 16, 19, .ref xn), (r0, 16, 20, .ref xf), (r0, 16, 21, .ref xt), (r0, 16, 22, .ref xb), (r0, 16, 23, .ref xe), (r0, 16, 24, .ref xi), (r0, 16, 25, .ref xg), (r0, 16, 27, .ref xp), (r0, 16, 41, .ref dd), (r0, 16, 42, .int dc), (r0, 16, 60, .ref co), (r0, 16, 61, .ref cs), (r0, 16, 46, .ref ol), (r0, 16, 47, .ref nw), (r0, 16, 71, .ref td)] [(zm, 117, 3100, ca 1, ms), (xh, 118, 3100, ca 1, mh), (xn, 119, 3100, ca 1, mx), (xf, 120, 3100, ca 1, mf), (xt, 121, 3100, ca 1, mt), (xb, 122, 3100, ca 1, mb), (xe, 123, 3100, ca 1, me), (xi, 124, 3100, ca 3, mi), (xg, 125, 3100, ca 1, mn), (xp, 127, 3300, ca 1, fu), (cs, 207, 2, ca 1, fs)] [(jFrd, jRD dC dI ca G0 none rt_2), (jFs, jDY dC dI ca G0 none sn), (jF9, jVl dC dI G0 9 ck), ([(201, 0)], jQc dC dI (ca 4) dd 3 fd), ([(208, 0)], jQc dC dI (ca 4) co 2 fo)] H_22 locs_22 := ((hh_20.call hb_221 hb_222 hb_223 hb_224 hS_22 rfl (L1 := [(r0, 16, 17, .ref zm), (r0, 16, 18, .ref xh), (r0, 16, 19, .ref xn), (r0, 16, 20, .ref xf), (r0, 16, 21, .ref xt), (r0, 16, 22, .ref xb), (r0, 16, 23, .ref xe), (r0, 16, 24, .ref xi), (r0, 16, 25, .ref xg), (r0, 16, 27, .ref xp), (r0, 16, 41, .ref dd), (r0, 16, 42, .int dc), (r0, 16, 60, .ref co), (r0, 16, 61, .ref cs), (r0, 16, 46, .ref ol), (r0, 16, 47, .ref nw), (r0, 16, 71, .ref td)]) [0, 1, 2, 3, 4, 5, 6, 7, 8, 9, 10, 11, 12, 13, 14, 15, 16] rfl rfl (M1 := [(zm, 117, 3100, ca 1, ms), (xh, 118, 3100, ca 1, mh), (xn, 119, 3100, ca 1, mx), (xf, 120, 3100, ca 1, mf), (xt, 121, 3100, ca 1, mt), (xb, 122, 3100, ca 1, mb), (xe, 123, 3100, ca 1, me), (xi, 124, 3100, ca 3, mi), (xg, 125, 3100, ca 1, mn), (xp, 127, 3300, ca 1, fu), (cs, 207, 2, ca 1, fs)]) [0, 1, 2, 3, 4, 5, 6, 7, 8, 9, 10] rfl rfl (I1 := [(jFrd, jRD dC dI ca G0 none rt_2), (jFs, jDY dC dI ca G0 none sn), (jF9, jVl dC dI G0 9 ck), ([(201, 0)], jQc dC dI (ca 4) dd 3 fd), ([(208, 0)], jQc dC dI (ca 4) co 2 fo)]) [0, 1, 2, 3, 4] rfl rfl).more hb_225)
    clear hh_20 ht_22 hvm_22 hz_22 hk_22 hS_22 hb_221 hb_222 hb_223 hb_224 hb_225
    refine lv_iconst (v := 0) hx hb dX14_close_39 (by decide) ?_
    refine lv_istore_n (lv' := [(3, .int 0), (2, .ref ret_11), (0, .ref r0), (1, .int a1)]) hx hb dX14_close_40 rfl hl (by decide) rfl (fun ls hl => ?_)
    have L41 : ∀ (N : Nat) (v3_24 : Int32) (fo_24 : Nat → Option Nat) (H_24 : Heap) (locs_24 : List Loc), jSt (dC, dI) B base G0 G0 EX14_closeR s.heap 0 0 [(r0, 16, 17, .ref zm), (r0, 16, 18, .ref xh), (r0, 16, 19, .ref xn), (r0, 16, 20, .ref xf), (r0, 16, 21, .ref xt), (r0, 16, 22, .ref xb), (r0, 16, 23, .ref xe), (r0, 16, 24, .ref xi), (r0, 16, 25, .ref xg), (r0, 16, 27, .ref xp), (r0, 16, 41, .ref dd), (r0, 16, 42, .int dc), (r0, 16, 60, .ref co), (r0, 16, 61, .ref cs), (r0, 16, 46, .ref ol), (r0, 16, 47, .ref nw), (r0, 16, 71, .ref td)] [(zm, 117, 3100, ca 1, ms), (xh, 118, 3100, ca 1, mh), (xn, 119, 3100, ca 1, mx), (xf, 120, 3100, ca 1, mf), (xt, 121, 3100, ca 1, mt), (xb, 122, 3100, ca 1, mb), (xe, 123, 3100, ca 1, me), (xi, 124, 3100, ca 3, mi), (xg, 125, 3100, ca 1, mn), (xp, 127, 3300, ca 1, fu), (cs, 207, 2, ca 1, fs)] [(jFs, jDY dC dI ca G0 none sn), (jF9, jVl dC dI G0 9 ck), ([(201, 0)], jQc dC dI (ca 4) dd 3 fd), ([(208, 0)], jQc dC dI (ca 4) co 2 fo_24), (jFrd, jRD dC dI ca G0 none rt_2)] H_24 locs_24 → (0 ≤ v3_24.toInt ∧ v3_24.toInt ≤ 2 ∧ jPu sn ck fd fo_24 fs dc.toInt ol nw td ∧ jNo fo_24 ret_11 v3_24.toInt) → (2 - v3_24.toInt : Int) < N → ∀ ls : Array Slot, lv_has ls 5 [(0, .ref r0), (1, .int a1), (2, .ref ret_11), (3, .int v3_24)] → W p l e R s m ([.ref r0, .int a1] : List Value).toArray below meth c H_24 locs_24 0 0 Q (F0 m 41 ls []) := by
      intro N
      induction N with
      | zero => intro v3_24 fo_24 H_24 locs_24 hh_24  hi_24 hm; exact absurd hm (by omega)
      | succ N L41 =>
        intro v3_24 fo_24 H_24 locs_24 hh_24  hi_24 hm_24 ls hl
        obtain ⟨hi_24_0, hi_24_1, hi_24_2, hi_24_3⟩ := hi_24
        refine lv_iload_n hx hb dX14_close_41 rfl (lv_at hl 3 rfl) ?_
        refine lv_iconst (v := 2) hx hb dX14_close_42 (by decide) ?_
        refine lv_icmp_ge (tgt := 69) hx hb dX14_close_43 (by decide) (fun c_25 => ?_) (fun c_25 => ?_)
        · skip
          have c_25' : v3_24.toInt ≥ 2 := jb_ge (rfl) ((by decide)) c_25
          refine lv_iconst (v := 0) hx hb dX14_close_69 (by decide) ?_
          refine lv_istore_n (lv' := [(3, .int 0), (0, .ref r0), (1, .int a1), (2, .ref ret_11)]) hx hb dX14_close_70 rfl hl (by decide) rfl (fun ls hl => ?_)
          have L71 : ∀ (N : Nat) (v3_26 : Int32) (H_26 : Heap) (locs_26 : List Loc), jSt (dC, dI) B base G0 G0 EX14_closeR s.heap 0 0 [(r0, 16, 17, .ref zm), (r0, 16, 18, .ref xh), (r0, 16, 19, .ref xn), (r0, 16, 20, .ref xf), (r0, 16, 21, .ref xt), (r0, 16, 22, .ref xb), (r0, 16, 23, .ref xe), (r0, 16, 24, .ref xi), (r0, 16, 25, .ref xg), (r0, 16, 27, .ref xp), (r0, 16, 41, .ref dd), (r0, 16, 42, .int dc), (r0, 16, 60, .ref co), (r0, 16, 61, .ref cs), (r0, 16, 46, .ref ol), (r0, 16, 47, .ref nw), (r0, 16, 71, .ref td)] [(zm, 117, 3100, ca 1, ms), (xh, 118, 3100, ca 1, mh), (xn, 119, 3100, ca 1, mx), (xf, 120, 3100, ca 1, mf), (xt, 121, 3100, ca 1, mt), (xb, 122, 3100, ca 1, mb), (xe, 123, 3100, ca 1, me), (xi, 124, 3100, ca 3, mi), (xg, 125, 3100, ca 1, mn), (xp, 127, 3300, ca 1, fu), (cs, 207, 2, ca 1, fs)] [(jFs, jDY dC dI ca G0 none sn), (jF9, jVl dC dI G0 9 ck), ([(201, 0)], jQc dC dI (ca 4) dd 3 fd), ([(208, 0)], jQc dC dI (ca 4) co 2 fo_24), (jFrd, jRD dC dI ca G0 none rt_2)] H_26 locs_26 → (0 ≤ v3_26.toInt ∧ v3_26.toInt ≤ d0) → (d0 - v3_26.toInt : Int) < N → ∀ ls : Array Slot, lv_has ls 5 [(0, .ref r0), (1, .int a1), (2, .ref ret_11), (3, .int v3_26)] → W p l e R s m ([.ref r0, .int a1] : List Value).toArray below meth c H_26 locs_26 0 0 Q (F0 m 71 ls []) := by
            intro N
            induction N with
            | zero => intro v3_26 H_26 locs_26 hh_26  hi_26 hm; exact absurd hm (by omega)
            | succ N L71 =>
              intro v3_26 H_26 locs_26 hh_26  hi_26 hm_26 ls hl
              obtain ⟨hi_26_0, hi_26_1⟩ := hi_26
              refine lv_aload_n hx hb dX14_close_71 rfl (lv_at hl 0 rfl) ?_
              refine j7_read hx hb hown hK (C := RX14) (T := TX14) (N := 74) rfl hly_16_41 hlk_74 (hh_26.at 10 rfl) dX14_close_72 ?_
              refine lv_iload_n hx hb dX14_close_75 rfl (lv_at hl 3 rfl) ?_
              refine j7_qaldI hx hb hK2 hh_26 hB201 0 rfl (by decide) hg_dd (x := v3_26.toInt) (rfl) (by omega) (hh_26.iv 2 rfl) dX14_close_76 (fun o_27 ho_27 heo_27 => ?_)
              obtain ⟨el_28, rfl, hg_el_28⟩ := ho_27
              simp only [va_rf]
              refine lv_aload_n hx hb dX14_close_77 rfl (lv_at hl 2 rfl) ?_
              refine lv_acmp_eq (rx := (some el_28)) (ry := (some ret_11)) (tgt := 87) hx hb dX14_close_78 (by decide) (fun c_29 => ?_) (fun c_29 => ?_)
              · skip
                refine lv_iload_n hx hb dX14_close_87 rfl (lv_at hl 3 rfl) ?_
                refine lv_istore (lv' := [(4, .int v3_26), (0, .ref r0), (1, .int a1), (2, .ref ret_11), (3, .int v3_26)]) hx hb dX14_close_88 hl (by decide) rfl (fun ls hl => ?_)
                have L90 : ∀ (N : Nat) (v4_30 : Int32) (fd_30 : Nat → Option Nat) (H_30 : Heap) (locs_30 : List Loc), jSt (dC, dI) B base G0 G0 EX14_closeR s.heap 0 0 [(r0, 16, 17, .ref zm), (r0, 16, 18, .ref xh), (r0, 16, 19, .ref xn), (r0, 16, 20, .ref xf), (r0, 16, 21, .ref xt), (r0, 16, 22, .ref xb), (r0, 16, 23, .ref xe), (r0, 16, 24, .ref xi), (r0, 16, 25, .ref xg), (r0, 16, 27, .ref xp), (r0, 16, 41, .ref dd), (r0, 16, 42, .int dc), (r0, 16, 60, .ref co), (r0, 16, 61, .ref cs), (r0, 16, 46, .ref ol), (r0, 16, 47, .ref nw), (r0, 16, 71, .ref td)] [(zm, 117, 3100, ca 1, ms), (xh, 118, 3100, ca 1, mh), (xn, 119, 3100, ca 1, mx), (xf, 120, 3100, ca 1, mf), (xt, 121, 3100, ca 1, mt), (xb, 122, 3100, ca 1, mb), (xe, 123, 3100, ca 1, me), (xi, 124, 3100, ca 3, mi), (xg, 125, 3100, ca 1, mn), (xp, 127, 3300, ca 1, fu), (cs, 207, 2, ca 1, fs)] [(jFs, jDY dC dI ca G0 none sn), (jF9, jVl dC dI G0 9 ck), ([(201, 0)], jQc dC dI (ca 4) dd 3 fd_30), ([(208, 0)], jQc dC dI (ca 4) co 2 fo_24), (jFrd, jRD dC dI ca G0 none rt_2)] H_30 locs_30 → (v3_26.toInt ≤ v4_30.toInt ∧ v4_30.toInt < dc.toInt ∧ jSh fdz fd_30 v3_26.toInt v4_30.toInt) → (dc.toInt - v4_30.toInt : Int) < N → ∀ ls : Array Slot, lv_has ls 5 [(0, .ref r0), (1, .int a1), (2, .ref ret_11), (3, .int v3_26), (4, .int v4_30)] → W p l e R s m ([.ref r0, .int a1] : List Value).toArray below meth c H_30 locs_30 0 0 Q (F0 m 90 ls []) := by
                  intro N
                  induction N with
                  | zero => intro v4_30 fd_30 H_30 locs_30 hh_30  hi_30 hm; exact absurd hm (by omega)
                  | succ N L90 =>
                    intro v4_30 fd_30 H_30 locs_30 hh_30  hi_30 hm_30 ls hl
                    obtain ⟨hi_30_0, hi_30_1, hi_30_2⟩ := hi_30
                    refine lv_iload hx hb dX14_close_90 (lv_at hl 4 rfl) ?_
                    refine lv_iconst (v := 1) hx hb dX14_close_92 (by decide) ?_
                    refine lv_iadd hx hb dX14_close_93 ?_
                    refine lv_topi (fun z_31 ez_31 => ?_)
                    have hz_31 : z_31.toInt = v4_30.toInt + 1 := by rw [ez_31]; exact jb_iadd2 (rfl) ((by decide)) (by omega)
                    refine lv_aload_n hx hb dX14_close_94 rfl (lv_at hl 0 rfl) ?_
                    refine j7_read hx hb hown hK (C := RX14) (T := TX14) (N := 74) rfl hly_16_42 hlk_505 (hh_30.at 11 rfl) dX14_close_95 ?_
                    refine lv_icmp_ge (tgt := 123) hx hb dX14_close_98 (by decide) (fun c_32 => ?_) (fun c_32 => ?_)
                    · skip
                      have c_32' : z_31.toInt ≥ dc.toInt := jb_ge (rfl) (rfl) c_32
                      refine lv_aload_n hx hb dX14_close_123 rfl (lv_at hl 0 rfl) ?_
                      refine j7_read hx hb hown hK (C := RX14) (T := TX14) (N := 74) rfl hly_16_41 hlk_74 (hh_30.at 10 rfl) dX14_close_124 ?_
                      refine lv_aload_n hx hb dX14_close_127 rfl (lv_at hl 0 rfl) ?_
                      refine j7_read hx hb hown hK (C := RX14) (T := TX14) (N := 74) rfl hly_16_42 hlk_505 (hh_30.at 11 rfl) dX14_close_128 ?_
                      refine lv_iconst (v := 1) hx hb dX14_close_131 (by decide) ?_
                      refine lv_isub hx hb dX14_close_132 ?_
                      refine lv_topi (fun z_33 ez_33 => ?_)
                      have hz_33 : z_33.toInt = dc.toInt - 1 := by rw [ez_33]; exact jb_isub2 (rfl) ((by decide)) (by omega)
                      refine lv_aload_n hx hb dX14_close_133 rfl (lv_at hl 2 rfl) ?_
                      have hd_35 := hh_30.iv 2 rfl
                      have hh_37 := hh_30.sub (L1 := [(r0, 16, 17, .ref zm), (r0, 16, 18, .ref xh), (r0, 16, 19, .ref xn), (r0, 16, 20, .ref xf), (r0, 16, 21, .ref xt), (r0, 16, 22, .ref xb), (r0, 16, 23, .ref xe), (r0, 16, 24, .ref xi), (r0, 16, 25, .ref xg), (r0, 16, 27, .ref xp), (r0, 16, 41, .ref dd), (r0, 16, 42, .int dc), (r0, 16, 60, .ref co), (r0, 16, 61, .ref cs), (r0, 16, 46, .ref ol), (r0, 16, 47, .ref nw), (r0, 16, 71, .ref td)]) [0, 1, 2, 3, 4, 5, 6, 7, 8, 9, 10, 11, 12, 13, 14, 15, 16] rfl (M1 := [(zm, 117, 3100, ca 1, ms), (xh, 118, 3100, ca 1, mh), (xn, 119, 3100, ca 1, mx), (xf, 120, 3100, ca 1, mf), (xt, 121, 3100, ca 1, mt), (xb, 122, 3100, ca 1, mb), (xe, 123, 3100, ca 1, me), (xi, 124, 3100, ca 3, mi), (xg, 125, 3100, ca 1, mn), (xp, 127, 3300, ca 1, fu), (cs, 207, 2, ca 1, fs)]) [0, 1, 2, 3, 4, 5, 6, 7, 8, 9, 10] rfl (I1 := [(jFs, jDY dC dI ca G0 none sn), (jF9, jVl dC dI G0 9 ck), ([(208, 0)], jQc dC dI (ca 4) co 2 fo_24), (jFrd, jRD dC dI ca G0 none rt_2)]) [0, 1, 3, 4] rfl
                      clear hh_30
                      refine j7_qastI hx hb hK2 hh_37 hB hB201 0 rfl (by decide) (by decide) rfl rfl rfl hg_dd (x := z_33.toInt) (rfl) (by omega) hB14 (T := TX12) (N := 11) rfl (by decide) hg_ret_11 (⟨_, rfl, hg_ret_11⟩) hd_35 dX14_close_134 (fun H_34 locs_34 fq_36 hv_34 ho_34 hq_34 hh_34 => ?_)
                      clear hh_37
                      have hh_38 := hh_34.addI (hq_34.ie hg_dd (by decide) (by decide))
                      clear hh_34
                      clear hd_35
                      refine lv_aload_n hx hb dX14_close_135 rfl (lv_at hl 0 rfl) ?_
                      refine lv_dup hx hb dX14_close_136 rfl ?_
                      refine j7_read hx hb hown hK (C := RX14) (T := TX14) (N := 74) rfl hly_16_42 hlk_505 (hh_38.at 11 rfl) dX14_close_137 ?_
                      refine lv_iconst (v := 1) hx hb dX14_close_140 (by decide) ?_
                      refine lv_isub hx hb dX14_close_141 ?_
                      refine lv_topi (fun z_39 ez_39 => ?_)
                      have hz_39 : z_39.toInt = dc.toInt - 1 := by rw [ez_39]; exact jb_isub2 (rfl) ((by decide)) (by omega)
                      refine j7_put hx hb hown hK hh_38 hB hAp hB16 (C := RX14) (T := TX14) (N := 74) rfl (by decide) hg_r0 (i := 42) (by decide) hly_16_42 rfl hlk_505 rfl (ty := .int) (v := .int z_39) (by decide +kernel) rfl rfl (⟨_, rfl, by omega, by omega⟩) rfl (L1 := [(r0, 16, 17, .ref zm), (r0, 16, 18, .ref xh), (r0, 16, 19, .ref xn), (r0, 16, 20, .ref xf), (r0, 16, 21, .ref xt), (r0, 16, 22, .ref xb), (r0, 16, 23, .ref xe), (r0, 16, 24, .ref xi), (r0, 16, 25, .ref xg), (r0, 16, 27, .ref xp), (r0, 16, 41, .ref dd), (r0, 16, 60, .ref co), (r0, 16, 61, .ref cs), (r0, 16, 46, .ref ol), (r0, 16, 47, .ref nw), (r0, 16, 71, .ref td)]) [0, 1, 2, 3, 4, 5, 6, 7, 8, 9, 10, 12, 13, 14, 15, 16] rfl rfl rfl dX14_close_142 (fun H_40 locs_40 hh_40 => ?_)
                      clear hh_38
                      have hI_41 : jdIr rt_2 fq_36 (z_39).toInt := by exact hIr9.cls (by rw [← hfdz]; exact hi_30_2) (by omega) (by omega) (by omega) (by omega) hv_34 ho_34 (by omega)
                      have hAf_41 := jRS.mk hg_r0 (hh_40.at 11 rfl) hg_dd (hh_40.iv 0 rfl) (hh_40.at 0 rfl) (hh_40.iv 4 rfl) hI_41
                      have hh_42 := hh_40.sub (L1 := [(r0, 16, 42, .int z_39), (r0, 16, 17, .ref zm), (r0, 16, 18, .ref xh), (r0, 16, 19, .ref xn), (r0, 16, 20, .ref xf), (r0, 16, 21, .ref xt), (r0, 16, 22, .ref xb), (r0, 16, 23, .ref xe), (r0, 16, 24, .ref xi), (r0, 16, 25, .ref xg), (r0, 16, 27, .ref xp), (r0, 16, 41, .ref dd), (r0, 16, 60, .ref co), (r0, 16, 61, .ref cs), (r0, 16, 46, .ref ol), (r0, 16, 47, .ref nw), (r0, 16, 71, .ref td)]) [0, 1, 2, 3, 4, 5, 6, 7, 8, 9, 10, 11, 12, 13, 14, 15, 16] rfl (M1 := [(zm, 117, 3100, ca 1, ms), (xh, 118, 3100, ca 1, mh), (xn, 119, 3100, ca 1, mx), (xf, 120, 3100, ca 1, mf), (xt, 121, 3100, ca 1, mt), (xb, 122, 3100, ca 1, mb), (xe, 123, 3100, ca 1, me), (xi, 124, 3100, ca 3, mi), (xg, 125, 3100, ca 1, mn), (xp, 127, 3300, ca 1, fu), (cs, 207, 2, ca 1, fs)]) [0, 1, 2, 3, 4, 5, 6, 7, 8, 9, 10] rfl (I1 := [([(201, 0)], jQc dC dI (ca 4) dd 3 fq_36), (jFs, jDY dC dI ca G0 none sn), (jF9, jVl dC dI G0 9 ck), ([(208, 0)], jQc dC dI (ca 4) co 2 fo_24)]) [0, 1, 2, 3] rfl
                      clear hh_40
                      have hh_43 := hh_42.addI (jRS.ie hAf_41)
                      clear hh_42
                      have hA_44 : (jdRs rt_2 fq_36 (z_39).toInt) = S8 := by rw [hp7, ← hRs9]; exact jdClose.r hIr9 hp0.2.1 hry9 (by rw [← hfdz]; exact hi_30_2) (by omega) (by omega) (heo_27.symm.trans (by assumption)) (by omega) (by omega) ho_34 (by omega)
                      have hAe_44 := hh_43.iv 0 rfl
                      rw [hA_44] at hAe_44
                      have hh_45 := hh_43.sub (L1 := [(r0, 16, 42, .int z_39), (r0, 16, 17, .ref zm), (r0, 16, 18, .ref xh), (r0, 16, 19, .ref xn), (r0, 16, 20, .ref xf), (r0, 16, 21, .ref xt), (r0, 16, 22, .ref xb), (r0, 16, 23, .ref xe), (r0, 16, 24, .ref xi), (r0, 16, 25, .ref xg), (r0, 16, 27, .ref xp), (r0, 16, 41, .ref dd), (r0, 16, 60, .ref co), (r0, 16, 61, .ref cs), (r0, 16, 46, .ref ol), (r0, 16, 47, .ref nw), (r0, 16, 71, .ref td)]) [0, 1, 2, 3, 4, 5, 6, 7, 8, 9, 10, 11, 12, 13, 14, 15, 16] rfl (M1 := [(zm, 117, 3100, ca 1, ms), (xh, 118, 3100, ca 1, mh), (xn, 119, 3100, ca 1, mx), (xf, 120, 3100, ca 1, mf), (xt, 121, 3100, ca 1, mt), (xb, 122, 3100, ca 1, mb), (xe, 123, 3100, ca 1, me), (xi, 124, 3100, ca 3, mi), (xg, 125, 3100, ca 1, mn), (xp, 127, 3300, ca 1, fu), (cs, 207, 2, ca 1, fs)]) [0, 1, 2, 3, 4, 5, 6, 7, 8, 9, 10] rfl (I1 := [([(201, 0)], jQc dC dI (ca 4) dd 3 fq_36), (jFs, jDY dC dI ca G0 none sn), (jF9, jVl dC dI G0 9 ck), ([(208, 0)], jQc dC dI (ca 4) co 2 fo_24)]) [1, 2, 3, 4] rfl
                      clear hh_43
                      have hh_46 := hh_45.addI (jRS.ie hAe_44)
                      clear hh_45
                      rw [hQ]
                      exact W.vret hx hb hr (fun t ht hW => ⟨⟨(), rfl, trivial, ⟨⟨hh_46.rt (M1 := []) [] rfl ht, by rw [ht]; exact ⟨sn, ck, fs, fq_36, fo_24, z_39, hh_46.2.2.1.sub (L1 := [(r0, 16, 41, .ref dd), (r0, 16, 42, .int z_39), (r0, 16, 60, .ref co), (r0, 16, 61, .ref cs), (r0, 16, 46, .ref ol), (r0, 16, 47, .ref nw), (r0, 16, 71, .ref td)]) [11, 0, 12, 13, 14, 15, 16] rfl, hh_46.2.2.2.2.2.2.2.1.sub (L1 := [(cs, 207, 2, ca 1, fs)]) [10] rfl, hh_46.2.2.2.2.2.2.2.2.sub (L1 := [(jFs, jDY dC dI ca G0 none sn), (jF9, jVl dC dI G0 9 ck), ([(201, 0)], jQc dC dI (ca 4) dd 3 fq_36), ([(208, 0)], jQc dC dI (ca 4) co 2 fo_24)]) [2, 3, 1, 4] rfl, (jPu.cls (by rw [hfdz]; exact hi_24_2) (by rw [show (2 : Int) = v3_24.toInt by omega]; exact hi_24_3) hi_30_2 (by omega) (by omega) (by omega) (by rw [hfdz]; exact heo_27.symm.trans (by assumption)) (by omega) (by omega) hv_34 ho_34 (by omega))⟩⟩, by rw [ht]; exact hh_46.2.2.2.2.2.2.2.2.sub (L1 := [(jFra, jRS dC dI ca G0 r0 S8)]) [0] rfl⟩⟩, by rw [ht]; try exact hh_46.1.1, fun q h9 hq => by rw [ht]; try exact hh_46.1.2.1 q h9 hq⟩) hh_46.1.2.2 dX14_close_145
                    · skip
                      have c_32' : z_31.toInt < dc.toInt := jb_ge_n (rfl) (rfl) c_32
                      refine lv_aload_n hx hb dX14_close_101 rfl (lv_at hl 0 rfl) ?_
                      refine j7_read hx hb hown hK (C := RX14) (T := TX14) (N := 74) rfl hly_16_41 hlk_74 (hh_30.at 10 rfl) dX14_close_102 ?_
                      refine lv_iload hx hb dX14_close_105 (lv_at hl 4 rfl) ?_
                      refine lv_aload_n hx hb dX14_close_107 rfl (lv_at hl 0 rfl) ?_
                      refine j7_read hx hb hown hK (C := RX14) (T := TX14) (N := 74) rfl hly_16_41 hlk_74 (hh_30.at 10 rfl) dX14_close_108 ?_
                      refine lv_iload hx hb dX14_close_111 (lv_at hl 4 rfl) ?_
                      refine lv_iconst (v := 1) hx hb dX14_close_113 (by decide) ?_
                      refine lv_iadd hx hb dX14_close_114 ?_
                      refine lv_topi (fun z_47 ez_47 => ?_)
                      have hz_47 : z_47.toInt = v4_30.toInt + 1 := by rw [ez_47]; exact jb_iadd2 (rfl) ((by decide)) (by omega)
                      refine j7_qaldI hx hb hK2 hh_30 hB201 0 rfl (by decide) hg_dd (x := z_47.toInt) (rfl) (by omega) (hh_30.iv 2 rfl) dX14_close_115 (fun o_48 ho_48 heo_48 => ?_)
                      rw [show z_47.toInt = (v4_30.toInt + 1) by omega] at heo_48
                      obtain ⟨el_49, rfl, hg_el_49⟩ := ho_48
                      simp only [va_rf]
                      have hd_51 := hh_30.iv 2 rfl
                      have hh_53 := hh_30.sub (L1 := [(r0, 16, 17, .ref zm), (r0, 16, 18, .ref xh), (r0, 16, 19, .ref xn), (r0, 16, 20, .ref xf), (r0, 16, 21, .ref xt), (r0, 16, 22, .ref xb), (r0, 16, 23, .ref xe), (r0, 16, 24, .ref xi), (r0, 16, 25, .ref xg), (r0, 16, 27, .ref xp), (r0, 16, 41, .ref dd), (r0, 16, 42, .int dc), (r0, 16, 60, .ref co), (r0, 16, 61, .ref cs), (r0, 16, 46, .ref ol), (r0, 16, 47, .ref nw), (r0, 16, 71, .ref td)]) [0, 1, 2, 3, 4, 5, 6, 7, 8, 9, 10, 11, 12, 13, 14, 15, 16] rfl (M1 := [(zm, 117, 3100, ca 1, ms), (xh, 118, 3100, ca 1, mh), (xn, 119, 3100, ca 1, mx), (xf, 120, 3100, ca 1, mf), (xt, 121, 3100, ca 1, mt), (xb, 122, 3100, ca 1, mb), (xe, 123, 3100, ca 1, me), (xi, 124, 3100, ca 3, mi), (xg, 125, 3100, ca 1, mn), (xp, 127, 3300, ca 1, fu), (cs, 207, 2, ca 1, fs)]) [0, 1, 2, 3, 4, 5, 6, 7, 8, 9, 10] rfl (I1 := [(jFs, jDY dC dI ca G0 none sn), (jF9, jVl dC dI G0 9 ck), ([(208, 0)], jQc dC dI (ca 4) co 2 fo_24), (jFrd, jRD dC dI ca G0 none rt_2)]) [0, 1, 3, 4] rfl
                      clear hh_30
                      refine j7_qastI hx hb hK2 hh_53 hB hB201 0 rfl (by decide) (by decide) rfl rfl rfl hg_dd (x := v4_30.toInt) (rfl) (by omega) hB14 (T := TX12) (N := 11) rfl (by decide) hg_el_49 (⟨_, rfl, hg_el_49⟩) hd_51 dX14_close_116 (fun H_50 locs_50 fq_52 hv_50 ho_50 hq_50 hh_50 => ?_)
                      clear hh_53
                      have hh_54 := hh_50.addI (hq_50.ie hg_dd (by decide) (by decide))
                      clear hh_50
                      clear hd_51
                      obtain ⟨z_55, ez_55⟩ : ∃ y : Int32, y = v4_30 + 1 := ⟨_, rfl⟩
                      refine lv_iinc (v := z_55) (lv' := [(4, .int z_55), (0, .ref r0), (1, .int a1), (2, .ref ret_11), (3, .int v3_26)]) hx hb dX14_close_117 hl (k := 4) rfl (by rw [ez_55]; rfl) (by decide) rfl (fun ls hl => ?_)
                      have hz_55 : z_55.toInt = v4_30.toInt + 1 := by rw [ez_55]; exact jb_iadd2 (rfl) (by decide) (by omega)
                      refine lv_goto (tgt := 90) hx hb dX14_close_120 (by decide) ?_
                      exact L90 z_55 fq_52 _ _ (hh_54.sub (L1 := [(r0, 16, 17, .ref zm), (r0, 16, 18, .ref xh), (r0, 16, 19, .ref xn), (r0, 16, 20, .ref xf), (r0, 16, 21, .ref xt), (r0, 16, 22, .ref xb), (r0, 16, 23, .ref xe), (r0, 16, 24, .ref xi), (r0, 16, 25, .ref xg), (r0, 16, 27, .ref xp), (r0, 16, 41, .ref dd), (r0, 16, 42, .int dc), (r0, 16, 60, .ref co), (r0, 16, 61, .ref cs), (r0, 16, 46, .ref ol), (r0, 16, 47, .ref nw), (r0, 16, 71, .ref td)]) [0, 1, 2, 3, 4, 5, 6, 7, 8, 9, 10, 11, 12, 13, 14, 15, 16] rfl (M1 := [(zm, 117, 3100, ca 1, ms), (xh, 118, 3100, ca 1, mh), (xn, 119, 3100, ca 1, mx), (xf, 120, 3100, ca 1, mf), (xt, 121, 3100, ca 1, mt), (xb, 122, 3100, ca 1, mb), (xe, 123, 3100, ca 1, me), (xi, 124, 3100, ca 3, mi), (xg, 125, 3100, ca 1, mn), (xp, 127, 3300, ca 1, fu), (cs, 207, 2, ca 1, fs)]) [0, 1, 2, 3, 4, 5, 6, 7, 8, 9, 10] rfl (I1 := [(jFs, jDY dC dI ca G0 none sn), (jF9, jVl dC dI G0 9 ck), ([(201, 0)], jQc dC dI (ca 4) dd 3 fq_52), ([(208, 0)], jQc dC dI (ca 4) co 2 fo_24), (jFrd, jRD dC dI ca G0 none rt_2)]) [1, 2, 0, 3, 4] rfl) (by refine ⟨by omega, by omega, ?_⟩; exact hi_30_2.step (by omega) (by omega) (by omega) heo_48 hv_50 ho_50 (by omega)) (by omega) _ (lv_sub hl [1, 2, 3, 4, 0] rfl)
                exact L90 (dc.toInt - (v3_26 : Int32).toInt : Int).toNat.succ v3_26 fd _ _ hh_26 (by refine ⟨by omega, by omega, ?_⟩; rw [hfdz]; exact jSh.nil _ _) (by omega) _ (lv_sub hl [1, 2, 3, 4, 0] rfl)
              · skip
                have hne : v3_26.toInt ≠ (d0 : Int) := by intro q; have h9 := heo_27; rw [show (v3_26.toInt).toNat = d0 by omega, hd2] at h9; contradiction
                obtain ⟨z_56, ez_56⟩ : ∃ y : Int32, y = v3_26 + 1 := ⟨_, rfl⟩
                refine lv_iinc (v := z_56) (lv' := [(3, .int z_56), (0, .ref r0), (1, .int a1), (2, .ref ret_11)]) hx hb dX14_close_81 hl (k := 3) rfl (by rw [ez_56]; rfl) (by decide) rfl (fun ls hl => ?_)
                have hz_56 : z_56.toInt = v3_26.toInt + 1 := by rw [ez_56]; exact jb_iadd2 (rfl) (by decide) (by omega)
                refine lv_goto (tgt := 71) hx hb dX14_close_84 (by decide) ?_
                exact L71 z_56 _ _ hh_26 (by first | omega | (refine ⟨?_, ?_⟩ <;> (first | omega | rfl | assumption | decide | exact Or.inl rfl | exact Or.inr rfl | (simp only; omega)))) (by omega) _ (lv_sub hl [1, 2, 3, 0] rfl)
          exact L71 (d0 - (0 : Int32).toInt : Int).toNat.succ 0 _ _ hh_24 (by first | omega | (refine ⟨?_, ?_⟩ <;> (first | omega | rfl | assumption | decide | exact Or.inl rfl | exact Or.inr rfl | (simp only; omega)))) (by omega) _ (lv_sub hl [1, 2, 3, 0] rfl)
        · skip
          have c_25' : v3_24.toInt < 2 := jb_ge_n (rfl) ((by decide)) c_25
          refine lv_aload_n hx hb dX14_close_46 rfl (lv_at hl 0 rfl) ?_
          refine j7_read hx hb hown hK (C := RX14) (T := TX14) (N := 74) rfl hly_16_60 hlk_129 (hh_24.at 12 rfl) dX14_close_47 ?_
          refine lv_iload_n hx hb dX14_close_50 rfl (lv_at hl 3 rfl) ?_
          refine j7_qaldI hx hb hK2 hh_24 hB208 0 rfl (by decide) hg_co (x := v3_24.toInt) (rfl) (by omega) (hh_24.iv 3 rfl) dX14_close_51 (fun o_57 ho_57 heo_57 => ?_)
          rcases ho_57 with rfl | ⟨el_58, rfl, hg_el_58⟩
          · simp only [va_rf]
            refine lv_aload_n hx hb dX14_close_52 rfl (lv_at hl 2 rfl) ?_
            refine lv_acmp_ne (rx := none) (ry := (some ret_11)) (tgt := 63) hx hb dX14_close_53 (by decide) (fun c_59 => ?_) (fun c_59 => ?_)
            · skip
              obtain ⟨z_60, ez_60⟩ : ∃ y : Int32, y = v3_24 + 1 := ⟨_, rfl⟩
              refine lv_iinc (v := z_60) (lv' := [(3, .int z_60), (0, .ref r0), (1, .int a1), (2, .ref ret_11)]) hx hb dX14_close_63 hl (k := 3) rfl (by rw [ez_60]; rfl) (by decide) rfl (fun ls hl => ?_)
              have hz_60 : z_60.toInt = v3_24.toInt + 1 := by rw [ez_60]; exact jb_iadd2 (rfl) (by decide) (by omega)
              refine lv_goto (tgt := 41) hx hb dX14_close_66 (by decide) ?_
              exact L41 z_60 fo_24 _ _ hh_24 (by refine ⟨by omega, by omega, ?_, ?_⟩; (first | assumption | exact hi_24_2.drop (zz_none) (zz_none)); (first | exact hi_24_3.null (w := v3_24.toInt.toNat) (zz_none) (zz_none) (by omega) (by omega) (by omega) | exact hi_24_3.keep (w := v3_24.toInt.toNat) (by rw [← heo_57]; first | assumption | exact (fun q => nomatch q)) (by omega) (by omega))) (by omega) _ (lv_sub hl [1, 2, 3, 0] rfl)
            · skip
              cases c_59
          · simp only [va_rf]
            refine lv_aload_n hx hb dX14_close_52 rfl (lv_at hl 2 rfl) ?_
            refine lv_acmp_ne (rx := (some el_58)) (ry := (some ret_11)) (tgt := 63) hx hb dX14_close_53 (by decide) (fun c_61 => ?_) (fun c_61 => ?_)
            · skip
              obtain ⟨z_62, ez_62⟩ : ∃ y : Int32, y = v3_24 + 1 := ⟨_, rfl⟩
              refine lv_iinc (v := z_62) (lv' := [(3, .int z_62), (0, .ref r0), (1, .int a1), (2, .ref ret_11)]) hx hb dX14_close_63 hl (k := 3) rfl (by rw [ez_62]; rfl) (by decide) rfl (fun ls hl => ?_)
              have hz_62 : z_62.toInt = v3_24.toInt + 1 := by rw [ez_62]; exact jb_iadd2 (rfl) (by decide) (by omega)
              refine lv_goto (tgt := 41) hx hb dX14_close_66 (by decide) ?_
              exact L41 z_62 fo_24 _ _ hh_24 (by refine ⟨by omega, by omega, ?_, ?_⟩; (first | assumption | exact hi_24_2.drop (zz_none) (zz_none)); (first | exact hi_24_3.null (w := v3_24.toInt.toNat) (zz_none) (zz_none) (by omega) (by omega) (by omega) | exact hi_24_3.keep (w := v3_24.toInt.toNat) (by rw [← heo_57]; first | assumption | exact (fun q => nomatch q)) (by omega) (by omega))) (by omega) _ (lv_sub hl [1, 2, 3, 0] rfl)
            · skip
              refine lv_aload_n hx hb dX14_close_56 rfl (lv_at hl 0 rfl) ?_
              refine j7_read hx hb hown hK (C := RX14) (T := TX14) (N := 74) rfl hly_16_60 hlk_129 (hh_24.at 12 rfl) dX14_close_57 ?_
              refine lv_iload_n hx hb dX14_close_60 rfl (lv_at hl 3 rfl) ?_
              refine lv_null hx hb dX14_close_61 ?_
              have hd_64 := hh_24.iv 3 rfl
              have hh_66 := hh_24.sub (L1 := [(r0, 16, 17, .ref zm), (r0, 16, 18, .ref xh), (r0, 16, 19, .ref xn), (r0, 16, 20, .ref xf), (r0, 16, 21, .ref xt), (r0, 16, 22, .ref xb), (r0, 16, 23, .ref xe), (r0, 16, 24, .ref xi), (r0, 16, 25, .ref xg), (r0, 16, 27, .ref xp), (r0, 16, 41, .ref dd), (r0, 16, 42, .int dc), (r0, 16, 60, .ref co), (r0, 16, 61, .ref cs), (r0, 16, 46, .ref ol), (r0, 16, 47, .ref nw), (r0, 16, 71, .ref td)]) [0, 1, 2, 3, 4, 5, 6, 7, 8, 9, 10, 11, 12, 13, 14, 15, 16] rfl (M1 := [(zm, 117, 3100, ca 1, ms), (xh, 118, 3100, ca 1, mh), (xn, 119, 3100, ca 1, mx), (xf, 120, 3100, ca 1, mf), (xt, 121, 3100, ca 1, mt), (xb, 122, 3100, ca 1, mb), (xe, 123, 3100, ca 1, me), (xi, 124, 3100, ca 3, mi), (xg, 125, 3100, ca 1, mn), (xp, 127, 3300, ca 1, fu), (cs, 207, 2, ca 1, fs)]) [0, 1, 2, 3, 4, 5, 6, 7, 8, 9, 10] rfl (I1 := [(jFs, jDY dC dI ca G0 none sn), (jF9, jVl dC dI G0 9 ck), ([(201, 0)], jQc dC dI (ca 4) dd 3 fd), (jFrd, jRD dC dI ca G0 none rt_2)]) [0, 1, 2, 4] rfl
              clear hh_24
              refine j7_qastNI hx hb hK2 hh_66 hB hB208 0 rfl (by decide) (by decide) rfl rfl rfl hg_co (x := v3_24.toInt) (rfl) (by omega) (Or.inl rfl) hd_64 dX14_close_62 (fun H_63 locs_63 fq_65 hv_63 ho_63 hq_63 hh_63 => ?_)
              clear hh_66
              have hh_67 := hh_63.addI (hq_63.ie hg_co (by decide) (by decide))
              clear hh_63
              clear hd_64
              obtain ⟨z_68, ez_68⟩ : ∃ y : Int32, y = v3_24 + 1 := ⟨_, rfl⟩
              refine lv_iinc (v := z_68) (lv' := [(3, .int z_68), (0, .ref r0), (1, .int a1), (2, .ref ret_11)]) hx hb dX14_close_63 hl (k := 3) rfl (by rw [ez_68]; rfl) (by decide) rfl (fun ls hl => ?_)
              have hz_68 : z_68.toInt = v3_24.toInt + 1 := by rw [ez_68]; exact jb_iadd2 (rfl) (by decide) (by omega)
              refine lv_goto (tgt := 41) hx hb dX14_close_66 (by decide) ?_
              exact L41 z_68 fq_65 _ _ (hh_67.sub (L1 := [(r0, 16, 17, .ref zm), (r0, 16, 18, .ref xh), (r0, 16, 19, .ref xn), (r0, 16, 20, .ref xf), (r0, 16, 21, .ref xt), (r0, 16, 22, .ref xb), (r0, 16, 23, .ref xe), (r0, 16, 24, .ref xi), (r0, 16, 25, .ref xg), (r0, 16, 27, .ref xp), (r0, 16, 41, .ref dd), (r0, 16, 42, .int dc), (r0, 16, 60, .ref co), (r0, 16, 61, .ref cs), (r0, 16, 46, .ref ol), (r0, 16, 47, .ref nw), (r0, 16, 71, .ref td)]) [0, 1, 2, 3, 4, 5, 6, 7, 8, 9, 10, 11, 12, 13, 14, 15, 16] rfl (M1 := [(zm, 117, 3100, ca 1, ms), (xh, 118, 3100, ca 1, mh), (xn, 119, 3100, ca 1, mx), (xf, 120, 3100, ca 1, mf), (xt, 121, 3100, ca 1, mt), (xb, 122, 3100, ca 1, mb), (xe, 123, 3100, ca 1, me), (xi, 124, 3100, ca 3, mi), (xg, 125, 3100, ca 1, mn), (xp, 127, 3300, ca 1, fu), (cs, 207, 2, ca 1, fs)]) [0, 1, 2, 3, 4, 5, 6, 7, 8, 9, 10] rfl (I1 := [(jFs, jDY dC dI ca G0 none sn), (jF9, jVl dC dI G0 9 ck), ([(201, 0)], jQc dC dI (ca 4) dd 3 fd), ([(208, 0)], jQc dC dI (ca 4) co 2 fq_65), (jFrd, jRD dC dI ca G0 none rt_2)]) [1, 2, 3, 0, 4] rfl) (by refine ⟨by omega, by omega, ?_, ?_⟩; (first | assumption | exact hi_24_2.drop hv_63 ho_63); (first | exact hi_24_3.null (w := v3_24.toInt.toNat) hv_63 ho_63 (by omega) (by omega) (by omega) | exact hi_24_3.keep (w := v3_24.toInt.toNat) (by rw [← heo_57]; first | assumption | exact (fun q => nomatch q)) (by omega) (by omega))) (by omega) _ (lv_sub hl [1, 2, 3, 0] rfl)
    exact L41 (2 - (0 : Int32).toInt : Int).toNat.succ 0 fo _ _ (hh_22.sub (L1 := [(r0, 16, 17, .ref zm), (r0, 16, 18, .ref xh), (r0, 16, 19, .ref xn), (r0, 16, 20, .ref xf), (r0, 16, 21, .ref xt), (r0, 16, 22, .ref xb), (r0, 16, 23, .ref xe), (r0, 16, 24, .ref xi), (r0, 16, 25, .ref xg), (r0, 16, 27, .ref xp), (r0, 16, 41, .ref dd), (r0, 16, 42, .int dc), (r0, 16, 60, .ref co), (r0, 16, 61, .ref cs), (r0, 16, 46, .ref ol), (r0, 16, 47, .ref nw), (r0, 16, 71, .ref td)]) [0, 1, 2, 3, 4, 5, 6, 7, 8, 9, 10, 11, 12, 13, 14, 15, 16] rfl (M1 := [(zm, 117, 3100, ca 1, ms), (xh, 118, 3100, ca 1, mh), (xn, 119, 3100, ca 1, mx), (xf, 120, 3100, ca 1, mf), (xt, 121, 3100, ca 1, mt), (xb, 122, 3100, ca 1, mb), (xe, 123, 3100, ca 1, me), (xi, 124, 3100, ca 3, mi), (xg, 125, 3100, ca 1, mn), (xp, 127, 3300, ca 1, fu), (cs, 207, 2, ca 1, fs)]) [0, 1, 2, 3, 4, 5, 6, 7, 8, 9, 10] rfl (I1 := [(jFs, jDY dC dI ca G0 none sn), (jF9, jVl dC dI G0 9 ck), ([(201, 0)], jQc dC dI (ca 4) dd 3 fd), ([(208, 0)], jQc dC dI (ca 4) co 2 fo), (jFrd, jRD dC dI ca G0 none rt_2)]) [1, 2, 3, 4, 0] rfl) (by refine ⟨by omega, by omega, by assumption, ?_⟩; rw [hk0]; exact fun w h => by omega) (by omega) _ (lv_sub hl [2, 3, 1, 0] rfl)
end
section
-- p9: what a read leaves is within bounds (strings and names among the units, sizes)
def jjBx (T : Nat → Int → Int) (e x u : Int) : Prop := (T 1 x = 3 → 0 ≤ T 2 x ∧ 0 ≤ T 3 x ∧ T 2 x + T 3 x ≤ u) ∧ (T 8 x = 1 → 0 ≤ T 5 x ∧ 0 ≤ T 6 x ∧ T 5 x + T 6 x ≤ u) ∧ 0 ≤ T 3 x ∧ T 3 x < e
def jjBn (T : Nat → Int → Int) (e lo v u : Int) : Prop := ∀ x : Int, lo ≤ x → x < v → jjBx T e x u
theorem jjBx.up {T : Nat → Int → Int} {e x u u1 : Int} (h : jjBx T e x u) (hu : u ≤ u1) : jjBx T e x u1 := by
  obtain ⟨a, b, c⟩ := h
  refine ⟨fun q => ?_, fun q => ?_, c⟩
  · have := a q; omega
  · have := b q; omega
theorem jjBx.cg {T T1 : Nat → Int → Int} {e x u : Int} (h : jjBx T e x u) (q : ∀ t : Nat, t ≠ 7 → T1 t x = T t x) : jjBx T1 e x u := by
  unfold jjBx at h ⊢
  rw [q 1 (by decide), q 2 (by decide), q 3 (by decide), q 5 (by decide), q 6 (by decide), q 8 (by decide)]
  exact h
theorem jjMk.bn {T : Nat → Int → Int} {v k f z e u : Int} (h3 : k = 3 → 0 ≤ f ∧ f + z ≤ u) (h0 : 0 ≤ z) (he : z < e) : jjBn (jjMk T v k f z) e v (v + 1) u := fun x h1 h2 => by
  have ex : x = v := by omega
  subst ex
  obtain ⟨a1, a2, a3, -, a5, a6, a8⟩ := jjMk.at (T := T) (v := x) (k := k) (f := f) (z := z)
  refine ⟨fun q => ?_, fun q => ?_, by rw [a3]; exact h0, by rw [a3]; exact he⟩
  · rw [a1] at q; rw [a2, a3]; exact ⟨(h3 q).1, h0, (h3 q).2⟩
  · rw [a8] at q; omega
theorem jjL.bn {b : Int → Int} {e a v u : Int} {T : Nat → Int → Int} (ha : 0 ≤ a) (hu : 0 ≤ u) : (jjL b e a v u T).1 < 0 ∨ jjBn (jjL b e a v u T).2.2.2.2 e v (jjL b e a v u T).2.2.1 (jjL b e a v u T).2.2.2.1 := by
  by_cases hn : (jjL b e a v u T).1 < 0
  · exact Or.inl hn
  · refine Or.inr ?_
    have hae : a < e := by
      rcases jjL.out b e a v u T with h | h
      · exact absurd h hn
      · omega
    obtain ⟨s1, -, s3⟩ := jjStr.fr b e a u v T
    revert hn
    unfold jjL
    split
    · split
      · rename_i w
        intro _
        rcases s3 with s3 | ⟨-, s4, s5⟩
        · omega
        · exact jjMk.bn (fun _ => ⟨hu, by show u + ((jjStr b e a u T).2.2.1 - u) ≤ (jjStr b e a u T).2.2.1; omega⟩) (by omega) (by omega)
      · intro hn; exact absurd (show (-1 : Int) < 0 by omega) hn
    · split
      · split
        · intro hn; exact absurd (show (-1 : Int) < 0 by omega) hn
        · split
          · intro _; exact jjMk.bn (fun q => absurd q (by decide)) (by omega) (by omega)
          · intro _; exact jjMk.bn (fun q => absurd q (by decide)) (by omega) (by omega)
      · split
        · intro _; exact jjMk.bn (fun q => absurd q (by decide)) (by omega) (by omega)
        · split
          · intro _; exact jjMk.bn (fun q => absurd q (by decide)) (by omega) (by omega)
          · split
            · intro _; exact jjMk.bn (fun q => absurd q (by decide)) (by omega) (by omega)
            · intro hn; exact absurd (show (-1 : Int) < 0 by omega) hn
/-- a link: only the child and its holder change -/
theorem jjLk.bn {T : Nat → Int → Int} {e h l c f z v u : Int} (hb : jjBn T e (h + 1) v u) (hc : h < c) (hcv : c < v) (hl : l < 0 ∨ h < l) (hf : 0 ≤ f) (hz : 0 ≤ z) (hfz : f + z ≤ u) : jjBn (jjLk T h l c f z) e (h + 1) v u := fun x h1 h2 => by
  obtain ⟨a, b, d⟩ := hb x h1 h2
  have e1 : jjLk T h l c f z 1 x = T 1 x := jjLk.e1
  have e2 : jjLk T h l c f z 2 x = T 2 x := jjLk.e2 (Or.inl (by omega))
  have e3 : jjLk T h l c f z 3 x = T 3 x := jjLk.e3 (by omega)
  refine ⟨fun q => ?_, fun q => ?_, by rw [e3]; exact d⟩
  · rw [e1] at q; rw [e2, e3]; exact a q
  · by_cases w : x = c
    · subst w; rw [jjLk.e5c, jjLk.e6c]; exact ⟨hf, hz, hfz⟩
    · rw [jjLk.e8 w] at q; rw [jjLk.e5 w, jjLk.e6 w]; exact b q
theorem jjM.bn {b : Int → Int} {e o h : Int} {V : Int → Int → Int → (Nat → Int → Int) → Int × Int × Int × Int × (Nat → Int → Int)} (hV : ∀ (a v u : Int) (T : Nat → Int → Int), 0 ≤ v → jjOut e a v u T (V a v u T)) (hB : ∀ (a v u : Int) (T : Nat → Int → Int), 0 ≤ a → 0 ≤ v → 0 ≤ u → (V a v u T).1 < 0 ∨ jjBn (V a v u T).2.2.2.2 e v (V a v u T).2.2.1 (V a v u T).2.2.2.1) : ∀ (k : Nat) (a v u l : Int) (T : Nat → Int → Int), jjIn T h l v → 0 ≤ a → 0 ≤ u → 0 ≤ T 3 h → T 3 h < a → T 1 h ≠ 3 → T 8 h ≠ 1 → jjBn T e (h + 1) v u →
    (jjM b e V o h k a v u T l).1 < 0 ∨ jjBn (jjM b e V o h k a v u T l).2.2.2.2 e h (jjM b e V o h k a v u T l).2.2.1 (jjM b e V o h k a v u T l).2.2.2.1
  | 0, a, v, u, l, T, _, _, _, _, _, _, _, _ => Or.inl (by show (-1 : Int) < 0; omega)
  | k + 1, a, v, u, l, T, hi, ha, hu, t0, t1, tk, t8, hb => by
    have hky := jjKy.fr b e o a u v T
    have h01 := hi.2.1
    have h02 := hi.1
    have h03 := hi.l
    rcases hky with hk0 | ⟨hk1, hk2, hk3, hk4, hk5⟩
    · exact Or.inl (by rw [jjM_0 hk0]; omega)
    · have hp : jjKy b e o a u T = (1, (jjKy b e o a u T).2.1, (jjKy b e o a u T).2.2.1, (jjKy b e o a u T).2.2.2) := by rw [← hk1]
      generalize (jjKy b e o a u T).2.1 = a1 at *
      generalize (jjKy b e o a u T).2.2.1 = u1 at *
      generalize (jjKy b e o a u T).2.2.2 = T1 at *
      have ho := hV a1 v u1 T1 (by omega)
      have hbb := hB a1 v u1 T1 (by omega) (by omega) (by omega)
      rcases ho with ho | ⟨o1, o2, o3, o4, o5, o6, o7, o8, o9⟩
      · exact Or.inl (by rw [jjM_1 hp ho]; omega)
      · have hb2 := hbb.resolve_left (by omega)
        have hc : V a1 v u1 T1 = (v, (V a1 v u1 T1).2.1, (V a1 v u1 T1).2.2.1, (V a1 v u1 T1).2.2.2.1, (V a1 v u1 T1).2.2.2.2) := Prod.ext o1 rfl
        clear hbb
        generalize (V a1 v u1 T1).2.1 = a2 at *
        generalize (V a1 v u1 T1).2.2.1 = v2 at *
        generalize (V a1 v u1 T1).2.2.2.1 = u2 at *
        generalize (V a1 v u1 T1).2.2.2.2 = T2 at *
        have hf : ∀ (t : Nat) (j : Int), t ≠ 7 → j < v → T2 t j = T t j := fun t j w0 w1 => (o7 t j (fun _ => w1) (fun w => absurd w w0)).trans (hk5 t j (fun _ => w1) (fun w => absurd w w0))
        have hi2 := hi.step (f := u) (z := u1 - u) hf o4 o8 o9
        have hb3 : jjBn T2 e (h + 1) v2 u2 := fun x q0 q1 => by
          by_cases w : x < v
          · exact ((hb x q0 w).cg (fun t ht => hf t x ht w)).up (by omega)
          · exact hb2 x (by omega) q1
        have hb4 := jjLk.bn (l := l) (f := u) (z := u1 - u) hb3 h02 o4 h03 hu (by omega) (by omega)
        have e3 : jjLk T2 h l v u (u1 - u) 3 h = T 3 h + 1 := by rw [jjLk.e3h, hf 3 h (by decide) h02]
        have e1 : jjLk T2 h l v u (u1 - u) 1 h = T 1 h := by rw [jjLk.e1, hf 1 h (by decide) h02]
        have e8 : jjLk T2 h l v u (u1 - u) 8 h = T 8 h := by rw [jjLk.e8 (by omega), hf 8 h (by decide) h02]
        have hq := jjSk.ge b e a2
        by_cases w : jjK b e (jjSk b e a2) = 44
        · have hw := jjSk.ge b e (jjSk b e a2 + 1)
          rw [← jjM_more (h := h) (l := l) (k := k + 1) hp hc (by omega) rfl w rfl (by omega)]
          exact jjM.bn (b := b) (o := o) hV hB k (jjSk b e (jjSk b e a2 + 1)) v2 u2 v (jjLk T2 h l v u (u1 - u)) hi2 (by omega) (by omega) (by rw [e3]; omega) (by rw [e3]; omega) (by rw [e1]; exact tk) (by rw [e8]; exact t8) hb4
        · by_cases w2 : jjK b e (jjSk b e a2) = 93 + 32 * o
          · have hlt : jjSk b e a2 < e := by
              by_cases q : jjSk b e a2 < e
              · exact q
              · rw [jjK.n (by omega)] at w2; omega
            rw [jjM_end (h := h) (l := l) (k := k + 1) hp hc (by omega) rfl w2 (by omega)]
            refine Or.inr (fun x q0 q1 => ?_)
            by_cases wx : x = h
            · subst wx
              exact ⟨fun q => absurd (e1.symm.trans q) tk, fun q => absurd (e8.symm.trans q) t8, by show 0 ≤ jjLk T2 x l v u (u1 - u) 3 x; rw [e3]; omega, by show jjLk T2 x l v u (u1 - u) 3 x < e; rw [e3]; omega⟩
            · exact hb4 x (by omega) q1
          · exact Or.inl (by rw [jjM_2 (h := h) (l := l) (k := k + 1) hp hc rfl w w2]; omega)
theorem jjVal.bn {b : Int → Int} {e : Int} : ∀ (d : Nat) (a v u : Int) (T : Nat → Int → Int), 0 ≤ a → 0 ≤ v → 0 ≤ u → (jjVal b e d a v u T).1 < 0 ∨ jjBn (jjVal b e d a v u T).2.2.2.2 e v (jjVal b e d a v u T).2.2.1 (jjVal b e d a v u T).2.2.2.1
  | 0, a, v, u, T, ha, h0, hu => by
    by_cases w : jjK b e a = 123 ∨ jjK b e a = 91
    · exact Or.inl (by rw [jjVal_0 w rfl]; omega)
    · rw [jjVal_l (fun q => w (Or.inl q)) (fun q => w (Or.inr q))]; exact jjL.bn ha hu
  | d + 1, a, v, u, T, ha, h0, hu => by
    by_cases w : jjK b e a = 123 ∨ jjK b e a = 91
    · obtain ⟨o, ho⟩ : ∃ o : Int, (jjK b e a = 123 ∧ o = 1) ∨ (jjK b e a = 91 ∧ o = 0) := by
        rcases w with w | w
        · exact ⟨1, Or.inl ⟨w, rfl⟩⟩
        · exact ⟨0, Or.inr ⟨w, rfl⟩⟩
      rw [jjVal_h (d := d + 1) ho (by omega)]
      have hs := jjSk.ge b e (a + 1)
      show (jjH b e (jjVal b e d) o a v u T).1 < 0 ∨ jjBn (jjH b e (jjVal b e d) o a v u T).2.2.2.2 e v (jjH b e (jjVal b e d) o a v u T).2.2.1 (jjH b e (jjVal b e d) o a v u T).2.2.2.1
      have hk : (2 - o : Int) = 1 ∨ (2 - o : Int) = 2 := by omega
      unfold jjH
      generalize (2 - o : Int) = kd at hk ⊢
      split
      · rename_i w2
        have hlt : jjSk b e (a + 1) < e := by
          by_cases q : jjSk b e (a + 1) < e
          · exact q
          · rw [jjK.n (by omega)] at w2; omega
        exact Or.inr (jjMk.bn (fun q => by omega) (by omega) (by omega))
      · obtain ⟨m1, m2, m3, -, -, -, m8⟩ := jjMk.at (T := T) (v := v) (k := kd) (f := -1) (z := 0)
        have hi : jjIn (jjMk T v kd (-1) 0) v (-1) (v + 1) := ⟨by omega, h0, by rw [m1]; exact hk, Or.inl ⟨by omega, m3, m2, rfl⟩⟩
        exact jjM.bn (b := b) (e := e) (o := o) (jjVal.out (b := b) (e := e) d) (jjVal.bn (b := b) (e := e) d) ((e - a).toNat + 1) (jjSk b e (a + 1)) (v + 1) u (-1) _ hi (by omega) hu (by rw [m3]; omega) (by rw [m3]; omega) (by rw [m1]; omega) (by rw [m8]; omega) (fun x q0 q1 => by omega)
    · rw [jjVal_l (fun q => w (Or.inl q)) (fun q => w (Or.inr q))]; exact jjL.bn ha hu
end
section
-- p9: the reference's tables behind a read; its kept bytes
theorem jjRB.of {b : Int → Int} {e r q v u : Int} {T : Nat → Int → Int} {ms mh mx mf mt mb me mi mn fu : Nat → Int32} (hX : jjVal b e 10 (jjSk b e 0) 0 0 (fun _ _ => 0) = (r, q, v, u, T)) (hr : 0 ≤ r) (he : e ≤ 3000) (hR : jjTR T v ms mh mx mf mt mb me mi mn) (hu : jjA T 7 u fu) : jjRB T v u ms mh mx mf mt mb me mi mn fu ∧ 1 ≤ v ∧ r = 0 ∧ jSo mx 0 = -1 := by
  have ho := jjVal.out (b := b) (e := e) 10 (jjSk b e 0) 0 0 (fun _ _ => 0) (Int.le_refl 0)
  have hb := jjVal.bn (b := b) (e := e) 10 (jjSk b e 0) 0 0 (fun _ _ => 0) (jjSk.ge b e 0) (Int.le_refl 0) (Int.le_refl 0)
  rw [hX] at ho hb
  have hb : jjBn T e 0 v u := hb.resolve_left (by show ¬ r < 0; omega)
  rcases ho with ho | ⟨o1, -, -, o4, -, -, -, o8, o9⟩
  · have ho : r < 0 := ho
    omega
  · have o4 : (0 : Int) < v := o4
    have o8 : jjCo T 0 v := o8
    exact ⟨⟨hR, hu, o8, fun x h0 h1 => by have := (hb x h0 h1).2.2; omega, fun c h0 h1 h8 => (hb c h0 h1).2.1 h8, fun x h0 h1 h3 => (hb x h0 h1).1 h3, fun x h0 h1 _ => (hb x h0 h1).2.2.1⟩, by omega, o1, by rw [← (hR 0 (Int.le_refl 0) o4).2.1]; exact o9⟩
theorem jjRd.y {b : Int → Int} {e r q v u : Int} {T : Nat → Int → Int} (hX : jjVal b e 10 (jjSk b e 0) 0 0 (fun _ _ => 0) = (r, q, v, u, T)) (hr : 0 ≤ r) (hq : jjSk b e q = e) : jjRd b e = (1, v, u, T) := by
  unfold jjRd
  rw [hX, if_pos ⟨hr, hq⟩]
theorem jjRd.n {b : Int → Int} {e : Int} (h : (jjVal b e 10 (jjSk b e 0) 0 0 (fun _ _ => 0)).1 < 0 ∨ jjSk b e (jjVal b e 10 (jjSk b e 0) 0 0 (fun _ _ => 0)).2.1 ≠ e) : (jjRd b e).1 = 0 := by
  unfold jjRd
  rw [if_neg (fun q => by rcases h with h | h; omega; exact h q.2)]
/-- the contents of an array of ints with these bytes -/
def jfCu (D : Int → Int) : Nat → Int32 := fun j => if j < 3000 then Int32.ofInt (D j) else 0
def jfBy (D : Int → Int) : Prop := ∀ j : Int, 0 ≤ D j ∧ D j ≤ 255
theorem jB8.cu {D : Int → Int} (h : jfBy D) : jB8 (jfCu D) = jB8 (jfCn D) := by
  funext j
  have e : ∀ x : Int, -128 ≤ x → x ≤ 255 → (Int32.ofInt x).toInt = x := fun x h0 h1 => Int32.toInt_ofInt_of_le (by omega) (by omega)
  unfold jB8 jSo jfCu jfCn
  have hd := h (j.toNat : Int)
  by_cases w : j.toNat < 3000
  · rw [if_pos w, if_pos w]
    by_cases q : D (j.toNat : Int) < 128
    · rw [if_pos q]
    · rw [if_neg q, e _ (by omega) (by omega), e _ (by omega) (by omega)]
      omega
  · rw [if_neg w, if_neg w]
section
variable {D : Int → Int} {z p v u r q : Int} {T : Nat → Int → Int} {S : Int × (Int → jdD)}
theorem jdMs.no (hD : jfBy D) (h : (jjRd (jB8 (jfCu D)) z).1 = 0) : jdMs D z p S = (0, p, S) := jdMs.n (by rw [← jB8.cu hD]; exact h)
theorem jdMs.ya (hD : jfBy D) (h : jjRd (jB8 (jfCu D)) z = (1, v, u, T)) : jdMs D z p S = jdMg T v p S := jdMs.y (by rw [← jB8.cu hD]; exact h)
theorem jdMg.nt {m : Int} (hg : jdGd T v = 1) (hi : jdId T v < 0) : (jdMg T v p S).2.2 = jdNs T v p S ∧ (jdMg T v p S).2.1 = p ∧ (((jdMg T v p S).1 = 1 ∧ jqI T v (jChT "exit") 4 (jdMe T v) = 1) ∨ ((jdMg T v p S).1 = 0 ∧ jqI T v (jChT "exit") 4 (jdMe T v) ≠ 1)) := by
  unfold jdMg jdNs
  rw [if_pos hg, if_neg (by omega)]
  by_cases w : jqI T v (jChT "exit") 4 (jdMe T v) = 1
  · rw [if_pos w, if_pos w]; exact ⟨rfl, rfl, Or.inl ⟨rfl, w⟩⟩
  · rw [if_neg w, if_neg w]; exact ⟨rfl, rfl, Or.inr ⟨rfl, w⟩⟩
end
theorem jjA.zz {T : Nat → Int → Int} {k : Nat} {n : Int} {f : Nat → Int32} (h : n = 0) : jjA T k n f := fun j h0 h1 => by omega
end
section
-- p9: a byte as the reference takes it
/-- the reference's numbers and rows tell this state -/
def jrQ (s : jdSt) (bk m h l b : Int) (fn : Nat → Int32) (cn : Int) (fv : Nat → Int32) (cv : Int) (fk : Nat → Int32) (z : Int) (S : Int × (Int → jdD)) : Prop := ((bk = 1 ∧ s.1 0 = 1) ∨ (bk = 0 ∧ s.1 0 = 0 ∧ jfRe s.1 m h l b fn cn fv cv)) ∧ jfBy s.2.1 ∧ fk = jfCu s.2.1 ∧ s.2.2.1 = z ∧ s.2.2.2 = S
section
variable {X : Nat → Int} {s : jdSt} {c r bk pk m h l b cn cv qm qh ql qb qn qv e p z z1 n : Int} {fn fv gn gv fk gk : Nat → Int32} {S S1 : Int × (Int → jdD)} {D : Int → Int}
theorem jfRe.n6 (q : jfRe X m h l b fn cn fv cv) (hm : m ≠ 6) : X 1 ≠ 6 := by
  obtain ⟨-, q⟩ := q
  rcases q with ⟨-, e, -⟩ | ⟨-, -, e⟩
  · exact absurd e hm
  · rcases e with e | e | e | e | e | e
    · have := e.1; omega
    · have := e.1; omega
    · have := e.1; omega
    · have := e.1; omega
    · have := e.1; omega
    · have := e.1; omega
theorem jdStep.a0 {Y : Nat → Int} {w : Int} (h0 : s.1 0 = 0) (ha : jfAc s.1 c = (Y, 0, w)) : jdStep s c = (Y, jdBy s c, s.2.2) := by
  unfold jdStep
  rw [ha, if_neg (by rw [h0]; decide), if_neg (by show ¬ (0 : Int) = 1; decide)]
theorem jfAc.h0 (h1 : X 1 ≠ 6) (hx : 200 ≤ X 3 ∨ jfHd X c 0 = 0) : jfAc X c = (jfB, 0, 0) := by
  unfold jfAc
  rw [if_neg h1, if_pos hx]
/-- a header's byte that breaks the frame -/
theorem jrQ.x (hq : jrQ s pk m h l b fn cn fv cv fk z S) (hk : pk = 0) (hm : m ≠ 6) (hH : jfHq s.1 c r qm qh ql qb gn qn gv qv) (hr : r = 0) (hb : bk = 1) : (∀ m1 h1 l1 b1 f1 n1 f2 v1, jrQ (jdStep s c) bk m1 h1 l1 b1 f1 n1 f2 v1 fk z (jdStep s c).2.2.2) ∧ (jdStep s c).2.2.2 = S := by
  obtain ⟨q1, q2, q3, q4, q5⟩ := hq
  obtain ⟨-, h0, hR⟩ := q1.resolve_left (fun w => by have := w.1; omega)
  have n6 := hR.n6 hm
  have hx := (hH.resolve_right (fun w => by have := w.1; omega)).2
  have eb : jdBy s c = s.2.1 := if_neg n6
  have e1 := jdStep.a0 h0 (jfAc.h0 n6 hx)
  rw [eb] at e1
  rw [e1]
  exact ⟨fun _ _ _ _ _ _ _ _ => ⟨Or.inl ⟨hb, rfl⟩, q2, q3, q4, rfl⟩, q5⟩
end
theorem jfCu.z : (fun _ => 0 : Nat → Int32) = jfCu (fun _ => 0) := by
  funext j
  show (0 : Int32) = if j < 3000 then Int32.ofInt 0 else 0
  split <;> rfl
end
section
-- p9: what unit answers
def jdOd (c d : Int) : Int := if 0 ≤ d ∧ d < c then d else -1
theorem jdUn.out {c d i : Int} {F : Int → jdD} (h : d < 0 ∨ c ≤ d ∨ i < 0) : jdUn c F d i = -1 := if_pos (by
  rcases h with h | h | h
  · exact Or.inl h
  · exact Or.inr (Or.inl h)
  · exact Or.inr (Or.inr (Or.inl h)))
section
variable {t : jDtl} {w : jWl9} {tr : jDtr} {fd : Nat → Option Nat} {c d i : Int} {a : Nat}
theorem jdOd.no (h : d < 0 ∨ c ≤ d) : jdOd c d = -1 := if_neg (by omega)
end
end
section
-- p9: what both sides hold between two calls
def jlI (a0 a1 a2 a3 a4 a5 a6 a7 a8 : Int) (fb : Nat → Int32) (z : Int) (t : jDtl) (w : jWl9) (bk m h l b : Int) (fn : Nat → Int32) (cn : Int) (fv : Nat → Int32) (cv : Int) (fk : Nat → Int32) (zr : Int) (S : Int × (Int → jdD)) : Prop := ∃ s : jdSt, jfQ s.1 a0 a1 a2 a3 a4 a5 a6 a7 a8 ∧ jfBd s.2.1 fb 3000 ∧ s.2.2.1 = z ∧ s.2.2.2 = jdCs t w ∧ jrQ s bk m h l b fn cn fv cv fk zr S
section
variable {a0 a1 a2 a3 a4 a5 a6 a7 a8 z bk m h l b cn cv zr : Int} {fb fn fv fk : Nat → Int32} {t t1 : jDtl} {w w1 : jWl9} {S : Int × (Int → jdD)}
theorem jlI.zz {w0 : Nat → Option Nat} (h0 : a0 = 0) (h1 : a1 = 0) (h2 : a2 = -1) (h3 : a3 = 0) (h4 : a4 = 0) (h5 : a5 = 0) (h6 : a6 = 0) (h7 : a7 = 0) (h8 : a8 = 0) (hb : fb = fun _ => 0) (hz : z = 0) (k0 : bk = 0) (k1 : m = 0) (k2 : h = 0) (k3 : l = -1) (hk : fk = fun _ => 0) (hr : zr = 0) : jlI a0 a1 a2 a3 a4 a5 a6 a7 a8 fb z t (0, w0) bk m h l b fn cn fv cv fk zr (0, fun _ => jdDz) := by
  subst h0 h1 h2 h3 h4 h5 h6 h7 h8 hb hz k0 k1 k2 k3 hk hr
  refine ⟨(jfV 0 0 (-1) 0 0 0 0 0 0, fun _ => 0, 0, (0, fun _ => jdDz)), Or.inr ⟨rfl, rfl⟩, fun j h0 h1 => ?_, rfl, ?_, ?_⟩
  · refine ⟨?_, ?_, ?_⟩
    · show (0 : Int32).toInt % 256 = 0
      decide
    · show (-128 : Int) ≤ (0 : Int32).toInt
      decide
    · show (0 : Int32).toInt ≤ (127 : Int)
      decide
  · exact Prod.ext rfl (funext fun d => (jdLi.out (by show d < 0 ∨ (0 : Int) ≤ d; omega)).symm)
  · exact ⟨Or.inr ⟨rfl, rfl, ⟨rfl, Or.inr ⟨rfl, rfl, Or.inl ⟨rfl, rfl⟩⟩⟩⟩, fun j => by show (0 : Int) ≤ 0 ∧ (0 : Int) ≤ 255; decide, jfCu.z, rfl, rfl⟩
end
/-- nothing is told yet -/
def jdZt : jDtl := (fun _ => 0, fun _ => 0, fun _ _ => 0, fun _ => 0, fun _ _ => 0)
theorem jdIv.z {w0 : Nat → Option Nat} : jdIv jdZt (0, w0) := ⟨fun a => by show (0 : Int) ≤ (0 : Int32).toInt ∧ (0 : Int32).toInt ≤ 1500; decide, fun i hi => by have hi : (i : Int) < 0 := hi; omega, fun i j hi => by have hi : (i : Int) < 0 := hi; omega, Int.le_refl 0⟩
end
section
-- the kinds: one table
def jF2 : List (Value → Prop) → List (Value → Prop) → Prop
  | [], [] => True
  | p :: P, q :: Q => (∀ v, p v → q v) ∧ jF2 P Q
  | _, _ => False
theorem jF2.at : ∀ (P Q : List (Value → Prop)), jF2 P Q → ∀ (i : Nat) (q : Value → Prop), Q[i]? = some q → ∃ p, P[i]? = some p ∧ ∀ v, p v → q v
  | [], [], _, i, q, h => by simp at h
  | p :: P, q :: Q, h, 0, r, e => by
    simp only [List.getElem?_cons_zero, Option.some.injEq] at e
    subst e
    exact ⟨p, rfl, h.1⟩
  | p :: P, q :: Q, h, i + 1, r, e => by
    simp only [List.getElem?_cons_succ] at e ⊢
    exact jF2.at P Q h.2 i r e
section J50
variable {dC : Nat → ClassId} {dI : Nat → Nat → Nat} {ca : Nat → ClassId}
end J50
end
section
-- nothing is there yet
section J51
variable {dC : Nat → ClassId} {dI : Nat → Nat → Nat} {ca : Nat → ClassId} {B : jF} {base : Nat} {G : jT} {H : Heap}
theorem jX.nil (h : ∀ a t, G a ≠ some t) : jX B base G [] H := ⟨fun a k n ha => absurd ha (h _ _), fun a t ha => absurd ha (h _ _)⟩
end J51
end
section
-- the start: what the Statement gives, as the contracts ask for it
theorem jZ.of {args : Array Value} {s : State} {base : Nat} (hF : ∀ c ∈ flatC narrow_1, c.before args s = true) (hT : ∀ w ∈ tables_1, w.before args s = true) (hb : base = s.heap.size) : jZ base s s.heap := by
  have hA : ∀ a : Nat, a < s.heap.size → ¬ jA base a := fun a ha h => by
    have h9 : base ≤ a := h
    omega
  obtain ⟨t11, e11, h11⟩ := va_Tof (tm := (.static "ProofServer$Syntax" "CHAIN_SIGNS" "[I")) (ty := .int) (N := 3) (f := fun j => .int (([62, 43, 42] : List Int32).getD j 0)) (A := jA base) (by decide) (hF (.arrayOf (.static "ProofServer$Syntax" "CHAIN_SIGNS" "[I") .int) (List.mem_of_getElem? (i := 12) (by decide +kernel))) (va_eqt (hF (.eq (.length (.static "ProofServer$Syntax" "CHAIN_SIGNS" "[I")) (.int 3)) (List.mem_of_getElem? (i := 13) (by decide +kernel)))) (fun j hj => by
    rcases (by omega : j = 0 ∨ j = 1 ∨ j = 2) with rfl | rfl | rfl
    · exact va_eqt (hF (.eq (.elem (.static "ProofServer$Syntax" "CHAIN_SIGNS" "[I") (.int 0)) (.int 62)) (List.mem_of_getElem? (i := 14) (by decide +kernel)))
    · exact va_eqt (hF (.eq (.elem (.static "ProofServer$Syntax" "CHAIN_SIGNS" "[I") (.int 1)) (.int 43)) (List.mem_of_getElem? (i := 15) (by decide +kernel)))
    · exact va_eqt (hF (.eq (.elem (.static "ProofServer$Syntax" "CHAIN_SIGNS" "[I") (.int 2)) (.int 42)) (List.mem_of_getElem? (i := 16) (by decide +kernel)))) hA
  obtain ⟨t17, e17, h17⟩ := va_Tof (tm := (.static "ProofServer$Syntax" "CHAIN_NODES" "[I")) (ty := .int) (N := 3) (f := fun j => .int (([1, 3, 2] : List Int32).getD j 0)) (A := jA base) (by decide) (hF (.arrayOf (.static "ProofServer$Syntax" "CHAIN_NODES" "[I") .int) (List.mem_of_getElem? (i := 18) (by decide +kernel))) (va_eqt (hF (.eq (.length (.static "ProofServer$Syntax" "CHAIN_NODES" "[I")) (.int 3)) (List.mem_of_getElem? (i := 19) (by decide +kernel)))) (fun j hj => by
    rcases (by omega : j = 0 ∨ j = 1 ∨ j = 2) with rfl | rfl | rfl
    · exact va_eqt (hF (.eq (.elem (.static "ProofServer$Syntax" "CHAIN_NODES" "[I") (.int 0)) (.int 1)) (List.mem_of_getElem? (i := 20) (by decide +kernel)))
    · exact va_eqt (hF (.eq (.elem (.static "ProofServer$Syntax" "CHAIN_NODES" "[I") (.int 1)) (.int 3)) (List.mem_of_getElem? (i := 21) (by decide +kernel)))
    · exact va_eqt (hF (.eq (.elem (.static "ProofServer$Syntax" "CHAIN_NODES" "[I") (.int 2)) (.int 2)) (List.mem_of_getElem? (i := 22) (by decide +kernel)))) hA
  refine ⟨va_Zof (hT (.laysStatic "java/lang/String" "COMPACT_STRINGS" "Z") (List.mem_of_getElem? (i := 174) (by decide +kernel))) (hT (.initialized "java/lang/String") (List.mem_of_getElem? (i := 8) (by decide +kernel))) (va_eqt (hF (.eq (.static "java/lang/String" "COMPACT_STRINGS" "Z") (.int 1)) (List.mem_of_getElem? (i := 2) (by decide +kernel)))) hA, ⟨t11, fun j => ([62, 43, 42] : List Int32).getD j 0, va_Zref (hT (.laysStatic "ProofServer$Syntax" "CHAIN_SIGNS" "[I") (List.mem_of_getElem? (i := 1418) (by decide +kernel))) (hT (.initialized "ProofServer$Syntax") (List.mem_of_getElem? (i := 12) (by decide +kernel))) e11 hA, h11, fun j hj => by rcases (by omega : j = 0 ∨ j = 1 ∨ j = 2) with rfl | rfl | rfl <;> decide⟩, ⟨t17, fun j => ([1, 3, 2] : List Int32).getD j 0, va_Zref (hT (.laysStatic "ProofServer$Syntax" "CHAIN_NODES" "[I") (List.mem_of_getElem? (i := 1436) (by decide +kernel))) (hT (.initialized "ProofServer$Syntax") (List.mem_of_getElem? (i := 12) (by decide +kernel))) e17 hA, h17, fun j hj => by rcases (by omega : j = 0 ∨ j = 1 ∨ j = 2) with rfl | rfl | rfl <;> decide⟩, va_Zqof (hT (.laysStatic "jdk/internal/util/Preconditions" "SIOOBE_FORMATTER" "Ljava/util/function/BiFunction;") (List.mem_of_getElem? (i := 190) (by decide +kernel))) (hT (.initialized "jdk/internal/util/Preconditions") (List.mem_of_getElem? (i := 10) (by decide +kernel))) (hF (.isRef (.static "jdk/internal/util/Preconditions" "SIOOBE_FORMATTER" "Ljava/util/function/BiFunction;")) (List.mem_of_getElem? (i := 3) (by decide +kernel))) hA⟩
end
section
-- how long a message is at least that opens or changes a document
def jWs (D : jC) : List Int → Int
  | [] => 0
  | i :: is => (if jSo D.1 i = 3 then jSo D.2.2.1 i else 0) + jSo D.2.2.2.2 i + jWs D is
/-- a value that has a key -/
def jNde (D : jC) (pv i k z : Int) : Prop := 0 ≤ i ∧ i < pv ∧ jSo D.1 i = k ∧ jSo D.2.2.2.2 i = z
theorem jNde.s {D : jC} {pv i z : Int} (h : jNde D pv i 3 z) (is : List Int) : jWs D (i :: is) = jSo D.2.2.1 i + z + jWs D is := by
  obtain ⟨h1, h2, h3, h4⟩ := h
  show (if jSo D.1 i = 3 then jSo D.2.2.1 i else 0) + jSo D.2.2.2.2 i + jWs D is = _
  rw [if_pos h3, h4]
theorem jNde.r {D : jC} {pv i k z : Int} (h : jNde D pv i k z) (hz : 1 ≤ z) : 0 ≤ i ∧ i < pv ∧ 1 ≤ jSo D.2.2.2.2 i := by
  obtain ⟨h1, h2, h3, h4⟩ := h
  omega
theorem jNde.of {fk fi fz fa fs : Nat → Int32} {pv i k z : Int} (h0 : 0 ≤ i) (h1 : i < pv) (h2 : jSo fk i = k) (h3 : jSo fs i = z) : jNde (fk, fi, fz, fa, fs) pv i k z := ⟨h0, h1, h2, h3⟩
def jMh (D : jC) (pv pu n : Int) : Prop := (∃ C : jC, jJr C 0 0 D pv pu) ∧ jUd D pv pu n
theorem jMh.of {C : jC} {gk gi gz ga gs : Nat → Int32} {qv qu n : Int} (h : jJr C 0 0 (gk, gi, gz, ga, gs) qv qu) (g : jUd (gk, gi, gz, ga, gs) qv qu n) : jMh (gk, gi, gz, ga, gs) qv qu n := ⟨⟨C, h⟩, g⟩
theorem jEd.z {fe : Nat → Int32} {k : Int} (h : k ≤ 0) : jEd fe k = 0 := by
  unfold jEd
  rw [if_pos h]
/-- one or the other, hidden until it is resolved -/
def jOr (p q : Prop) : Prop := p ∨ q
theorem jOr.of {p q : Prop} (h : p ∨ q) : jOr p q := h
theorem jOr.resolve_left {p q : Prop} (h : jOr p q) (n : ¬p) : q := Or.resolve_left h n
theorem jOr.resolve_right {p q : Prop} (h : jOr p q) (n : ¬q) : p := Or.resolve_right h n
end
section
-- the documents of the reference while it is made
abbrev jFz9 : List (Nat × Nat) := [(14, 5), (14, 6), (14, 7), (14, 9), (190, 0), (191, 0), (14, 0), (14, 1), (14, 2), (14, 3), (14, 4), (194, 0), (195, 0)]
def jDZa (dC : Nat → ClassId) (dI : Nat → Nat → Nat) (G : jT) (H : Heap) : Prop := ∃ Yb Ye : Nat → Nat, (∀ a, G a = some (14, 0) → jf (dC, dI) 14 a 6 (.ref (Yb a)) H ∧ jf (dC, dI) 14 a 7 (.ref (Ye a)) H ∧ G (Yb a) = some (190, 40) ∧ G (Ye a) = some (191, 40)) ∧ (∀ a b, G a = some (14, 0) → G b = some (14, 0) → Yb a = Yb b → a = b) ∧ (∀ a b, G a = some (14, 0) → G b = some (14, 0) → Ye a = Ye b → a = b) ∧ ∀ a, G a = some (14, 0) → jf (dC, dI) 14 a 5 (.int 0) H ∧ jf (dC, dI) 14 a 9 (.int 0) H
def jRZ (dC : Nat → ClassId) (dI : Nat → Nat → Nat) (G : jT) (H : Heap) : Prop := ∃ Yb Ye : Nat → Nat, (∀ a, G a = some (14, 0) → jf (dC, dI) 14 a 3 (.ref (Yb a)) H ∧ jf (dC, dI) 14 a 0 (.ref (Ye a)) H ∧ G (Yb a) = some (194, 1500) ∧ G (Ye a) = some (195, 40)) ∧ (∀ a b, G a = some (14, 0) → G b = some (14, 0) → Yb a = Yb b → a = b) ∧ (∀ a b, G a = some (14, 0) → G b = some (14, 0) → Ye a = Ye b → a = b) ∧ ∀ a, G a = some (14, 0) → jf (dC, dI) 14 a 1 (.int 0) H ∧ jf (dC, dI) 14 a 2 (.int 0) H ∧ jf (dC, dI) 14 a 4 (.int 0) H
section J45
variable {dC : Nat → ClassId} {dI : Nat → Nat → Nat} {ca : Nat → ClassId} {G G1 : jT} {H : Heap}
theorem jDZa.ie (h : jDZa dC dI G H) : ((jFz9, jDZa dC dI G) : jIv).2 H ∧ ∀ H1 H2 : Heap, jAg (dC, dI) G ((jFz9, jDZa dC dI G) : jIv).1 H1 H2 → ((jFz9, jDZa dC dI G) : jIv).2 H1 → ((jFz9, jDZa dC dI G) : jIv).2 H2 := by
  refine ⟨h, fun H1 H2 hA hq => ?_⟩
  obtain ⟨Yb, Ye, h1, h2, h3, h4⟩ := hq
  refine ⟨Yb, Ye, fun a ha => ?_, h2, h3, fun a ha => ?_⟩
  · obtain ⟨g1, g2, g3, g4⟩ := h1 a ha
    exact ⟨hA.1 a 14 0 6 _ ha rfl g1, hA.1 a 14 0 7 _ ha rfl g2, g3, g4⟩
  · obtain ⟨g1, g2⟩ := h4 a ha
    exact ⟨hA.1 a 14 0 5 _ ha rfl g1, hA.1 a 14 0 9 _ ha rfl g2⟩
theorem jRZ.ie (h : jRZ dC dI G H) : ((jFz9, jRZ dC dI G) : jIv).2 H ∧ ∀ H1 H2 : Heap, jAg (dC, dI) G ((jFz9, jRZ dC dI G) : jIv).1 H1 H2 → ((jFz9, jRZ dC dI G) : jIv).2 H1 → ((jFz9, jRZ dC dI G) : jIv).2 H2 := by
  refine ⟨h, fun H1 H2 hA hq => ?_⟩
  obtain ⟨Yb, Ye, h1, h2, h3, h4⟩ := hq
  refine ⟨Yb, Ye, fun a ha => ?_, h2, h3, fun a ha => ?_⟩
  · obtain ⟨g1, g2, g3, g4⟩ := h1 a ha
    exact ⟨hA.1 a 14 0 3 _ ha rfl g1, hA.1 a 14 0 0 _ ha rfl g2, g3, g4⟩
  · obtain ⟨g1, g2, g3⟩ := h4 a ha
    exact ⟨hA.1 a 14 0 1 _ ha rfl g1, hA.1 a 14 0 2 _ ha rfl g2, hA.1 a 14 0 4 _ ha rfl g3⟩
/-- both -/
def jDZ (dC : Nat → ClassId) (dI : Nat → Nat → Nat) (G : jT) (H : Heap) : Prop := jDZa dC dI G H ∧ jRZ dC dI G H
theorem jDZ.ie (h : jDZ dC dI G H) : ((jFz9, jDZ dC dI G) : jIv).2 H ∧ ∀ H1 H2 : Heap, jAg (dC, dI) G ((jFz9, jDZ dC dI G) : jIv).1 H1 H2 → ((jFz9, jDZ dC dI G) : jIv).2 H1 → ((jFz9, jDZ dC dI G) : jIv).2 H2 := ⟨h, fun H1 H2 hA hq => ⟨(jDZa.ie hq.1).2 H1 H2 hA hq.1, (jRZ.ie hq.2).2 H1 H2 hA hq.2⟩⟩
theorem jRS.z {r n dd : Nat} {t : jDtr} {fd : Nat → Option Nat} {dc : Int32} (hr : G r = some (16, n)) (p1 : jf (dC, dI) 16 r 41 (.ref dd) H) (hd : G dd = some (201, 3)) (q : jQc dC dI (ca 4) dd 3 fd H) (p2 : jf (dC, dI) 16 r 42 (.int dc) H) (hdc : dc.toInt = 0) (hR : jRD dC dI ca G none t H) (hz : ∀ a, t.ln a = 0 ∧ t.ul a = 0) (hf : ∀ i, i < 3 → ∃ a, fd i = some a) : jRS dC dI ca G r (0, fun _ => jdDz) H := by
  have hI : jdIr t fd dc.toInt := ⟨by omega, by omega, hf, fun a => by rw [(hz a).1, (hz a).2]; decide⟩
  have e : jdRs t fd dc.toInt = (0, fun _ => jdDz) := by
    rw [hdc]
    exact Prod.ext rfl (funext fun d => jdLi.out (by omega))
  rw [← e]
  exact jRS.mk hr p1 hd q p2 hR hI
end J45
end
section
def EX14_memberKN : List (Nat × Nat) := []
def EX14_lineOfN : List (Nat × Nat) := []
def EX14_characterOfN : List (Nat × Nat) := []
def EX14_isPositionN : List (Nat × Nat) := []
set_option maxHeartbeats 4000000 in
set_option maxRecDepth 20000 in
theorem uX14_memberKN (l : Launch) (dC : Nat → ClassId) (dI : Nat → Nat → Nat) (ca : Nat → ClassId) (base : Nat) (B : jF) (hB : jBok B) (hAp : jAp (dC, dI)) (hB16 : ∀ n G a H, B 16 n G a H ↔ jOb (dC, dI) 16 74 (F16 n G) a H) (hB117 : ∀ n G a H, B 117 n G a H ↔ jAr (dC, dI) (ca 1) (fun j z => True) n a H) (hB118 : ∀ n G a H, B 118 n G a H ↔ jAr (dC, dI) (ca 1) (fun j z => -1 ≤ z.toInt ∧ z.toInt ≤ 3099) n a H) (hB119 : ∀ n G a H, B 119 n G a H ↔ jAr (dC, dI) (ca 1) (fun j z => z.toInt = -1 ∨ z.toInt = 0 ∨ ((j : Nat) < z.toInt ∧ z.toInt ≤ 3099)) n a H) (hB120 : ∀ n G a H, B 120 n G a H ↔ jAr (dC, dI) (ca 1) (fun j z => 0 ≤ z.toInt ∧ z.toInt ≤ 3300) n a H) (hB121 : ∀ n G a H, B 121 n G a H ↔ jAr (dC, dI) (ca 1) (fun j z => 0 ≤ z.toInt ∧ z.toInt ≤ 3300) n a H) (hB127 : ∀ n G a H, B 127 n G a H ↔ jAr (dC, dI) (ca 1) (fun j z => True) n a H) (G0 : jT) (H0 : Heap) (r0 : Nat) (a1 : Int32) (r2 : Nat) (n2 : Nat) (f2 : Nat → Int32) (zm : Nat) (xh : Nat) (xn : Nat) (xf : Nat) (xt : Nat) (xp : Nat) (ms : Nat → Int32) (mh : Nat → Int32) (mx : Nat → Int32) (mf : Nat → Int32) (mt : Nat → Int32) (mp : Nat → Int32) : Met l yX14_member (jw yX14_member cX14_member 5 (some .int)) ({ frames := 5, cells := 0, slots := 0, locals := 165 }) (va_Pc [.ref r0, .int a1, .ref r2] (fun U => U.heap = H0 ∧ jX B base G0 [] H0 ∧ jG dC dI ca base U ∧ jStrF base r2 n2 f2 U H0 ∧ G0 r0 = some (16, 0) ∧ G0 zm = some (117, 3100) ∧ G0 xh = some (118, 3100) ∧ G0 xn = some (119, 3100) ∧ G0 xf = some (120, 3100) ∧ G0 xt = some (121, 3100) ∧ G0 xp = some (127, 3300) ∧ jP (dC, dI) G0 H0 [(r0, 16, 17, .ref zm), (r0, 16, 18, .ref xh), (r0, 16, 19, .ref xn), (r0, 16, 20, .ref xf), (r0, 16, 21, .ref xt), (r0, 16, 27, .ref xp)] ∧ jMc (dC, dI) G0 H0 [(zm, 117, 3100, ca 1, ms), (xh, 118, 3100, ca 1, mh), (xn, 119, 3100, ca 1, mx), (xf, 120, 3100, ca 1, mf), (xt, 121, 3100, ca 1, mt), (xp, 127, 3300, ca 1, mp)] ∧ a1.toInt ≤ 3099 ∧ n2 < 2147483648 ∧ jSo mx 0 = -1)) (va_Qi (S := Unit) (fun r u => (r.toInt = jMb ms mh mf mt mx mp f2 n2 a1.toInt ∧ -1 ≤ r.toInt ∧ r.toInt ≤ 3099)) (fun u t => jRt (dC, dI) B base G0 EX14_memberKN H0 [] t.heap) (jA base)) 0 0 (jA base) := by
  refine Met.ofW (cc := cX14_member) (maxL := 5) (ret := (some .int)) (by decide) rfl ?_
  intro p e s m args below meth c s₁ Bd hml hv
  obtain ⟨rfl, hH0, hX, hG, hstrF_r2, hg_r0, hg_zm, hg_xh, hg_xn, hg_xf, hg_xt, hg_xp, hP0, hM0, hp0, hp1, hp2⟩ := hv
  have hK := hG.1
  have hx := Bd.exec
  have hb := Bd.bytes
  have hr := Bd.returns
  have hts := atoms_spec (ws := (jw yX14_member cX14_member 5 (some .int))) Bd.pre
  have htw : ∀ w ∈ jWl, w.before _ s = true := fun w h => hts w (List.mem_cons_of_mem _ h)
  have hown : s.vm.findClass RX14 = some m.cls := findClass_of_methodNamed Bd.named
  have hlocks := Bd.notSynchronized
  obtain ⟨Q, hQ⟩ : ∃ Q, Q = MQ below (va_Qi (S := Unit) (fun r u => (r.toInt = jMb ms mh mf mt mx mp f2 n2 a1.toInt ∧ -1 ≤ r.toInt ∧ r.toInt ≤ 3099)) (fun u t => jRt (dC, dI) B base G0 EX14_memberKN H0 [] t.heap) (jA base)) ([.ref r0, .int a1, .ref r2] : List Value).toArray s 0 0 (jA base) := ⟨_, rfl⟩
  rw [← hQ]
  have hl := lv_entry ([.ref r0, .int a1, .ref r2]) (n := 5) (Nat.le_of_ble_eq_true rfl)
  rw [lg_entry_eq]
  generalize (lg_sl ([.ref r0, .int a1, .ref r2]) ++ List.replicate (5 - (lg_sl ([.ref r0, .int a1, .ref r2])).length) Slot.unset).toArray = ls at hl ⊢
  have hstr_r2 := hstrF_r2.str
  have hl : lv_has ls 5 [(0, .ref r0), (1, .int a1), (2, .ref r2)] := hl
  generalize hR : (headSpec (jw yX14_member cX14_member 5 (some .int)) ({ frames := 5, cells := 0, slots := 0, locals := 165 })).room = R
  subst hH0
  have hh : jSt (dC, dI) B base G0 G0 EX14_memberKN s.heap 0 0 [(r0, 16, 17, .ref zm), (r0, 16, 18, .ref xh), (r0, 16, 19, .ref xn), (r0, 16, 20, .ref xf), (r0, 16, 21, .ref xt), (r0, 16, 27, .ref xp)] [(zm, 117, 3100, ca 1, ms), (xh, 118, 3100, ca 1, mh), (xn, 119, 3100, ca 1, mx), (xf, 120, 3100, ca 1, mf), (xt, 121, 3100, ca 1, mt), (xp, 127, 3300, ca 1, mp)] [] s.heap [] := jSt.start hX hP0 hM0 jIs.nil
  clear hX hP0
  have hkm1 : ((-1) : Int32).toInt = (-1) := by decide
  have hk0 : (0 : Int32).toInt = 0 := by decide
  have hk1 : (1 : Int32).toInt = 1 := by decide
  have hk6 : (6 : Int32).toInt = 6 := by decide
  have hly_16_17 := htw (u_lay RX14 TX14 17) (jWc_wsX140 _ (u_in_lay (by decide)))
  have hly_16_18 := htw (u_lay RX14 TX14 18) (jWc_wsX140 _ (u_in_lay (by decide)))
  have hly_16_19 := htw (u_lay RX14 TX14 19) (jWc_wsX140 _ (u_in_lay (by decide)))
  have hly_16_20 := htw (u_lay RX14 TX14 20) (jWc_wsX140 _ (u_in_lay (by decide)))
  have hly_16_21 := htw (u_lay RX14 TX14 21) (jWc_wsX140 _ (u_in_lay (by decide)))
  have hlk_37 := (htw (.fieldLink RX14 37 "ProofServerModel" "sort" "[I") (jWr_11 _ (List.mem_of_getElem? (i := 4) rfl)))
  have hlk_40 := (htw (.fieldLink RX14 40 "ProofServerModel" "heir" "[I") (jWr_11 _ (List.mem_of_getElem? (i := 5) rfl)))
  have hlk_46 := (htw (.fieldLink RX14 46 "ProofServerModel" "nameFrom" "[I") (jWr_11 _ (List.mem_of_getElem? (i := 7) rfl)))
  have hlk_49 := (htw (.fieldLink RX14 49 "ProofServerModel" "nameTo" "[I") (jWr_11 _ (List.mem_of_getElem? (i := 8) rfl)))
  have hlk_43 := (htw (.fieldLink RX14 43 "ProofServerModel" "next" "[I") (jWr_11 _ (List.mem_of_getElem? (i := 6) rfl)))
  have hrg_a1 := jb_rng a1
  refine lv_iconst (v := (-1)) hx hb dX14_member_0 (by decide) ?_
  refine lv_istore_n (lv' := [(3, .int (-1)), (0, .ref r0), (1, .int a1), (2, .ref r2)]) hx hb dX14_member_1 rfl hl (by decide) rfl (fun ls hl => ?_)
  refine lv_iload_n hx hb dX14_member_2 rfl (lv_at hl 2 rfl) ?_
  refine lv_if_lt (tgt := 17) hx hb dX14_member_3 (by decide) (fun c_1 => ?_) (fun c_1 => ?_)
  · skip
    have c_1' : a1.toInt < 0 := jb_lt (rfl) ((by decide)) c_1
    refine lv_iconst (v := (-1)) hx hb dX14_member_17 (by decide) ?_
    rw [hQ]
    exact W.iret (v := (-1)) hx hb hr (fun t ht hW => ⟨⟨(-1), (), rfl, by refine ⟨?_, by omega, by omega⟩; unfold jMb; rw [if_pos (by exact Or.inl (by omega))]; exact hkm1, hh.rt (M1 := []) [] rfl ht⟩, by rw [ht]; try exact hh.1.1, fun q h9 hq => by rw [ht]; try exact hh.1.2.1 q h9 hq⟩) hh.1.2.2 dX14_member_18
  · skip
    have c_1' : a1.toInt ≥ 0 := jb_lt_n (rfl) ((by decide)) c_1
    refine lv_aload_n hx hb dX14_member_6 rfl (lv_at hl 1 rfl) ?_
    refine j7_read hx hb hown hK (C := RX14) (T := TX14) (N := 74) rfl hly_16_17 hlk_37 (hh.at 0 rfl) dX14_member_7 ?_
    refine lv_iload_n hx hb dX14_member_10 rfl (lv_at hl 2 rfl) ?_
    refine j7_ialdM hx hb hK hh hB117 1 rfl (by decide) hg_zm (x := a1.toInt) (rfl) (by omega) (j := 0) rfl dX14_member_11 (fun z_2 ez_2 (hz_2 : True) => ?_)
    have hqz_2 : z_2.toInt = jSo ms (a1.toInt) := by unfold jSo; rw [ez_2]
    refine lv_bipush (v := 6) hx hb dX14_member_12 (by decide) ?_
    refine lv_icmp_eq (tgt := 19) hx hb dX14_member_14 (by decide) (fun c_3 => ?_) (fun c_3 => ?_)
    · skip
      have c_3' : z_2.toInt = 6 := jb_eq (rfl) ((by decide)) c_3
      refine lv_aload_n hx hb dX14_member_19 rfl (lv_at hl 1 rfl) ?_
      refine j7_read hx hb hown hK (C := RX14) (T := TX14) (N := 74) rfl hly_16_18 hlk_40 (hh.at 1 rfl) dX14_member_20 ?_
      refine lv_iload_n hx hb dX14_member_23 rfl (lv_at hl 2 rfl) ?_
      refine j7_ialdM hx hb hK hh hB118 1 rfl (by decide) hg_xh (x := a1.toInt) (rfl) (by omega) (j := 1) rfl dX14_member_24 (fun z_4 ez_4 (hz_4 : -1 ≤ z_4.toInt ∧ z_4.toInt ≤ 3099) => ?_)
      have hqz_4 : z_4.toInt = jSo mh (a1.toInt) := by unfold jSo; rw [ez_4]
      refine lv_istore (lv' := [(4, .int z_4), (3, .int (-1)), (0, .ref r0), (1, .int a1), (2, .ref r2)]) hx hb dX14_member_25 hl (by decide) rfl (fun ls hl => ?_)
      have L27 : ∀ (N : Nat) (v3_5 : Int32) (v4_5 : Int32) (kf : Nat) (H_5 : Heap) (locs_5 : List Loc), jSt (dC, dI) B base G0 G0 EX14_memberKN s.heap 0 0 [(r0, 16, 17, .ref zm), (r0, 16, 18, .ref xh), (r0, 16, 19, .ref xn), (r0, 16, 20, .ref xf), (r0, 16, 21, .ref xt), (r0, 16, 27, .ref xp)] [(zm, 117, 3100, ca 1, ms), (xh, 118, 3100, ca 1, mh), (xn, 119, 3100, ca 1, mx), (xf, 120, 3100, ca 1, mf), (xt, 121, 3100, ca 1, mt), (xp, 127, 3300, ca 1, mp)] [] H_5 locs_5 → (-1 ≤ v4_5.toInt ∧ v4_5.toInt ≤ 3099 ∧ -1 ≤ v3_5.toInt ∧ v3_5.toInt ≤ 3099 ∧ (v4_5.toInt = -1 ∨ (v4_5.toInt = 0 ∧ 2 ≤ kf) ∨ (1 ≤ v4_5.toInt ∧ 3103 - v4_5.toInt ≤ kf)) ∧ 0 < kf ∧ jMn mf mt mx mp f2 n2 kf v4_5.toInt v3_5.toInt = jMn mf mt mx mp f2 n2 3102 (jSo mh a1.toInt) (-1)) → ((kf : Int) : Int) < N → ∀ ls : Array Slot, lv_has ls 5 [(0, .ref r0), (1, .int a1), (2, .ref r2), (3, .int v3_5), (4, .int v4_5)] → W p l e R s m ([.ref r0, .int a1, .ref r2] : List Value).toArray below meth c H_5 locs_5 0 0 Q (F0 m 27 ls []) := by
        intro N
        induction N with
        | zero => intro v3_5 v4_5 kf H_5 locs_5 hh_5  hi_5 hm; exact absurd hm (by omega)
        | succ N L27 =>
          intro v3_5 v4_5 kf H_5 locs_5 hh_5  hi_5 hm_5 ls hl
          obtain ⟨hi_5_0, hi_5_1, hi_5_2, hi_5_3, hi_5_4, hi_5_5, hi_5_6⟩ := hi_5
          refine lv_iload hx hb dX14_member_27 (lv_at hl 4 rfl) ?_
          refine lv_if_lt (tgt := 73) hx hb dX14_member_29 (by decide) (fun c_6 => ?_) (fun c_6 => ?_)
          · skip
            have c_6' : v4_5.toInt < 0 := jb_lt (rfl) ((by decide)) c_6
            refine lv_iload_n hx hb dX14_member_73 rfl (lv_at hl 3 rfl) ?_
            rw [hQ]
            exact W.iret (v := v3_5) hx hb hr (fun t ht hW => ⟨⟨v3_5, (), rfl, by refine ⟨?_, by omega, by omega⟩; unfold jMb; rw [if_neg (by rw [← hqz_2]; omega)]; exact (jMn_e (by omega) (by omega) rfl).trans hi_5_6, hh_5.rt (M1 := []) [] rfl ht⟩, by rw [ht]; try exact hh_5.1.1, fun q h9 hq => by rw [ht]; try exact hh_5.1.2.1 q h9 hq⟩) hh_5.1.2.2 dX14_member_74
          · skip
            have c_6' : v4_5.toInt ≥ 0 := jb_lt_n (rfl) ((by decide)) c_6
            refine lv_aload_n hx hb dX14_member_32 rfl (lv_at hl 0 rfl) ?_
            refine lv_aload_n hx hb dX14_member_33 rfl (lv_at hl 0 rfl) ?_
            refine j7_read hx hb hown hK (C := RX14) (T := TX14) (N := 74) rfl hly_16_20 hlk_46 (hh_5.at 3 rfl) dX14_member_34 ?_
            refine lv_iload hx hb dX14_member_37 (lv_at hl 4 rfl) ?_
            refine j7_ialdM hx hb hK hh_5 hB120 1 rfl (by decide) hg_xf (x := v4_5.toInt) (rfl) (by omega) (j := 3) rfl dX14_member_39 (fun z_7 ez_7 (hz_7 : 0 ≤ z_7.toInt ∧ z_7.toInt ≤ 3300) => ?_)
            have hqz_7 : z_7.toInt = jSo mf (v4_5.toInt) := by unfold jSo; rw [ez_7]
            refine lv_aload_n hx hb dX14_member_40 rfl (lv_at hl 0 rfl) ?_
            refine j7_read hx hb hown hK (C := RX14) (T := TX14) (N := 74) rfl hly_16_21 hlk_49 (hh_5.at 4 rfl) dX14_member_41 ?_
            refine lv_iload hx hb dX14_member_44 (lv_at hl 4 rfl) ?_
            refine j7_ialdM hx hb hK hh_5 hB121 1 rfl (by decide) hg_xt (x := v4_5.toInt) (rfl) (by omega) (j := 4) rfl dX14_member_46 (fun z_8 ez_8 (hz_8 : 0 ≤ z_8.toInt ∧ z_8.toInt ≤ 3300) => ?_)
            have hqz_8 : z_8.toInt = jSo mt (v4_5.toInt) := by unfold jSo; rw [ez_8]
            refine lv_aload_n hx hb dX14_member_47 rfl (lv_at hl 2 rfl) ?_
            refine va_calli (A0 := jA base) (H0 := s.heap) (va_runV (As := [.int z_7, .int z_8, .ref r2]) (rest := []) ⟨hx, hb, hml, hown, hts⟩ (uX14_isTextK l dC dI ca base B hB hAp hB16 hB127 G0 H_5 r0 z_7 z_8 r2 n2 f2 xp mp) (cwV 3 hts (jgV (jWr_55 _ (List.mem_of_getElem? (i := 19) rfl)) (jWr_55 _ (List.mem_of_getElem? (i := 20) rfl)) (jWr_55 _ (List.mem_of_getElem? (i := 21) rfl)) (jWr_1 _ (List.mem_of_getElem? (i := 5) rfl)) (jWr_55 _ (List.mem_of_getElem? (i := 22) rfl))) rfl rfl rfl (by decide +kernel) ⟨by rw [← hR]; exact Nat.le_of_ble_eq_true rfl, by rw [← hR]; exact Nat.le_of_ble_eq_true rfl⟩) ⟨fun a U g mk q => by obtain ⟨q0, q1, q2, qK, q10, q11, q12, q13, q14, q15⟩ := q; exact ⟨q0, q1, q2, jG.calling g mk a qK, (q10.moved (Vm.Alike.refl U.vm)), q11, q12, q13, q14, q15⟩, hh_5.recv (C := RX14) (T := TX14) (N := 74) hB16 rfl (by decide) hg_r0 hK, fun U hU hW => ⟨rfl, hU, hh_5.2.1, hG.step hW hU hh_5.1, (hstrF_r2.moved hW.alike).kept hh_5.1.2.1, hg_r0, hg_xp, (hh_5.2.2.1.sub (L1 := [(r0, 16, 27, .ref xp)]) [5] rfl), (hh_5.2.2.2.2.2.2.2.1.sub (L1 := [(xp, 127, 3300, ca 1, mp)]) [5] rfl), by first | omega | (refine ⟨?_, ?_, ?_, ?_, ?_⟩ <;> (first | omega | rfl | assumption | decide | exact Or.inl rfl | exact Or.inr rfl | (simp only; omega)))⟩⟩ rfl rfl hl.1 rfl (lv_room (Nat.le_of_ble_eq_true rfl)) dX14_member_48 ⟨Nat.zero_le _, Nat.zero_le _⟩) hh_5.1 (fun q _ h => h) (fun q h => h) (fun r_10 u_9 t_9 H_9 locs_9 ht_9 hvm_9 hr_10 hb_9 hz_9 hk_9 hS_9 => ?_)
            rw [ht_9] at hb_9
            obtain ⟨hb_91, hb_92, hb_93, hb_94, hb_95⟩ := hb_9
            have hh_9 : jSt (dC, dI) B base G0 G0 EX14_memberKN s.heap 0 0 [(r0, 16, 17, .ref zm), (r0, 16, 18, .ref xh), (r0, 16, 19, .ref xn), (r0, 16, 20, .ref xf), (r0, 16, 21, .ref xt), (r0, 16, 27, .ref xp)] [(zm, 117, 3100, ca 1, ms), (xh, 118, 3100, ca 1, mh), (xn, 119, 3100, ca 1, mx), (xf, 120, 3100, ca 1, mf), (xt, 121, 3100, ca 1, mt), (xp, 127, 3300, ca 1, mp)] [] H_9 locs_9 := ((hh_5.call hb_91 hb_92 hb_93 hb_94 hS_9 rfl (L1 := [(r0, 16, 17, .ref zm), (r0, 16, 18, .ref xh), (r0, 16, 19, .ref xn), (r0, 16, 20, .ref xf), (r0, 16, 21, .ref xt), (r0, 16, 27, .ref xp)]) [0, 1, 2, 3, 4, 5] rfl rfl (M1 := [(zm, 117, 3100, ca 1, ms), (xh, 118, 3100, ca 1, mh), (xn, 119, 3100, ca 1, mx), (xf, 120, 3100, ca 1, mf), (xt, 121, 3100, ca 1, mt), (xp, 127, 3300, ca 1, mp)]) [0, 1, 2, 3, 4, 5] rfl rfl (I1 := []) [] rfl rfl).more hb_95)
            clear hh_5 ht_9 hvm_9 hz_9 hk_9 hS_9 hb_91 hb_92 hb_93 hb_94 hb_95
            obtain ⟨hr_10b, hr_10p⟩ := hr_10
            have hr_10' := jb_01 hr_10b
            refine lv_if_eq (tgt := 59) hx hb dX14_member_51 (by decide) (fun c_11 => ?_) (fun c_11 => ?_)
            · skip
              have c_11' : r_10.toInt = 0 := jb_eq (rfl) ((by decide)) c_11
              refine lv_iload_n hx hb dX14_member_59 rfl (lv_at hl 3 rfl) ?_
              refine lv_istore_n (lv' := [(3, .int v3_5), (0, .ref r0), (1, .int a1), (2, .ref r2), (4, .int v4_5)]) hx hb dX14_member_60 rfl hl (by decide) rfl (fun ls hl => ?_)
              refine lv_aload_n hx hb dX14_member_61 rfl (lv_at hl 1 rfl) ?_
              have hx0 : v4_5.toInt = 0 → jSo mx v4_5.toInt = -1 := fun h9 => by rw [h9]; exact hp2
              refine j7_read hx hb hown hK (C := RX14) (T := TX14) (N := 74) rfl hly_16_19 hlk_43 (hh_9.at 2 rfl) dX14_member_62 ?_
              refine lv_iload hx hb dX14_member_65 (lv_at hl 4 rfl) ?_
              refine j7_ialdM hx hb hK hh_9 hB119 1 rfl (by decide) hg_xn (x := v4_5.toInt) (rfl) (by omega) (j := 2) rfl dX14_member_67 (fun z_12 ez_12 (hz_12 : z_12.toInt = -1 ∨ z_12.toInt = 0 ∨ (((v4_5.toInt).toNat : Nat) < z_12.toInt ∧ z_12.toInt ≤ 3099)) => ?_)
              have hqz_12 : z_12.toInt = jSo mx (v4_5.toInt) := by unfold jSo; rw [ez_12]
              refine lv_istore (lv' := [(4, .int z_12), (3, .int v3_5), (0, .ref r0), (1, .int a1), (2, .ref r2)]) hx hb dX14_member_68 hl (by decide) rfl (fun ls hl => ?_)
              refine lv_goto (tgt := 27) hx hb dX14_member_70 (by decide) ?_
              exact L27 v3_5 z_12 (kf - 1) _ _ hh_9 (by refine ⟨by omega, by omega, by omega, by omega, by omega, by omega, ?_⟩; first | exact (jMn_s (by omega) (by omega) hqz_12 (Or.inl ⟨(by rw [← hqz_7, ← hqz_8, ← hr_10p]; omega), by omega⟩)).trans hi_5_6 | exact (jMn_s (by omega) (by omega) hqz_12 (Or.inr ⟨(by rw [← hqz_7, ← hqz_8, ← hr_10p]; omega), by omega⟩)).trans hi_5_6) (by omega) _ (lv_sub hl [2, 3, 4, 1, 0] rfl)
            · skip
              have c_11' : r_10.toInt ≠ 0 := jb_eq_n (rfl) ((by decide)) c_11
              refine lv_iload hx hb dX14_member_54 (lv_at hl 4 rfl) ?_
              refine lv_goto (tgt := 60) hx hb dX14_member_56 (by decide) ?_
              refine lv_istore_n (lv' := [(3, .int v4_5), (0, .ref r0), (1, .int a1), (2, .ref r2), (4, .int v4_5)]) hx hb dX14_member_60 rfl hl (by decide) rfl (fun ls hl => ?_)
              refine lv_aload_n hx hb dX14_member_61 rfl (lv_at hl 1 rfl) ?_
              have hx0 : v4_5.toInt = 0 → jSo mx v4_5.toInt = -1 := fun h9 => by rw [h9]; exact hp2
              refine j7_read hx hb hown hK (C := RX14) (T := TX14) (N := 74) rfl hly_16_19 hlk_43 (hh_9.at 2 rfl) dX14_member_62 ?_
              refine lv_iload hx hb dX14_member_65 (lv_at hl 4 rfl) ?_
              refine j7_ialdM hx hb hK hh_9 hB119 1 rfl (by decide) hg_xn (x := v4_5.toInt) (rfl) (by omega) (j := 2) rfl dX14_member_67 (fun z_13 ez_13 (hz_13 : z_13.toInt = -1 ∨ z_13.toInt = 0 ∨ (((v4_5.toInt).toNat : Nat) < z_13.toInt ∧ z_13.toInt ≤ 3099)) => ?_)
              have hqz_13 : z_13.toInt = jSo mx (v4_5.toInt) := by unfold jSo; rw [ez_13]
              refine lv_istore (lv' := [(4, .int z_13), (3, .int v4_5), (0, .ref r0), (1, .int a1), (2, .ref r2)]) hx hb dX14_member_68 hl (by decide) rfl (fun ls hl => ?_)
              refine lv_goto (tgt := 27) hx hb dX14_member_70 (by decide) ?_
              exact L27 v4_5 z_13 (kf - 1) _ _ hh_9 (by refine ⟨by omega, by omega, by omega, by omega, by omega, by omega, ?_⟩; first | exact (jMn_s (by omega) (by omega) hqz_13 (Or.inl ⟨(by rw [← hqz_7, ← hqz_8, ← hr_10p]; omega), by omega⟩)).trans hi_5_6 | exact (jMn_s (by omega) (by omega) hqz_13 (Or.inr ⟨(by rw [← hqz_7, ← hqz_8, ← hr_10p]; omega), by omega⟩)).trans hi_5_6) (by omega) _ (lv_sub hl [2, 3, 4, 1, 0] rfl)
      exact L27 (((3102) : Int) : Int).toNat.succ (-1) z_4 (3102) _ _ hh (by refine ⟨by omega, by omega, by omega, by omega, by omega, by omega, ?_⟩; rw [hqz_4, hkm1]) (by omega) _ (lv_sub hl [2, 3, 4, 1, 0] rfl)
    · skip
      have c_3' : z_2.toInt ≠ 6 := jb_eq_n (rfl) ((by decide)) c_3
      refine lv_iconst (v := (-1)) hx hb dX14_member_17 (by decide) ?_
      rw [hQ]
      exact W.iret (v := (-1)) hx hb hr (fun t ht hW => ⟨⟨(-1), (), rfl, by refine ⟨?_, by omega, by omega⟩; unfold jMb; rw [if_pos (by exact Or.inr (by rw [← hqz_2]; omega))]; exact hkm1, hh.rt (M1 := []) [] rfl ht⟩, by rw [ht]; try exact hh.1.1, fun q h9 hq => by rw [ht]; try exact hh.1.2.1 q h9 hq⟩) hh.1.2.2 dX14_member_18
set_option maxHeartbeats 4000000 in
set_option maxRecDepth 20000 in
theorem uX14_lineOfN (l : Launch) (dC : Nat → ClassId) (dI : Nat → Nat → Nat) (ca : Nat → ClassId) (base : Nat) (B : jF) (hB : jBok B) (hAp : jAp (dC, dI)) (hB16 : ∀ n G a H, B 16 n G a H ↔ jOb (dC, dI) 16 74 (F16 n G) a H) (hB117 : ∀ n G a H, B 117 n G a H ↔ jAr (dC, dI) (ca 1) (fun j z => True) n a H) (hB118 : ∀ n G a H, B 118 n G a H ↔ jAr (dC, dI) (ca 1) (fun j z => -1 ≤ z.toInt ∧ z.toInt ≤ 3099) n a H) (hB119 : ∀ n G a H, B 119 n G a H ↔ jAr (dC, dI) (ca 1) (fun j z => z.toInt = -1 ∨ z.toInt = 0 ∨ ((j : Nat) < z.toInt ∧ z.toInt ≤ 3099)) n a H) (hB120 : ∀ n G a H, B 120 n G a H ↔ jAr (dC, dI) (ca 1) (fun j z => 0 ≤ z.toInt ∧ z.toInt ≤ 3300) n a H) (hB121 : ∀ n G a H, B 121 n G a H ↔ jAr (dC, dI) (ca 1) (fun j z => 0 ≤ z.toInt ∧ z.toInt ≤ 3300) n a H) (hB125 : ∀ n G a H, B 125 n G a H ↔ jAr (dC, dI) (ca 1) (fun j z => True) n a H) (hB127 : ∀ n G a H, B 127 n G a H ↔ jAr (dC, dI) (ca 1) (fun j z => True) n a H) (G0 : jT) (H0 : Heap) (r0 : Nat) (a1 : Int32) (zm : Nat) (xh : Nat) (xn : Nat) (xf : Nat) (xt : Nat) (xp : Nat) (ms : Nat → Int32) (mh : Nat → Int32) (mx : Nat → Int32) (mf : Nat → Int32) (mt : Nat → Int32) (mp : Nat → Int32) : Met l yX14_lineOf (jw yX14_lineOf cX14_lineOf 2 (some .int)) ({ frames := 6, cells := 0, slots := 0, locals := 189 }) (va_Pc [.ref r0, .int a1] (fun U => U.heap = H0 ∧ jX B base G0 [] H0 ∧ jG dC dI ca base U ∧ G0 r0 = some (16, 0) ∧ G0 zm = some (117, 3100) ∧ G0 xh = some (118, 3100) ∧ G0 xn = some (119, 3100) ∧ G0 xf = some (120, 3100) ∧ G0 xt = some (121, 3100) ∧ G0 xp = some (127, 3300) ∧ jP (dC, dI) G0 H0 [(r0, 16, 17, .ref zm), (r0, 16, 18, .ref xh), (r0, 16, 19, .ref xn), (r0, 16, 20, .ref xf), (r0, 16, 21, .ref xt), (r0, 16, 27, .ref xp)] ∧ jMc (dC, dI) G0 H0 [(zm, 117, 3100, ca 1, ms), (xh, 118, 3100, ca 1, mh), (xn, 119, 3100, ca 1, mx), (xf, 120, 3100, ca 1, mf), (xt, 121, 3100, ca 1, mt), (xp, 127, 3300, ca 1, mp)] ∧ 0 ≤ jMb ms mh mf mt mx mp (jChT "line") 4 a1.toInt ∧ a1.toInt ≤ 3099 ∧ jSo mx 0 = -1)) (va_Qi (S := Unit) (fun r u => (True)) (fun u t => jRt (dC, dI) B base G0 EX14_lineOfN H0 [] t.heap) (jA base)) 0 0 (jA base) := by
  refine Met.ofW (cc := cX14_lineOf) (maxL := 2) (ret := (some .int)) (by decide) rfl ?_
  intro p e s m args below meth c s₁ Bd hml hv
  obtain ⟨rfl, hH0, hX, hG, hg_r0, hg_zm, hg_xh, hg_xn, hg_xf, hg_xt, hg_xp, hP0, hM0, hp0, hp1, hp2⟩ := hv
  have hK := hG.1
  have hx := Bd.exec
  have hb := Bd.bytes
  have hr := Bd.returns
  have hts := atoms_spec (ws := (jw yX14_lineOf cX14_lineOf 2 (some .int))) Bd.pre
  have htw : ∀ w ∈ jWl, w.before _ s = true := fun w h => hts w (List.mem_cons_of_mem _ h)
  have hown : s.vm.findClass RX14 = some m.cls := findClass_of_methodNamed Bd.named
  have hlocks := Bd.notSynchronized
  obtain ⟨Q, hQ⟩ : ∃ Q, Q = MQ below (va_Qi (S := Unit) (fun r u => (True)) (fun u t => jRt (dC, dI) B base G0 EX14_lineOfN H0 [] t.heap) (jA base)) ([.ref r0, .int a1] : List Value).toArray s 0 0 (jA base) := ⟨_, rfl⟩
  rw [← hQ]
  have hl := lv_entry ([.ref r0, .int a1]) (n := 2) (Nat.le_of_ble_eq_true rfl)
  rw [lg_entry_eq]
  generalize (lg_sl ([.ref r0, .int a1]) ++ List.replicate (2 - (lg_sl ([.ref r0, .int a1])).length) Slot.unset).toArray = ls at hl ⊢
  have hl : lv_has ls 2 [(0, .ref r0), (1, .int a1)] := hl
  generalize hR : (headSpec (jw yX14_lineOf cX14_lineOf 2 (some .int)) ({ frames := 6, cells := 0, slots := 0, locals := 189 })).room = R
  subst hH0
  have hh : jSt (dC, dI) B base G0 G0 EX14_lineOfN s.heap 0 0 [(r0, 16, 17, .ref zm), (r0, 16, 18, .ref xh), (r0, 16, 19, .ref xn), (r0, 16, 20, .ref xf), (r0, 16, 21, .ref xt), (r0, 16, 27, .ref xp)] [(zm, 117, 3100, ca 1, ms), (xh, 118, 3100, ca 1, mh), (xn, 119, 3100, ca 1, mx), (xf, 120, 3100, ca 1, mf), (xt, 121, 3100, ca 1, mt), (xp, 127, 3300, ca 1, mp)] [] s.heap [] := jSt.start hX hP0 hM0 jIs.nil
  clear hX hP0
  have hk0 : (0 : Int32).toInt = 0 := by decide
  have hk1 : (1 : Int32).toInt = 1 := by decide
  have hly_16_25 := htw (u_lay RX14 TX14 25) (jWc_wsX140 _ (u_in_lay (by decide)))
  have hlk_62 := (htw (.fieldLink RX14 62 "ProofServerModel" "ints" "[I") (jWr_11 _ (List.mem_of_getElem? (i := 13) rfl)))
  obtain ⟨str544, rstr544, hstr5440⟩ := hG.strT (o := RX14) (k := 544) (tx := "line") (List.mem_of_getElem? (i := 2895) (by decide +kernel))
  have hTstr544 : jStrF base str544 4 (jChT "line") s s.heap := hstr5440.F (by decide +kernel)
  have hstr544 : jStr base str544 4 s s.heap := hTstr544.str
  have hrg_a1 := jb_rng a1
  refine lv_aload_n hx hb dX14_lineOf_0 rfl (lv_at hl 0 rfl) ?_
  obtain ⟨v_1, hv_1, hh_2⟩ := hh.pin (C := RX14) (T := TX14) (N := 74) hB16 rfl (by decide) hg_r0 (i := 25) (by decide) rfl
  clear hh
  obtain ⟨ints_3, rfl, hg_ints_3⟩ := hv_1
  refine j7_read hx hb hown hK (C := RX14) (T := TX14) (N := 74) rfl hly_16_25 hlk_62 (hh_2.at 0 rfl) dX14_lineOf_1 ?_
  refine lv_aload_n hx hb dX14_lineOf_4 rfl (lv_at hl 0 rfl) ?_
  refine lv_iload_n hx hb dX14_lineOf_5 rfl (lv_at hl 1 rfl) ?_
  refine j_ldcSw hx hb hown rstr544 dX14_lineOf_6 ?_
  refine va_calli (A0 := jA base) (H0 := s.heap) (va_runV (As := [.int a1, .ref str544]) (rest := [.ref ints_3]) ⟨hx, hb, hml, hown, hts⟩ (uX14_memberKN l dC dI ca base B hB hAp hB16 hB117 hB118 hB119 hB120 hB121 hB127 G0 s.heap r0 a1 str544 4 (jChT "line") zm xh xn xf xt xp ms mh mx mf mt mp) (cwV 2 hts (jgV (jWr_55 _ (List.mem_of_getElem? (i := 15) rfl)) (jWr_55 _ (List.mem_of_getElem? (i := 16) rfl)) (jWr_55 _ (List.mem_of_getElem? (i := 17) rfl)) (jWr_1 _ (List.mem_of_getElem? (i := 5) rfl)) (jWr_55 _ (List.mem_of_getElem? (i := 18) rfl))) rfl rfl rfl (by decide +kernel) ⟨by rw [← hR]; exact Nat.le_of_ble_eq_true rfl, by rw [← hR]; exact Nat.le_of_ble_eq_true rfl⟩) ⟨fun a U g mk q => by obtain ⟨q0, q1, q2, qK, q10, q11, q12, q13, q14, q15, q16, q17, q18, q19, q20⟩ := q; exact ⟨q0, q1, q2, jG.calling g mk a qK, (q10.moved (Vm.Alike.refl U.vm)), q11, q12, q13, q14, q15, q16, q17, q18, q19, q20⟩, hh_2.recv (C := RX14) (T := TX14) (N := 74) hB16 rfl (by decide) hg_r0 hK, fun U hU hW => ⟨rfl, hU, hh_2.2.1, hG.step hW hU hh_2.1, (hTstr544.moved hW.alike).kept hh_2.1.2.1, hg_r0, hg_zm, hg_xh, hg_xn, hg_xf, hg_xt, hg_xp, (hh_2.2.2.1.sub (L1 := [(r0, 16, 17, .ref zm), (r0, 16, 18, .ref xh), (r0, 16, 19, .ref xn), (r0, 16, 20, .ref xf), (r0, 16, 21, .ref xt), (r0, 16, 27, .ref xp)]) [1, 2, 3, 4, 5, 6] rfl), (hh_2.2.2.2.2.2.2.2.1.sub (L1 := [(zm, 117, 3100, ca 1, ms), (xh, 118, 3100, ca 1, mh), (xn, 119, 3100, ca 1, mx), (xf, 120, 3100, ca 1, mf), (xt, 121, 3100, ca 1, mt), (xp, 127, 3300, ca 1, mp)]) [0, 1, 2, 3, 4, 5] rfl), by first | omega | (refine ⟨?_, ?_, ?_⟩ <;> (first | omega | rfl | assumption | decide | exact Or.inl rfl | exact Or.inr rfl | (simp only; omega)))⟩⟩ rfl rfl hl.1 rfl (lv_room (Nat.le_of_ble_eq_true rfl)) dX14_lineOf_9 ⟨Nat.zero_le _, Nat.zero_le _⟩) hh_2.1 (fun q _ h => h) (fun q h => h) (fun r_5 u_4 t_4 H_4 locs_4 ht_4 hvm_4 hr_5 hb_4 hz_4 hk_4 hS_4 => ?_)
  rw [ht_4] at hb_4
  obtain ⟨hb_41, hb_42, hb_43, hb_44, hb_45⟩ := hb_4
  have hh_4 : jSt (dC, dI) B base G0 G0 EX14_lineOfN s.heap 0 0 [(r0, 16, 25, .ref ints_3), (r0, 16, 17, .ref zm), (r0, 16, 18, .ref xh), (r0, 16, 19, .ref xn), (r0, 16, 20, .ref xf), (r0, 16, 21, .ref xt), (r0, 16, 27, .ref xp)] [(zm, 117, 3100, ca 1, ms), (xh, 118, 3100, ca 1, mh), (xn, 119, 3100, ca 1, mx), (xf, 120, 3100, ca 1, mf), (xt, 121, 3100, ca 1, mt), (xp, 127, 3300, ca 1, mp)] [] H_4 locs_4 := ((hh_2.call hb_41 hb_42 hb_43 hb_44 hS_4 rfl (L1 := [(r0, 16, 25, .ref ints_3), (r0, 16, 17, .ref zm), (r0, 16, 18, .ref xh), (r0, 16, 19, .ref xn), (r0, 16, 20, .ref xf), (r0, 16, 21, .ref xt), (r0, 16, 27, .ref xp)]) [0, 1, 2, 3, 4, 5, 6] rfl rfl (M1 := [(zm, 117, 3100, ca 1, ms), (xh, 118, 3100, ca 1, mh), (xn, 119, 3100, ca 1, mx), (xf, 120, 3100, ca 1, mf), (xt, 121, 3100, ca 1, mt), (xp, 127, 3300, ca 1, mp)]) [0, 1, 2, 3, 4, 5] rfl rfl (I1 := []) [] rfl rfl).more hb_45)
  clear hh_2 ht_4 hvm_4 hz_4 hk_4 hS_4 hb_41 hb_42 hb_43 hb_44 hb_45
  obtain ⟨hr_5_0, hr_5_1, hr_5_2⟩ := hr_5
  refine j7_iald hx hb hK hh_4 hB125 1 rfl (by decide) hg_ints_3 (x := r_5.toInt) (rfl) (by omega) dX14_lineOf_12 (fun z_6 (hz_6 : True) => ?_)
  rw [hQ]
  exact W.iret (v := z_6) hx hb hr (fun t ht hW => ⟨⟨z_6, (), rfl, trivial, hh_4.rt (M1 := []) [] rfl ht⟩, by rw [ht]; try exact hh_4.1.1, fun q h9 hq => by rw [ht]; try exact hh_4.1.2.1 q h9 hq⟩) hh_4.1.2.2 dX14_lineOf_13
set_option maxHeartbeats 4000000 in
set_option maxRecDepth 20000 in
theorem uX14_characterOfN (l : Launch) (dC : Nat → ClassId) (dI : Nat → Nat → Nat) (ca : Nat → ClassId) (base : Nat) (B : jF) (hB : jBok B) (hAp : jAp (dC, dI)) (hB16 : ∀ n G a H, B 16 n G a H ↔ jOb (dC, dI) 16 74 (F16 n G) a H) (hB117 : ∀ n G a H, B 117 n G a H ↔ jAr (dC, dI) (ca 1) (fun j z => True) n a H) (hB118 : ∀ n G a H, B 118 n G a H ↔ jAr (dC, dI) (ca 1) (fun j z => -1 ≤ z.toInt ∧ z.toInt ≤ 3099) n a H) (hB119 : ∀ n G a H, B 119 n G a H ↔ jAr (dC, dI) (ca 1) (fun j z => z.toInt = -1 ∨ z.toInt = 0 ∨ ((j : Nat) < z.toInt ∧ z.toInt ≤ 3099)) n a H) (hB120 : ∀ n G a H, B 120 n G a H ↔ jAr (dC, dI) (ca 1) (fun j z => 0 ≤ z.toInt ∧ z.toInt ≤ 3300) n a H) (hB121 : ∀ n G a H, B 121 n G a H ↔ jAr (dC, dI) (ca 1) (fun j z => 0 ≤ z.toInt ∧ z.toInt ≤ 3300) n a H) (hB125 : ∀ n G a H, B 125 n G a H ↔ jAr (dC, dI) (ca 1) (fun j z => True) n a H) (hB127 : ∀ n G a H, B 127 n G a H ↔ jAr (dC, dI) (ca 1) (fun j z => True) n a H) (G0 : jT) (H0 : Heap) (r0 : Nat) (a1 : Int32) (zm : Nat) (xh : Nat) (xn : Nat) (xf : Nat) (xt : Nat) (xp : Nat) (ms : Nat → Int32) (mh : Nat → Int32) (mx : Nat → Int32) (mf : Nat → Int32) (mt : Nat → Int32) (mp : Nat → Int32) : Met l yX14_characterOf (jw yX14_characterOf cX14_characterOf 2 (some .int)) ({ frames := 6, cells := 0, slots := 0, locals := 189 }) (va_Pc [.ref r0, .int a1] (fun U => U.heap = H0 ∧ jX B base G0 [] H0 ∧ jG dC dI ca base U ∧ G0 r0 = some (16, 0) ∧ G0 zm = some (117, 3100) ∧ G0 xh = some (118, 3100) ∧ G0 xn = some (119, 3100) ∧ G0 xf = some (120, 3100) ∧ G0 xt = some (121, 3100) ∧ G0 xp = some (127, 3300) ∧ jP (dC, dI) G0 H0 [(r0, 16, 17, .ref zm), (r0, 16, 18, .ref xh), (r0, 16, 19, .ref xn), (r0, 16, 20, .ref xf), (r0, 16, 21, .ref xt), (r0, 16, 27, .ref xp)] ∧ jMc (dC, dI) G0 H0 [(zm, 117, 3100, ca 1, ms), (xh, 118, 3100, ca 1, mh), (xn, 119, 3100, ca 1, mx), (xf, 120, 3100, ca 1, mf), (xt, 121, 3100, ca 1, mt), (xp, 127, 3300, ca 1, mp)] ∧ 0 ≤ jMb ms mh mf mt mx mp (jChT "character") 9 a1.toInt ∧ a1.toInt ≤ 3099 ∧ jSo mx 0 = -1)) (va_Qi (S := Unit) (fun r u => (True)) (fun u t => jRt (dC, dI) B base G0 EX14_characterOfN H0 [] t.heap) (jA base)) 0 0 (jA base) := by
  refine Met.ofW (cc := cX14_characterOf) (maxL := 2) (ret := (some .int)) (by decide) rfl ?_
  intro p e s m args below meth c s₁ Bd hml hv
  obtain ⟨rfl, hH0, hX, hG, hg_r0, hg_zm, hg_xh, hg_xn, hg_xf, hg_xt, hg_xp, hP0, hM0, hp0, hp1, hp2⟩ := hv
  have hK := hG.1
  have hx := Bd.exec
  have hb := Bd.bytes
  have hr := Bd.returns
  have hts := atoms_spec (ws := (jw yX14_characterOf cX14_characterOf 2 (some .int))) Bd.pre
  have htw : ∀ w ∈ jWl, w.before _ s = true := fun w h => hts w (List.mem_cons_of_mem _ h)
  have hown : s.vm.findClass RX14 = some m.cls := findClass_of_methodNamed Bd.named
  have hlocks := Bd.notSynchronized
  obtain ⟨Q, hQ⟩ : ∃ Q, Q = MQ below (va_Qi (S := Unit) (fun r u => (True)) (fun u t => jRt (dC, dI) B base G0 EX14_characterOfN H0 [] t.heap) (jA base)) ([.ref r0, .int a1] : List Value).toArray s 0 0 (jA base) := ⟨_, rfl⟩
  rw [← hQ]
  have hl := lv_entry ([.ref r0, .int a1]) (n := 2) (Nat.le_of_ble_eq_true rfl)
  rw [lg_entry_eq]
  generalize (lg_sl ([.ref r0, .int a1]) ++ List.replicate (2 - (lg_sl ([.ref r0, .int a1])).length) Slot.unset).toArray = ls at hl ⊢
  have hl : lv_has ls 2 [(0, .ref r0), (1, .int a1)] := hl
  generalize hR : (headSpec (jw yX14_characterOf cX14_characterOf 2 (some .int)) ({ frames := 6, cells := 0, slots := 0, locals := 189 })).room = R
  subst hH0
  have hh : jSt (dC, dI) B base G0 G0 EX14_characterOfN s.heap 0 0 [(r0, 16, 17, .ref zm), (r0, 16, 18, .ref xh), (r0, 16, 19, .ref xn), (r0, 16, 20, .ref xf), (r0, 16, 21, .ref xt), (r0, 16, 27, .ref xp)] [(zm, 117, 3100, ca 1, ms), (xh, 118, 3100, ca 1, mh), (xn, 119, 3100, ca 1, mx), (xf, 120, 3100, ca 1, mf), (xt, 121, 3100, ca 1, mt), (xp, 127, 3300, ca 1, mp)] [] s.heap [] := jSt.start hX hP0 hM0 jIs.nil
  clear hX hP0
  have hk0 : (0 : Int32).toInt = 0 := by decide
  have hk1 : (1 : Int32).toInt = 1 := by decide
  have hly_16_25 := htw (u_lay RX14 TX14 25) (jWc_wsX140 _ (u_in_lay (by decide)))
  have hlk_62 := (htw (.fieldLink RX14 62 "ProofServerModel" "ints" "[I") (jWr_11 _ (List.mem_of_getElem? (i := 13) rfl)))
  obtain ⟨str546, rstr546, hstr5460⟩ := hG.strT (o := RX14) (k := 546) (tx := "character") (List.mem_of_getElem? (i := 2896) (by decide +kernel))
  have hTstr546 : jStrF base str546 9 (jChT "character") s s.heap := hstr5460.F (by decide +kernel)
  have hstr546 : jStr base str546 9 s s.heap := hTstr546.str
  have hrg_a1 := jb_rng a1
  refine lv_aload_n hx hb dX14_characterOf_0 rfl (lv_at hl 0 rfl) ?_
  obtain ⟨v_1, hv_1, hh_2⟩ := hh.pin (C := RX14) (T := TX14) (N := 74) hB16 rfl (by decide) hg_r0 (i := 25) (by decide) rfl
  clear hh
  obtain ⟨ints_3, rfl, hg_ints_3⟩ := hv_1
  refine j7_read hx hb hown hK (C := RX14) (T := TX14) (N := 74) rfl hly_16_25 hlk_62 (hh_2.at 0 rfl) dX14_characterOf_1 ?_
  refine lv_aload_n hx hb dX14_characterOf_4 rfl (lv_at hl 0 rfl) ?_
  refine lv_iload_n hx hb dX14_characterOf_5 rfl (lv_at hl 1 rfl) ?_
  refine j_ldcSw hx hb hown rstr546 dX14_characterOf_6 ?_
  refine va_calli (A0 := jA base) (H0 := s.heap) (va_runV (As := [.int a1, .ref str546]) (rest := [.ref ints_3]) ⟨hx, hb, hml, hown, hts⟩ (uX14_memberKN l dC dI ca base B hB hAp hB16 hB117 hB118 hB119 hB120 hB121 hB127 G0 s.heap r0 a1 str546 9 (jChT "character") zm xh xn xf xt xp ms mh mx mf mt mp) (cwV 2 hts (jgV (jWr_55 _ (List.mem_of_getElem? (i := 15) rfl)) (jWr_55 _ (List.mem_of_getElem? (i := 16) rfl)) (jWr_55 _ (List.mem_of_getElem? (i := 17) rfl)) (jWr_1 _ (List.mem_of_getElem? (i := 5) rfl)) (jWr_55 _ (List.mem_of_getElem? (i := 18) rfl))) rfl rfl rfl (by decide +kernel) ⟨by rw [← hR]; exact Nat.le_of_ble_eq_true rfl, by rw [← hR]; exact Nat.le_of_ble_eq_true rfl⟩) ⟨fun a U g mk q => by obtain ⟨q0, q1, q2, qK, q10, q11, q12, q13, q14, q15, q16, q17, q18, q19, q20⟩ := q; exact ⟨q0, q1, q2, jG.calling g mk a qK, (q10.moved (Vm.Alike.refl U.vm)), q11, q12, q13, q14, q15, q16, q17, q18, q19, q20⟩, hh_2.recv (C := RX14) (T := TX14) (N := 74) hB16 rfl (by decide) hg_r0 hK, fun U hU hW => ⟨rfl, hU, hh_2.2.1, hG.step hW hU hh_2.1, (hTstr546.moved hW.alike).kept hh_2.1.2.1, hg_r0, hg_zm, hg_xh, hg_xn, hg_xf, hg_xt, hg_xp, (hh_2.2.2.1.sub (L1 := [(r0, 16, 17, .ref zm), (r0, 16, 18, .ref xh), (r0, 16, 19, .ref xn), (r0, 16, 20, .ref xf), (r0, 16, 21, .ref xt), (r0, 16, 27, .ref xp)]) [1, 2, 3, 4, 5, 6] rfl), (hh_2.2.2.2.2.2.2.2.1.sub (L1 := [(zm, 117, 3100, ca 1, ms), (xh, 118, 3100, ca 1, mh), (xn, 119, 3100, ca 1, mx), (xf, 120, 3100, ca 1, mf), (xt, 121, 3100, ca 1, mt), (xp, 127, 3300, ca 1, mp)]) [0, 1, 2, 3, 4, 5] rfl), by first | omega | (refine ⟨?_, ?_, ?_⟩ <;> (first | omega | rfl | assumption | decide | exact Or.inl rfl | exact Or.inr rfl | (simp only; omega)))⟩⟩ rfl rfl hl.1 rfl (lv_room (Nat.le_of_ble_eq_true rfl)) dX14_characterOf_9 ⟨Nat.zero_le _, Nat.zero_le _⟩) hh_2.1 (fun q _ h => h) (fun q h => h) (fun r_5 u_4 t_4 H_4 locs_4 ht_4 hvm_4 hr_5 hb_4 hz_4 hk_4 hS_4 => ?_)
  rw [ht_4] at hb_4
  obtain ⟨hb_41, hb_42, hb_43, hb_44, hb_45⟩ := hb_4
  have hh_4 : jSt (dC, dI) B base G0 G0 EX14_characterOfN s.heap 0 0 [(r0, 16, 25, .ref ints_3), (r0, 16, 17, .ref zm), (r0, 16, 18, .ref xh), (r0, 16, 19, .ref xn), (r0, 16, 20, .ref xf), (r0, 16, 21, .ref xt), (r0, 16, 27, .ref xp)] [(zm, 117, 3100, ca 1, ms), (xh, 118, 3100, ca 1, mh), (xn, 119, 3100, ca 1, mx), (xf, 120, 3100, ca 1, mf), (xt, 121, 3100, ca 1, mt), (xp, 127, 3300, ca 1, mp)] [] H_4 locs_4 := ((hh_2.call hb_41 hb_42 hb_43 hb_44 hS_4 rfl (L1 := [(r0, 16, 25, .ref ints_3), (r0, 16, 17, .ref zm), (r0, 16, 18, .ref xh), (r0, 16, 19, .ref xn), (r0, 16, 20, .ref xf), (r0, 16, 21, .ref xt), (r0, 16, 27, .ref xp)]) [0, 1, 2, 3, 4, 5, 6] rfl rfl (M1 := [(zm, 117, 3100, ca 1, ms), (xh, 118, 3100, ca 1, mh), (xn, 119, 3100, ca 1, mx), (xf, 120, 3100, ca 1, mf), (xt, 121, 3100, ca 1, mt), (xp, 127, 3300, ca 1, mp)]) [0, 1, 2, 3, 4, 5] rfl rfl (I1 := []) [] rfl rfl).more hb_45)
  clear hh_2 ht_4 hvm_4 hz_4 hk_4 hS_4 hb_41 hb_42 hb_43 hb_44 hb_45
  obtain ⟨hr_5_0, hr_5_1, hr_5_2⟩ := hr_5
  refine j7_iald hx hb hK hh_4 hB125 1 rfl (by decide) hg_ints_3 (x := r_5.toInt) (rfl) (by omega) dX14_characterOf_12 (fun z_6 (hz_6 : True) => ?_)
  rw [hQ]
  exact W.iret (v := z_6) hx hb hr (fun t ht hW => ⟨⟨z_6, (), rfl, trivial, hh_4.rt (M1 := []) [] rfl ht⟩, by rw [ht]; try exact hh_4.1.1, fun q h9 hq => by rw [ht]; try exact hh_4.1.2.1 q h9 hq⟩) hh_4.1.2.2 dX14_characterOf_13
set_option maxHeartbeats 4000000 in
set_option maxRecDepth 20000 in
theorem uX14_isPositionN (l : Launch) (dC : Nat → ClassId) (dI : Nat → Nat → Nat) (ca : Nat → ClassId) (base : Nat) (B : jF) (hB : jBok B) (hAp : jAp (dC, dI)) (hB16 : ∀ n G a H, B 16 n G a H ↔ jOb (dC, dI) 16 74 (F16 n G) a H) (hB117 : ∀ n G a H, B 117 n G a H ↔ jAr (dC, dI) (ca 1) (fun j z => True) n a H) (hB118 : ∀ n G a H, B 118 n G a H ↔ jAr (dC, dI) (ca 1) (fun j z => -1 ≤ z.toInt ∧ z.toInt ≤ 3099) n a H) (hB119 : ∀ n G a H, B 119 n G a H ↔ jAr (dC, dI) (ca 1) (fun j z => z.toInt = -1 ∨ z.toInt = 0 ∨ ((j : Nat) < z.toInt ∧ z.toInt ≤ 3099)) n a H) (hB120 : ∀ n G a H, B 120 n G a H ↔ jAr (dC, dI) (ca 1) (fun j z => 0 ≤ z.toInt ∧ z.toInt ≤ 3300) n a H) (hB121 : ∀ n G a H, B 121 n G a H ↔ jAr (dC, dI) (ca 1) (fun j z => 0 ≤ z.toInt ∧ z.toInt ≤ 3300) n a H) (hB124 : ∀ n G a H, B 124 n G a H ↔ jAr (dC, dI) (ca 3) (fun j z => (z = 0 ∨ z = 1)) n a H) (hB125 : ∀ n G a H, B 125 n G a H ↔ jAr (dC, dI) (ca 1) (fun j z => True) n a H) (hB127 : ∀ n G a H, B 127 n G a H ↔ jAr (dC, dI) (ca 1) (fun j z => True) n a H) (G0 : jT) (H0 : Heap) (r0 : Nat) (a1 : Int32) (zm : Nat) (xh : Nat) (xn : Nat) (xf : Nat) (xt : Nat) (xp : Nat) (ms : Nat → Int32) (mh : Nat → Int32) (mx : Nat → Int32) (mf : Nat → Int32) (mt : Nat → Int32) (mp : Nat → Int32) : Met l yX14_isPosition (jw yX14_isPosition cX14_isPosition 4 (some .boolean)) ({ frames := 6, cells := 0, slots := 0, locals := 189 }) (va_Pc [.ref r0, .int a1] (fun U => U.heap = H0 ∧ jX B base G0 [] H0 ∧ jG dC dI ca base U ∧ G0 r0 = some (16, 0) ∧ G0 zm = some (117, 3100) ∧ G0 xh = some (118, 3100) ∧ G0 xn = some (119, 3100) ∧ G0 xf = some (120, 3100) ∧ G0 xt = some (121, 3100) ∧ G0 xp = some (127, 3300) ∧ jP (dC, dI) G0 H0 [(r0, 16, 17, .ref zm), (r0, 16, 18, .ref xh), (r0, 16, 19, .ref xn), (r0, 16, 20, .ref xf), (r0, 16, 21, .ref xt), (r0, 16, 27, .ref xp)] ∧ jMc (dC, dI) G0 H0 [(zm, 117, 3100, ca 1, ms), (xh, 118, 3100, ca 1, mh), (xn, 119, 3100, ca 1, mx), (xf, 120, 3100, ca 1, mf), (xt, 121, 3100, ca 1, mt), (xp, 127, 3300, ca 1, mp)] ∧ a1.toInt ≤ 3099 ∧ jSo mx 0 = -1)) (va_Qi (S := Unit) (fun r u => (r = 0 ∨ r = 1) ∧ (0 ≤ r.toInt ∧ r.toInt ≤ 1 ∧ (r.toInt = 1 → jPos ms mh mf mt mx mp a1.toInt))) (fun u t => jRt (dC, dI) B base G0 EX14_isPositionN H0 [] t.heap) (jA base)) 0 0 (jA base) := by
  refine Met.ofW (cc := cX14_isPosition) (maxL := 4) (ret := (some .boolean)) (by decide) rfl ?_
  intro p e s m args below meth c s₁ Bd hml hv
  obtain ⟨rfl, hH0, hX, hG, hg_r0, hg_zm, hg_xh, hg_xn, hg_xf, hg_xt, hg_xp, hP0, hM0, hp0, hp1⟩ := hv
  have hK := hG.1
  have hx := Bd.exec
  have hb := Bd.bytes
  have hr := Bd.returns
  have hts := atoms_spec (ws := (jw yX14_isPosition cX14_isPosition 4 (some .boolean))) Bd.pre
  have htw : ∀ w ∈ jWl, w.before _ s = true := fun w h => hts w (List.mem_cons_of_mem _ h)
  have hown : s.vm.findClass RX14 = some m.cls := findClass_of_methodNamed Bd.named
  have hlocks := Bd.notSynchronized
  obtain ⟨Q, hQ⟩ : ∃ Q, Q = MQ below (va_Qi (S := Unit) (fun r u => (r = 0 ∨ r = 1) ∧ (0 ≤ r.toInt ∧ r.toInt ≤ 1 ∧ (r.toInt = 1 → jPos ms mh mf mt mx mp a1.toInt))) (fun u t => jRt (dC, dI) B base G0 EX14_isPositionN H0 [] t.heap) (jA base)) ([.ref r0, .int a1] : List Value).toArray s 0 0 (jA base) := ⟨_, rfl⟩
  rw [← hQ]
  have hl := lv_entry ([.ref r0, .int a1]) (n := 4) (Nat.le_of_ble_eq_true rfl)
  rw [lg_entry_eq]
  generalize (lg_sl ([.ref r0, .int a1]) ++ List.replicate (4 - (lg_sl ([.ref r0, .int a1])).length) Slot.unset).toArray = ls at hl ⊢
  have hl : lv_has ls 4 [(0, .ref r0), (1, .int a1)] := hl
  generalize hR : (headSpec (jw yX14_isPosition cX14_isPosition 4 (some .boolean)) ({ frames := 6, cells := 0, slots := 0, locals := 189 })).room = R
  subst hH0
  have hh : jSt (dC, dI) B base G0 G0 EX14_isPositionN s.heap 0 0 [(r0, 16, 17, .ref zm), (r0, 16, 18, .ref xh), (r0, 16, 19, .ref xn), (r0, 16, 20, .ref xf), (r0, 16, 21, .ref xt), (r0, 16, 27, .ref xp)] [(zm, 117, 3100, ca 1, ms), (xh, 118, 3100, ca 1, mh), (xn, 119, 3100, ca 1, mx), (xf, 120, 3100, ca 1, mf), (xt, 121, 3100, ca 1, mt), (xp, 127, 3300, ca 1, mp)] [] s.heap [] := jSt.start hX hP0 hM0 jIs.nil
  clear hX hP0
  have hk0 : (0 : Int32).toInt = 0 := by decide
  have hk1 : (1 : Int32).toInt = 1 := by decide
  have hly_16_25 := htw (u_lay RX14 TX14 25) (jWc_wsX140 _ (u_in_lay (by decide)))
  obtain ⟨str544, rstr544, hstr5440⟩ := hG.strT (o := RX14) (k := 544) (tx := "line") (List.mem_of_getElem? (i := 2895) (by decide +kernel))
  have hTstr544 : jStrF base str544 4 (jChT "line") s s.heap := hstr5440.F (by decide +kernel)
  have hstr544 : jStr base str544 4 s s.heap := hTstr544.str
  obtain ⟨str546, rstr546, hstr5460⟩ := hG.strT (o := RX14) (k := 546) (tx := "character") (List.mem_of_getElem? (i := 2896) (by decide +kernel))
  have hTstr546 : jStrF base str546 9 (jChT "character") s s.heap := hstr5460.F (by decide +kernel)
  have hstr546 : jStr base str546 9 s s.heap := hTstr546.str
  have hlk_62 := (htw (.fieldLink RX14 62 "ProofServerModel" "ints" "[I") (jWr_11 _ (List.mem_of_getElem? (i := 13) rfl)))
  have hrg_a1 := jb_rng a1
  refine lv_aload_n hx hb dX14_isPosition_0 rfl (lv_at hl 0 rfl) ?_
  refine lv_iload_n hx hb dX14_isPosition_1 rfl (lv_at hl 1 rfl) ?_
  refine j_ldcSw hx hb hown rstr544 dX14_isPosition_2 ?_
  refine va_calli (A0 := jA base) (H0 := s.heap) (va_runV (As := [.int a1, .ref str544]) (rest := []) ⟨hx, hb, hml, hown, hts⟩ (uX14_memberKN l dC dI ca base B hB hAp hB16 hB117 hB118 hB119 hB120 hB121 hB127 G0 s.heap r0 a1 str544 4 (jChT "line") zm xh xn xf xt xp ms mh mx mf mt mp) (cwV 2 hts (jgV (jWr_55 _ (List.mem_of_getElem? (i := 15) rfl)) (jWr_55 _ (List.mem_of_getElem? (i := 16) rfl)) (jWr_55 _ (List.mem_of_getElem? (i := 17) rfl)) (jWr_1 _ (List.mem_of_getElem? (i := 5) rfl)) (jWr_55 _ (List.mem_of_getElem? (i := 18) rfl))) rfl rfl rfl (by decide +kernel) ⟨by rw [← hR]; exact Nat.le_of_ble_eq_true rfl, by rw [← hR]; exact Nat.le_of_ble_eq_true rfl⟩) ⟨fun a U g mk q => by obtain ⟨q0, q1, q2, qK, q10, q11, q12, q13, q14, q15, q16, q17, q18, q19, q20⟩ := q; exact ⟨q0, q1, q2, jG.calling g mk a qK, (q10.moved (Vm.Alike.refl U.vm)), q11, q12, q13, q14, q15, q16, q17, q18, q19, q20⟩, hh.recv (C := RX14) (T := TX14) (N := 74) hB16 rfl (by decide) hg_r0 hK, fun U hU hW => ⟨rfl, hU, hh.2.1, hG.step hW hU hh.1, (hTstr544.moved hW.alike).kept hh.1.2.1, hg_r0, hg_zm, hg_xh, hg_xn, hg_xf, hg_xt, hg_xp, (hh.2.2.1.sub (L1 := [(r0, 16, 17, .ref zm), (r0, 16, 18, .ref xh), (r0, 16, 19, .ref xn), (r0, 16, 20, .ref xf), (r0, 16, 21, .ref xt), (r0, 16, 27, .ref xp)]) [0, 1, 2, 3, 4, 5] rfl), (hh.2.2.2.2.2.2.2.1.sub (L1 := [(zm, 117, 3100, ca 1, ms), (xh, 118, 3100, ca 1, mh), (xn, 119, 3100, ca 1, mx), (xf, 120, 3100, ca 1, mf), (xt, 121, 3100, ca 1, mt), (xp, 127, 3300, ca 1, mp)]) [0, 1, 2, 3, 4, 5] rfl), by first | omega | (refine ⟨?_, ?_, ?_⟩ <;> (first | omega | rfl | assumption | decide | exact Or.inl rfl | exact Or.inr rfl | (simp only; omega)))⟩⟩ rfl rfl hl.1 rfl (lv_room (Nat.le_of_ble_eq_true rfl)) dX14_isPosition_5 ⟨Nat.zero_le _, Nat.zero_le _⟩) hh.1 (fun q _ h => h) (fun q h => h) (fun r_2 u_1 t_1 H_1 locs_1 ht_1 hvm_1 hr_2 hb_1 hz_1 hk_1 hS_1 => ?_)
  rw [ht_1] at hb_1
  obtain ⟨hb_11, hb_12, hb_13, hb_14, hb_15⟩ := hb_1
  have hh_1 : jSt (dC, dI) B base G0 G0 EX14_isPositionN s.heap 0 0 [(r0, 16, 17, .ref zm), (r0, 16, 18, .ref xh), (r0, 16, 19, .ref xn), (r0, 16, 20, .ref xf), (r0, 16, 21, .ref xt), (r0, 16, 27, .ref xp)] [(zm, 117, 3100, ca 1, ms), (xh, 118, 3100, ca 1, mh), (xn, 119, 3100, ca 1, mx), (xf, 120, 3100, ca 1, mf), (xt, 121, 3100, ca 1, mt), (xp, 127, 3300, ca 1, mp)] [] H_1 locs_1 := ((hh.call hb_11 hb_12 hb_13 hb_14 hS_1 rfl (L1 := [(r0, 16, 17, .ref zm), (r0, 16, 18, .ref xh), (r0, 16, 19, .ref xn), (r0, 16, 20, .ref xf), (r0, 16, 21, .ref xt), (r0, 16, 27, .ref xp)]) [0, 1, 2, 3, 4, 5] rfl rfl (M1 := [(zm, 117, 3100, ca 1, ms), (xh, 118, 3100, ca 1, mh), (xn, 119, 3100, ca 1, mx), (xf, 120, 3100, ca 1, mf), (xt, 121, 3100, ca 1, mt), (xp, 127, 3300, ca 1, mp)]) [0, 1, 2, 3, 4, 5] rfl rfl (I1 := []) [] rfl rfl).more hb_15)
  clear hh ht_1 hvm_1 hz_1 hk_1 hS_1 hb_11 hb_12 hb_13 hb_14 hb_15
  obtain ⟨hr_2_0, hr_2_1, hr_2_2⟩ := hr_2
  refine lv_istore_n (lv' := [(2, .int r_2), (0, .ref r0), (1, .int a1)]) hx hb dX14_isPosition_8 rfl hl (by decide) rfl (fun ls hl => ?_)
  refine lv_aload_n hx hb dX14_isPosition_9 rfl (lv_at hl 1 rfl) ?_
  refine lv_iload_n hx hb dX14_isPosition_10 rfl (lv_at hl 2 rfl) ?_
  refine j_ldcSw hx hb hown rstr546 dX14_isPosition_11 ?_
  refine va_calli (A0 := jA base) (H0 := s.heap) (va_runV (As := [.int a1, .ref str546]) (rest := []) ⟨hx, hb, hml, hown, hts⟩ (uX14_memberKN l dC dI ca base B hB hAp hB16 hB117 hB118 hB119 hB120 hB121 hB127 G0 H_1 r0 a1 str546 9 (jChT "character") zm xh xn xf xt xp ms mh mx mf mt mp) (cwV 2 hts (jgV (jWr_55 _ (List.mem_of_getElem? (i := 15) rfl)) (jWr_55 _ (List.mem_of_getElem? (i := 16) rfl)) (jWr_55 _ (List.mem_of_getElem? (i := 17) rfl)) (jWr_1 _ (List.mem_of_getElem? (i := 5) rfl)) (jWr_55 _ (List.mem_of_getElem? (i := 18) rfl))) rfl rfl rfl (by decide +kernel) ⟨by rw [← hR]; exact Nat.le_of_ble_eq_true rfl, by rw [← hR]; exact Nat.le_of_ble_eq_true rfl⟩) ⟨fun a U g mk q => by obtain ⟨q0, q1, q2, qK, q10, q11, q12, q13, q14, q15, q16, q17, q18, q19, q20⟩ := q; exact ⟨q0, q1, q2, jG.calling g mk a qK, (q10.moved (Vm.Alike.refl U.vm)), q11, q12, q13, q14, q15, q16, q17, q18, q19, q20⟩, hh_1.recv (C := RX14) (T := TX14) (N := 74) hB16 rfl (by decide) hg_r0 hK, fun U hU hW => ⟨rfl, hU, hh_1.2.1, hG.step hW hU hh_1.1, (hTstr546.moved hW.alike).kept hh_1.1.2.1, hg_r0, hg_zm, hg_xh, hg_xn, hg_xf, hg_xt, hg_xp, (hh_1.2.2.1.sub (L1 := [(r0, 16, 17, .ref zm), (r0, 16, 18, .ref xh), (r0, 16, 19, .ref xn), (r0, 16, 20, .ref xf), (r0, 16, 21, .ref xt), (r0, 16, 27, .ref xp)]) [0, 1, 2, 3, 4, 5] rfl), (hh_1.2.2.2.2.2.2.2.1.sub (L1 := [(zm, 117, 3100, ca 1, ms), (xh, 118, 3100, ca 1, mh), (xn, 119, 3100, ca 1, mx), (xf, 120, 3100, ca 1, mf), (xt, 121, 3100, ca 1, mt), (xp, 127, 3300, ca 1, mp)]) [0, 1, 2, 3, 4, 5] rfl), by first | omega | (refine ⟨?_, ?_, ?_⟩ <;> (first | omega | rfl | assumption | decide | exact Or.inl rfl | exact Or.inr rfl | (simp only; omega)))⟩⟩ rfl rfl hl.1 rfl (lv_room (Nat.le_of_ble_eq_true rfl)) dX14_isPosition_14 ⟨Nat.zero_le _, Nat.zero_le _⟩) hh_1.1 (fun q _ h => h) (fun q h => h) (fun r_4 u_3 t_3 H_3 locs_3 ht_3 hvm_3 hr_4 hb_3 hz_3 hk_3 hS_3 => ?_)
  rw [ht_3] at hb_3
  obtain ⟨hb_31, hb_32, hb_33, hb_34, hb_35⟩ := hb_3
  have hh_3 : jSt (dC, dI) B base G0 G0 EX14_isPositionN s.heap 0 0 [(r0, 16, 17, .ref zm), (r0, 16, 18, .ref xh), (r0, 16, 19, .ref xn), (r0, 16, 20, .ref xf), (r0, 16, 21, .ref xt), (r0, 16, 27, .ref xp)] [(zm, 117, 3100, ca 1, ms), (xh, 118, 3100, ca 1, mh), (xn, 119, 3100, ca 1, mx), (xf, 120, 3100, ca 1, mf), (xt, 121, 3100, ca 1, mt), (xp, 127, 3300, ca 1, mp)] [] H_3 locs_3 := ((hh_1.call hb_31 hb_32 hb_33 hb_34 hS_3 rfl (L1 := [(r0, 16, 17, .ref zm), (r0, 16, 18, .ref xh), (r0, 16, 19, .ref xn), (r0, 16, 20, .ref xf), (r0, 16, 21, .ref xt), (r0, 16, 27, .ref xp)]) [0, 1, 2, 3, 4, 5] rfl rfl (M1 := [(zm, 117, 3100, ca 1, ms), (xh, 118, 3100, ca 1, mh), (xn, 119, 3100, ca 1, mx), (xf, 120, 3100, ca 1, mf), (xt, 121, 3100, ca 1, mt), (xp, 127, 3300, ca 1, mp)]) [0, 1, 2, 3, 4, 5] rfl rfl (I1 := []) [] rfl rfl).more hb_35)
  clear hh_1 ht_3 hvm_3 hz_3 hk_3 hS_3 hb_31 hb_32 hb_33 hb_34 hb_35
  obtain ⟨hr_4_0, hr_4_1, hr_4_2⟩ := hr_4
  refine lv_istore_n (lv' := [(3, .int r_4), (2, .int r_2), (0, .ref r0), (1, .int a1)]) hx hb dX14_isPosition_17 rfl hl (by decide) rfl (fun ls hl => ?_)
  refine lv_aload_n hx hb dX14_isPosition_18 rfl (lv_at hl 2 rfl) ?_
  refine lv_iload_n hx hb dX14_isPosition_19 rfl (lv_at hl 1 rfl) ?_
  refine va_calli (A0 := jA base) (H0 := s.heap) (va_runV (As := [.int r_2]) (rest := []) ⟨hx, hb, hml, hown, hts⟩ (uX14_isWholeK l dC dI ca base B hB hAp hB16 hB117 hB124 G0 H_3 r0 r_2 zm ms) (cwV 1 hts (jgV (jWr_56 _ (List.mem_of_getElem? (i := 11) rfl)) (jWr_56 _ (List.mem_of_getElem? (i := 12) rfl)) (jWr_56 _ (List.mem_of_getElem? (i := 13) rfl)) (jWr_1 _ (List.mem_of_getElem? (i := 5) rfl)) (jWr_56 _ (List.mem_of_getElem? (i := 14) rfl))) rfl rfl rfl (by decide +kernel) ⟨by rw [← hR]; exact Nat.le_of_ble_eq_true rfl, by rw [← hR]; exact Nat.le_of_ble_eq_true rfl⟩) ⟨fun a U g mk q => by obtain ⟨q0, q1, q2, qK, q10, q11, q12, q13, q14⟩ := q; exact ⟨q0, q1, q2, jG.calling g mk a qK, q10, q11, q12, q13, q14⟩, hh_3.recv (C := RX14) (T := TX14) (N := 74) hB16 rfl (by decide) hg_r0 hK, fun U hU hW => ⟨rfl, hU, hh_3.2.1, hG.step hW hU hh_3.1, hg_r0, hg_zm, (hh_3.2.2.1.sub (L1 := [(r0, 16, 17, .ref zm)]) [0] rfl), (hh_3.2.2.2.2.2.2.2.1.sub (L1 := [(zm, 117, 3100, ca 1, ms)]) [0] rfl), by first | omega | rfl | assumption | decide | exact Or.inl rfl | exact Or.inr rfl | (simp only; omega)⟩⟩ rfl rfl hl.1 rfl (lv_room (Nat.le_of_ble_eq_true rfl)) dX14_isPosition_20 ⟨Nat.zero_le _, Nat.zero_le _⟩) hh_3.1 (fun q _ h => h) (fun q h => h) (fun r_6 u_5 t_5 H_5 locs_5 ht_5 hvm_5 hr_6 hb_5 hz_5 hk_5 hS_5 => ?_)
  rw [ht_5] at hb_5
  obtain ⟨hb_51, hb_52, hb_53, hb_54, hb_55⟩ := hb_5
  have hh_5 : jSt (dC, dI) B base G0 G0 EX14_isPositionN s.heap 0 0 [(r0, 16, 17, .ref zm), (r0, 16, 18, .ref xh), (r0, 16, 19, .ref xn), (r0, 16, 20, .ref xf), (r0, 16, 21, .ref xt), (r0, 16, 27, .ref xp)] [(zm, 117, 3100, ca 1, ms), (xh, 118, 3100, ca 1, mh), (xn, 119, 3100, ca 1, mx), (xf, 120, 3100, ca 1, mf), (xt, 121, 3100, ca 1, mt), (xp, 127, 3300, ca 1, mp)] [] H_5 locs_5 := ((hh_3.call hb_51 hb_52 hb_53 hb_54 hS_5 rfl (L1 := [(r0, 16, 17, .ref zm), (r0, 16, 18, .ref xh), (r0, 16, 19, .ref xn), (r0, 16, 20, .ref xf), (r0, 16, 21, .ref xt), (r0, 16, 27, .ref xp)]) [0, 1, 2, 3, 4, 5] rfl rfl (M1 := [(zm, 117, 3100, ca 1, ms), (xh, 118, 3100, ca 1, mh), (xn, 119, 3100, ca 1, mx), (xf, 120, 3100, ca 1, mf), (xt, 121, 3100, ca 1, mt), (xp, 127, 3300, ca 1, mp)]) [0, 1, 2, 3, 4, 5] rfl rfl (I1 := []) [] rfl rfl).more hb_55)
  clear hh_3 ht_5 hvm_5 hz_5 hk_5 hS_5 hb_51 hb_52 hb_53 hb_54 hb_55
  obtain ⟨hr_6b, hr_6p⟩ := hr_6
  obtain ⟨hr_6p_0, hr_6p_1, hr_6p_2⟩ := hr_6p
  have hr_6' := jb_01 hr_6b
  refine lv_if_eq (tgt := 56) hx hb dX14_isPosition_23 (by decide) (fun c_7 => ?_) (fun c_7 => ?_)
  · skip
    have c_7' : r_6.toInt = 0 := jb_eq (rfl) ((by decide)) c_7
    refine lv_iconst (v := 0) hx hb dX14_isPosition_56 (by decide) ?_
    rw [hQ]
    exact W.zret (v := 0) hx hb hr (jb_nz (Or.inl rfl)) (fun t ht hW => ⟨⟨0, (), rfl, ⟨(Or.inl rfl), by refine ⟨by omega, by omega, fun h9 => ?_⟩; omega⟩, hh_5.rt (M1 := []) [] rfl ht⟩, by rw [ht]; try exact hh_5.1.1, fun q h9 hq => by rw [ht]; try exact hh_5.1.2.1 q h9 hq⟩) hh_5.1.2.2 dX14_isPosition_57
  · skip
    have c_7' : r_6.toInt ≠ 0 := jb_eq_n (rfl) ((by decide)) c_7
    refine lv_aload_n hx hb dX14_isPosition_26 rfl (lv_at hl 2 rfl) ?_
    refine lv_iload_n hx hb dX14_isPosition_27 rfl (lv_at hl 0 rfl) ?_
    refine va_calli (A0 := jA base) (H0 := s.heap) (va_runV (As := [.int r_4]) (rest := []) ⟨hx, hb, hml, hown, hts⟩ (uX14_isWholeK l dC dI ca base B hB hAp hB16 hB117 hB124 G0 H_5 r0 r_4 zm ms) (cwV 1 hts (jgV (jWr_56 _ (List.mem_of_getElem? (i := 11) rfl)) (jWr_56 _ (List.mem_of_getElem? (i := 12) rfl)) (jWr_56 _ (List.mem_of_getElem? (i := 13) rfl)) (jWr_1 _ (List.mem_of_getElem? (i := 5) rfl)) (jWr_56 _ (List.mem_of_getElem? (i := 14) rfl))) rfl rfl rfl (by decide +kernel) ⟨by rw [← hR]; exact Nat.le_of_ble_eq_true rfl, by rw [← hR]; exact Nat.le_of_ble_eq_true rfl⟩) ⟨fun a U g mk q => by obtain ⟨q0, q1, q2, qK, q10, q11, q12, q13, q14⟩ := q; exact ⟨q0, q1, q2, jG.calling g mk a qK, q10, q11, q12, q13, q14⟩, hh_5.recv (C := RX14) (T := TX14) (N := 74) hB16 rfl (by decide) hg_r0 hK, fun U hU hW => ⟨rfl, hU, hh_5.2.1, hG.step hW hU hh_5.1, hg_r0, hg_zm, (hh_5.2.2.1.sub (L1 := [(r0, 16, 17, .ref zm)]) [0] rfl), (hh_5.2.2.2.2.2.2.2.1.sub (L1 := [(zm, 117, 3100, ca 1, ms)]) [0] rfl), by first | omega | rfl | assumption | decide | exact Or.inl rfl | exact Or.inr rfl | (simp only; omega)⟩⟩ rfl rfl hl.1 rfl (lv_room (Nat.le_of_ble_eq_true rfl)) dX14_isPosition_28 ⟨Nat.zero_le _, Nat.zero_le _⟩) hh_5.1 (fun q _ h => h) (fun q h => h) (fun r_9 u_8 t_8 H_8 locs_8 ht_8 hvm_8 hr_9 hb_8 hz_8 hk_8 hS_8 => ?_)
    rw [ht_8] at hb_8
    obtain ⟨hb_81, hb_82, hb_83, hb_84, hb_85⟩ := hb_8
    have hh_8 : jSt (dC, dI) B base G0 G0 EX14_isPositionN s.heap 0 0 [(r0, 16, 17, .ref zm), (r0, 16, 18, .ref xh), (r0, 16, 19, .ref xn), (r0, 16, 20, .ref xf), (r0, 16, 21, .ref xt), (r0, 16, 27, .ref xp)] [(zm, 117, 3100, ca 1, ms), (xh, 118, 3100, ca 1, mh), (xn, 119, 3100, ca 1, mx), (xf, 120, 3100, ca 1, mf), (xt, 121, 3100, ca 1, mt), (xp, 127, 3300, ca 1, mp)] [] H_8 locs_8 := ((hh_5.call hb_81 hb_82 hb_83 hb_84 hS_8 rfl (L1 := [(r0, 16, 17, .ref zm), (r0, 16, 18, .ref xh), (r0, 16, 19, .ref xn), (r0, 16, 20, .ref xf), (r0, 16, 21, .ref xt), (r0, 16, 27, .ref xp)]) [0, 1, 2, 3, 4, 5] rfl rfl (M1 := [(zm, 117, 3100, ca 1, ms), (xh, 118, 3100, ca 1, mh), (xn, 119, 3100, ca 1, mx), (xf, 120, 3100, ca 1, mf), (xt, 121, 3100, ca 1, mt), (xp, 127, 3300, ca 1, mp)]) [0, 1, 2, 3, 4, 5] rfl rfl (I1 := []) [] rfl rfl).more hb_85)
    clear hh_5 ht_8 hvm_8 hz_8 hk_8 hS_8 hb_81 hb_82 hb_83 hb_84 hb_85
    obtain ⟨hr_9b, hr_9p⟩ := hr_9
    obtain ⟨hr_9p_0, hr_9p_1, hr_9p_2⟩ := hr_9p
    have hr_9' := jb_01 hr_9b
    refine lv_if_eq (tgt := 56) hx hb dX14_isPosition_31 (by decide) (fun c_10 => ?_) (fun c_10 => ?_)
    · skip
      have c_10' : r_9.toInt = 0 := jb_eq (rfl) ((by decide)) c_10
      refine lv_iconst (v := 0) hx hb dX14_isPosition_56 (by decide) ?_
      rw [hQ]
      exact W.zret (v := 0) hx hb hr (jb_nz (Or.inl rfl)) (fun t ht hW => ⟨⟨0, (), rfl, ⟨(Or.inl rfl), by refine ⟨by omega, by omega, fun h9 => ?_⟩; omega⟩, hh_8.rt (M1 := []) [] rfl ht⟩, by rw [ht]; try exact hh_8.1.1, fun q h9 hq => by rw [ht]; try exact hh_8.1.2.1 q h9 hq⟩) hh_8.1.2.2 dX14_isPosition_57
    · skip
      have c_10' : r_9.toInt ≠ 0 := jb_eq_n (rfl) ((by decide)) c_10
      refine lv_aload_n hx hb dX14_isPosition_34 rfl (lv_at hl 2 rfl) ?_
      obtain ⟨v_11, hv_11, hh_12⟩ := hh_8.pin (C := RX14) (T := TX14) (N := 74) hB16 rfl (by decide) hg_r0 (i := 25) (by decide) rfl
      clear hh_8
      obtain ⟨ints_13, rfl, hg_ints_13⟩ := hv_11
      refine j7_read hx hb hown hK (C := RX14) (T := TX14) (N := 74) rfl hly_16_25 hlk_62 (hh_12.at 0 rfl) dX14_isPosition_35 ?_
      refine lv_iload_n hx hb dX14_isPosition_38 rfl (lv_at hl 1 rfl) ?_
      refine j7_iald hx hb hK hh_12 hB125 1 rfl (by decide) hg_ints_13 (x := r_2.toInt) (rfl) (by omega) dX14_isPosition_39 (fun z_14 (hz_14 : True) => ?_)
      refine lv_if_lt (tgt := 56) hx hb dX14_isPosition_40 (by decide) (fun c_15 => ?_) (fun c_15 => ?_)
      · skip
        have c_15' : z_14.toInt < 0 := jb_lt (rfl) ((by decide)) c_15
        refine lv_iconst (v := 0) hx hb dX14_isPosition_56 (by decide) ?_
        rw [hQ]
        exact W.zret (v := 0) hx hb hr (jb_nz (Or.inl rfl)) (fun t ht hW => ⟨⟨0, (), rfl, ⟨(Or.inl rfl), by refine ⟨by omega, by omega, fun h9 => ?_⟩; omega⟩, hh_12.rt (M1 := []) [] rfl ht⟩, by rw [ht]; try exact hh_12.1.1, fun q h9 hq => by rw [ht]; try exact hh_12.1.2.1 q h9 hq⟩) hh_12.1.2.2 dX14_isPosition_57
      · skip
        have c_15' : z_14.toInt ≥ 0 := jb_lt_n (rfl) ((by decide)) c_15
        refine lv_aload_n hx hb dX14_isPosition_43 rfl (lv_at hl 2 rfl) ?_
        refine j7_read hx hb hown hK (C := RX14) (T := TX14) (N := 74) rfl hly_16_25 hlk_62 (hh_12.at 0 rfl) dX14_isPosition_44 ?_
        refine lv_iload_n hx hb dX14_isPosition_47 rfl (lv_at hl 0 rfl) ?_
        refine j7_iald hx hb hK hh_12 hB125 1 rfl (by decide) hg_ints_13 (x := r_4.toInt) (rfl) (by omega) dX14_isPosition_48 (fun z_16 (hz_16 : True) => ?_)
        refine lv_if_lt (tgt := 56) hx hb dX14_isPosition_49 (by decide) (fun c_17 => ?_) (fun c_17 => ?_)
        · skip
          have c_17' : z_16.toInt < 0 := jb_lt (rfl) ((by decide)) c_17
          refine lv_iconst (v := 0) hx hb dX14_isPosition_56 (by decide) ?_
          rw [hQ]
          exact W.zret (v := 0) hx hb hr (jb_nz (Or.inl rfl)) (fun t ht hW => ⟨⟨0, (), rfl, ⟨(Or.inl rfl), by refine ⟨by omega, by omega, fun h9 => ?_⟩; omega⟩, hh_12.rt (M1 := []) [] rfl ht⟩, by rw [ht]; try exact hh_12.1.1, fun q h9 hq => by rw [ht]; try exact hh_12.1.2.1 q h9 hq⟩) hh_12.1.2.2 dX14_isPosition_57
        · skip
          have c_17' : z_16.toInt ≥ 0 := jb_lt_n (rfl) ((by decide)) c_17
          refine lv_iconst (v := 1) hx hb dX14_isPosition_52 (by decide) ?_
          refine lv_goto (tgt := 57) hx hb dX14_isPosition_53 (by decide) ?_
          rw [hQ]
          exact W.zret (v := 1) hx hb hr (jb_nz (Or.inr rfl)) (fun t ht hW => ⟨⟨1, (), rfl, ⟨(Or.inr rfl), by refine ⟨by omega, by omega, fun _ => ⟨?_, ?_⟩⟩; (have h8 := (hr_6p_2 (by omega)).1; omega); (have h8 := (hr_9p_2 (by omega)).1; omega)⟩, hh_12.rt (M1 := []) [] rfl ht⟩, by rw [ht]; try exact hh_12.1.1, fun q h9 hq => by rw [ht]; try exact hh_12.1.2.1 q h9 hq⟩) hh_12.1.2.2 dX14_isPosition_57
end
