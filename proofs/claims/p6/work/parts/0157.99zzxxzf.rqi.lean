section
def EX8_initI : List (Nat × Nat) := [(17, 0), (17, 1), (199, 0)]
set_option maxHeartbeats 4000000 in
set_option maxRecDepth 20000 in
theorem uX8_initI (l : Launch) (dC : Nat → ClassId) (dI : Nat → Nat → Nat) (ca : Nat → ClassId) (base : Nat) (B : jF) (hB : jBok B) (hAp : jAp (dC, dI)) (hB2 : ∀ n G a H, B 2 n G a H ↔ jOb (dC, dI) 2 2 (F2 n G) a H) (hB6 : ∀ n G a H, B 6 n G a H ↔ jOb (dC, dI) 6 12 (F6 n G) a H) (hB10 : ∀ n G a H, B 10 n G a H ↔ jOb (dC, dI) 10 5 (F10 n G) a H) (hB17 : ∀ n G a H, B 17 n G a H ↔ jOb (dC, dI) 17 2 (F17 n G) a H) (hB101 : ∀ n G a H, B 101 n G a H ↔ jAr (dC, dI) (ca 1) (fun j z => True) n a H) (hB140 : ∀ n G a H, B 140 n G a H ↔ jAr (dC, dI) (ca 1) (fun j z => True) n a H) (hB141 : ∀ n G a H, B 141 n G a H ↔ jAr (dC, dI) (ca 1) (fun j z => True) n a H) (hB142 : ∀ n G a H, B 142 n G a H ↔ jAr (dC, dI) (ca 1) (fun j z => True) n a H) (hB146 : ∀ n G a H, B 146 n G a H ↔ jAr (dC, dI) (ca 1) (fun j z => True) n a H) (hB174 : ∀ n G a H, B 174 n G a H ↔ jAr (dC, dI) (ca 1) (fun j z => True) n a H) (hB196 : ∀ n G a H, B 196 n G a H ↔ jAr (dC, dI) (ca 0) (fun j z => jBf j z) n a H) (hB199 : ∀ n G a H, B 199 n G a H ↔ jAr (dC, dI) (ca 0) (fun j z => jBf j z) n a H) (G0 : jT) (H0 : Heap) (r0 : Nat) (r1 : Nat) (a2 : Int32) (pv : Int32) (pu : Int32) (wk : Nat) (wi : Nat) (wz : Nat) (jnx : Nat) (jkf : Nat) (jks : Nat) (jun : Nat) (T9 : Nat → Int → Int) (qq : jRqG) (ib : Nat → List Int) (fk : Nat → Int32) (fi : Nat → Int32) (fz : Nat → Int32) (fn : Nat → Int32) (fa : Nat → Int32) (fs : Nat → Int32) (fu : Nat → Int32) (LC LS : Nat) : Met l yX8_init (jw yX8_init cX8_init 6 none) ({ frames := 6, cells := LC - H0.size, slots := LS - jTot H0, locals := 189 }) (va_Pc [.ref r0, .ref r1, .int a2] (fun U => U.heap = H0 ∧ jX B base G0 [] H0 ∧ jG dC dI ca base U ∧ G0 r1 = some (6, 0) ∧ va_at (dC, dI) vwCl (r0, .inr (10, [.null, .null, .int 0, .int 0, .int 0])) H0 ∧ (∀ t, G0 r0 ≠ some t) ∧ base ≤ r0 ∧ G0 wk = some (140, 1502) ∧ G0 wi = some (141, 1502) ∧ G0 wz = some (142, 1502) ∧ G0 jnx = some (143, 1502) ∧ G0 jkf = some (144, 1502) ∧ G0 jks = some (145, 1502) ∧ G0 jun = some (146, 3000) ∧ jP (dC, dI) G0 H0 [(r1, 6, 7, .int pv), (r1, 6, 8, .int pu), (r1, 6, 0, .ref wk), (r1, 6, 1, .ref wi), (r1, 6, 2, .ref wz), (r1, 6, 3, .ref jnx), (r1, 6, 4, .ref jkf), (r1, 6, 5, .ref jks), (r1, 6, 6, .ref jun)] ∧ jMc (dC, dI) G0 H0 [(wk, 140, 1502, ca 1, fk), (wi, 141, 1502, ca 1, fi), (wz, 142, 1502, ca 1, fz), (jnx, 143, 1502, ca 1, fn), (jkf, 144, 1502, ca 1, fa), (jks, 145, 1502, ca 1, fs), (jun, 146, 3000, ca 1, fu)] ∧ jIs (dC, dI) G0 H0 [(jFib, jIB dC dI ca G0 0 ib), (jFqd, jQD dC dI ca G0 none qq)] ∧ H0.size + 12 ≤ LC ∧ jTot H0 + 3300 ≤ LS ∧ 0 ≤ pv.toInt ∧ pv.toInt ≤ 1502 ∧ jJq fk fi fz pv.toInt ∧ 0 ≤ pu.toInt ∧ pu.toInt ≤ 3000 ∧ jjTC T9 pv.toInt pu.toInt fk fi fz fn fa fs fu ∧ jqR fk fi fz fa fs pv.toInt pu.toInt ∧ (jqK T9 pv.toInt a2.toInt = 3 → jpW (jwUn T9 pv.toInt a2.toInt (T9 3 a2.toInt).toNat 0)))) (va_Qv (S := jRqG × Value × (Nat → List Int) × jT) (fun u => u.1 = qq.put r0 0 u.2.1 .null ∧ jzRi ib u.2.2.1 H0.size u.2.1 (jqK T9 pv.toInt a2.toInt = 4 ∨ (jqK T9 pv.toInt a2.toInt = 3 ∧ jqZ T9 pv.toInt a2.toInt ≤ 20)) (jpI (jwId T9 pv.toInt a2.toInt))) (fun u t => jRa (dC, dI) B base G0 u.2.2.2 EX8_initI H0 (10) (262) [] t.heap ∧ (jNk [0, 1, 2, 3, 4, 5, 6, 7, 8, 9, 11, 12, 13, 14, 15, 16, 175]) G0 u.2.2.2 ∧ u.2.2.2 r0 = some (10, 0) ∧ jIs (dC, dI) u.2.2.2 t.heap [(jFib, jIB dC dI ca u.2.2.2 0 (u.2.2.1)), (jFqd, jQD dC dI ca u.2.2.2 none (u.1))]) (jA base)) (LC - H0.size) (LS - jTot H0) (jA base) := by
  refine Met.ofW (cc := cX8_init) (maxL := 6) (ret := none) (by decide) rfl ?_
  intro p e s m args below meth c s₁ Bd hml hv
  obtain ⟨rfl, hH0, hX, hG, hg_r1, hraw0, hnr0, hbr0, hg_wk, hg_wi, hg_wz, hg_jnx, hg_jkf, hg_jks, hg_jun, hP0, hM0, hI0, hLC0, hLS0, hp0, hp1, hp2, hp3, hp4, hp5, hp6, hp7⟩ := hv
  have hK := hG.1
  have hx := Bd.exec
  have hb := Bd.bytes
  have hr := Bd.returns
  have hts := atoms_spec (ws := (jw yX8_init cX8_init 6 none)) Bd.pre
  have htw : ∀ w ∈ jWl, w.before _ s = true := fun w h => hts w (List.mem_cons_of_mem _ h)
  have hown : s.vm.findClass RX8 = some m.cls := findClass_of_methodNamed Bd.named
  have hlocks := Bd.notSynchronized
  obtain ⟨Q, hQ⟩ : ∃ Q, Q = MQ below (va_Qv (S := jRqG × Value × (Nat → List Int) × jT) (fun u => u.1 = qq.put r0 0 u.2.1 .null ∧ jzRi ib u.2.2.1 H0.size u.2.1 (jqK T9 pv.toInt a2.toInt = 4 ∨ (jqK T9 pv.toInt a2.toInt = 3 ∧ jqZ T9 pv.toInt a2.toInt ≤ 20)) (jpI (jwId T9 pv.toInt a2.toInt))) (fun u t => jRa (dC, dI) B base G0 u.2.2.2 EX8_initI H0 (10) (262) [] t.heap ∧ (jNk [0, 1, 2, 3, 4, 5, 6, 7, 8, 9, 11, 12, 13, 14, 15, 16, 175]) G0 u.2.2.2 ∧ u.2.2.2 r0 = some (10, 0) ∧ jIs (dC, dI) u.2.2.2 t.heap [(jFib, jIB dC dI ca u.2.2.2 0 (u.2.2.1)), (jFqd, jQD dC dI ca u.2.2.2 none (u.1))]) (jA base)) ([.ref r0, .ref r1, .int a2] : List Value).toArray s (LC - H0.size) (LS - jTot H0) (jA base) := ⟨_, rfl⟩
  rw [← hQ]
  have hl := lv_entry ([.ref r0, .ref r1, .int a2]) (n := 6) (Nat.le_of_ble_eq_true rfl)
  rw [lg_entry_eq]
  generalize (lg_sl ([.ref r0, .ref r1, .int a2]) ++ List.replicate (6 - (lg_sl ([.ref r0, .ref r1, .int a2])).length) Slot.unset).toArray = ls at hl ⊢
  have hl : lv_has ls 6 [(0, .ref r0), (1, .ref r1), (2, .int a2)] := hl
  generalize hR : (headSpec (jw yX8_init cX8_init 6 none) ({ frames := 6, cells := LC - H0.size, slots := LS - jTot H0, locals := 189 })).room = R
  subst hH0
  have hh : jSt (dC, dI) B base G0 G0 EX8_initI s.heap 0 0 [(r1, 6, 7, .int pv), (r1, 6, 8, .int pu), (r1, 6, 0, .ref wk), (r1, 6, 1, .ref wi), (r1, 6, 2, .ref wz), (r1, 6, 3, .ref jnx), (r1, 6, 4, .ref jkf), (r1, 6, 5, .ref jks), (r1, 6, 6, .ref jun)] [(wk, 140, 1502, ca 1, fk), (wi, 141, 1502, ca 1, fi), (wz, 142, 1502, ca 1, fz), (jnx, 143, 1502, ca 1, fn), (jkf, 144, 1502, ca 1, fa), (jks, 145, 1502, ca 1, fs), (jun, 146, 3000, ca 1, fu)] [(jFib, jIB dC dI ca G0 0 ib), (jFqd, jQD dC dI ca G0 none qq)] s.heap [] := jSt.start hX hP0 hM0 hI0
  clear hX hP0
  have hkm1 : ((-1) : Int32).toInt = (-1) := by decide
  have hk0 : (0 : Int32).toInt = 0 := by decide
  have hk1 : (1 : Int32).toInt = 1 := by decide
  have hk3 : (3 : Int32).toInt = 3 := by decide
  have hk4 : (4 : Int32).toInt = 4 := by decide
  have hk16 : (16 : Int32).toInt = 16 := by decide
  have hk20 : (20 : Int32).toInt = 20 := by decide
  have hly_10_0 := htw (u_lay RX8 TX8 0) (jWc_wsX80 _ (u_in_lay (by decide)))
  have hly_10_4 := htw (u_lay RX8 TX8 4) (jWc_wsX80 _ (u_in_lay (by decide)))
  have hlk_9 := (htw (.fieldLink RX8 9 "ProofServer$Request" "name" "I") (jWr_24 _ (List.mem_of_getElem? (i := 2) rfl)))
  have hlk_29 := (htw (.fieldLink RX8 29 "ProofServer$Request" "id" "LProofServer$Bytes;") (jWr_24 _ (List.mem_of_getElem? (i := 4) rfl)))
  have hrg_a2 := jb_rng a2
  have hbs : base ≤ s.heap.size := Nat.le_of_lt (Nat.lt_of_le_of_lt hbr0 hraw0.lt)
  have hRc : R.cells = LC - s.heap.size := by rw [← hR]; rfl
  have hRs : R.slots = LS - jTot s.heap := by rw [← hR]; rfl
  have hJi0 := hh.iv 0 rfl
  have hab0 : ∀ {a : Nat} {t : Nat × Nat}, G0 a = some t → a < s.heap.size := fun ht => (hh.ab ht).2
  have hin2 : meth.name = "<init>" := (name_of_methodNamed Bd.named Bd.method).1
  refine lv_aload_n hx hb dX8_init_0 rfl (lv_at hl 0 rfl) ?_
  refine W.objInit hx hb hown (htw (.methodLink RX8 3 objectInit) (jWr_24 _ (List.mem_of_getElem? (i := 1) rfl))) (htw (.instanceMethod objectInit) (jWr_1 _ (List.mem_of_getElem? (i := 10) rfl))) (htw (.code objectInit ⟨#[0xb1]⟩ 1 none) (jWr_1 _ (List.mem_of_getElem? (i := 11) rfl))) rfl (by rw [hml]; exact hl.1) rfl dX8_init_1 (by rw [← hR]; exact Nat.le_of_ble_eq_true rfl) (by rw [← hR]; exact Nat.le_of_ble_eq_true rfl) ?_
  refine W.eq (g2 := F0 m 4 ls []) rfl ?_
  refine lv_aload_n hx hb dX8_init_4 rfl (lv_at hl 0 rfl) ?_
  refine lv_iconst (v := (-1)) hx hb dX8_init_5 (by decide) ?_
  refine j7_putR hx hb hown hK hh hB hAp hraw0 hnr0 hbr0 (C := RX8) (T := TX8) (N := 5) rfl (i := 4) (by decide) (Nat.le_of_ble_eq_true rfl) hly_10_4 rfl hlk_9 (ty := .int) (v := .int (-1)) (by decide +kernel) rfl rfl dX8_init_6 (fun H_1 locs_1 hraw_1 hr_1 hh_1 => ?_)
  have hraw_1 : va_at (dC, dI) vwCl (r0, .inr (10, [.null, .null, .int 0, .int 0, .int (-1)])) H_1 := hraw_1
  clear hh
  refine lv_aload_n hx hb dX8_init_9 rfl (lv_at hl 1 rfl) ?_
  refine lv_iload_n hx hb dX8_init_10 rfl (lv_at hl 2 rfl) ?_
  have hsz_2 := hh_1.2.2.2.2.2.1
  have htt_2 := hh_1.2.2.2.2.2.2.1
  refine W.room (fun hrc_2 hrs_2 => ?_)
  refine va_calli (A0 := jA base) (H0 := s.heap) (va_runV (As := [.int a2]) (rest := []) ⟨hx, hb, hml, hown, hts⟩ (uX4_kindOfJ l dC dI ca base B hB hAp hB6 hB140 G0 H_1 r1 a2 pv pu wk wi wz jnx jkf jks jun T9 fk fi fz fn fa fs fu) (cwV 1 hts (jgV (jWr_24 _ (List.mem_of_getElem? (i := 5) rfl)) (jWr_23 _ (List.mem_of_getElem? (i := 15) rfl)) (jWr_23 _ (List.mem_of_getElem? (i := 16) rfl)) (jWr_1 _ (List.mem_of_getElem? (i := 22) rfl)) (jWr_23 _ (List.mem_of_getElem? (i := 17) rfl))) rfl rfl rfl (by decide +kernel) ⟨by rw [← hR]; exact Nat.le_of_ble_eq_true rfl, by rw [← hR]; exact Nat.le_of_ble_eq_true rfl⟩) ⟨fun a U g mk q => by obtain ⟨q0, q1, q2, qK, q10, q11, q12, q13, q14, q15, q16, q17, q18, q19, q20⟩ := q; exact ⟨q0, q1, q2, jG.calling g mk a qK, q10, q11, q12, q13, q14, q15, q16, q17, q18, q19, q20⟩, hh_1.recv (C := RX4) (T := TX4) (N := 12) hB6 rfl (by decide) hg_r1 hK, fun U hU hW => ⟨rfl, hU, hh_1.2.1, hG.step hW hU hh_1.1, hg_r1, hg_wk, hg_wi, hg_wz, hg_jnx, hg_jkf, hg_jks, hg_jun, (hh_1.2.2.1.sub (L1 := [(r1, 6, 7, .int pv), (r1, 6, 8, .int pu), (r1, 6, 0, .ref wk), (r1, 6, 1, .ref wi), (r1, 6, 2, .ref wz), (r1, 6, 3, .ref jnx), (r1, 6, 4, .ref jkf), (r1, 6, 5, .ref jks), (r1, 6, 6, .ref jun)]) [0, 1, 2, 3, 4, 5, 6, 7, 8] rfl), (hh_1.2.2.2.2.2.2.2.1.sub (L1 := [(wk, 140, 1502, ca 1, fk), (wi, 141, 1502, ca 1, fi), (wz, 142, 1502, ca 1, fz), (jnx, 143, 1502, ca 1, fn), (jkf, 144, 1502, ca 1, fa), (jks, 145, 1502, ca 1, fs), (jun, 146, 3000, ca 1, fu)]) [0, 1, 2, 3, 4, 5, 6] rfl), by first | omega | (refine ⟨?_, ?_, ?_, ?_, ?_⟩ <;> (first | omega | rfl | assumption | decide | exact Or.inl rfl | exact Or.inr rfl | (simp only; omega)))⟩⟩ rfl rfl hl.1 rfl (lv_room (Nat.le_of_ble_eq_true rfl)) dX8_init_11 ⟨by rw [hRc]; show _ + 0 ≤ _; omega, by rw [hRs]; show _ + 0 ≤ _; omega⟩) hh_1.1 (fun q _ h => h) (fun q h => h) (fun r_3 u_2 t_2 H_2 locs_2 ht_2 hvm_2 hr_3 hb_2 hz_2 hk_2 hS_2 => ?_)
  rw [ht_2] at hb_2
  obtain ⟨hb_2, hbF_2⟩ := hb_2
  obtain ⟨hb_21, hb_22, hb_23, hb_24, hb_25⟩ := hb_2
  have hh_2 : jSt (dC, dI) B base G0 G0 EX8_initI s.heap 0 0 [(r1, 6, 7, .int pv), (r1, 6, 8, .int pu), (r1, 6, 0, .ref wk), (r1, 6, 1, .ref wi), (r1, 6, 2, .ref wz), (r1, 6, 3, .ref jnx), (r1, 6, 4, .ref jkf), (r1, 6, 5, .ref jks), (r1, 6, 6, .ref jun)] [(wk, 140, 1502, ca 1, fk), (wi, 141, 1502, ca 1, fi), (wz, 142, 1502, ca 1, fz), (jnx, 143, 1502, ca 1, fn), (jkf, 144, 1502, ca 1, fa), (jks, 145, 1502, ca 1, fs), (jun, 146, 3000, ca 1, fu)] [(jFib, jIB dC dI ca G0 0 ib), (jFqd, jQD dC dI ca G0 none qq)] H_2 locs_2 := ((hh_1.call hb_21 hb_22 hb_23 hb_24 hS_2 rfl (L1 := [(r1, 6, 7, .int pv), (r1, 6, 8, .int pu), (r1, 6, 0, .ref wk), (r1, 6, 1, .ref wi), (r1, 6, 2, .ref wz), (r1, 6, 3, .ref jnx), (r1, 6, 4, .ref jkf), (r1, 6, 5, .ref jks), (r1, 6, 6, .ref jun)]) [0, 1, 2, 3, 4, 5, 6, 7, 8] rfl rfl (M1 := [(wk, 140, 1502, ca 1, fk), (wi, 141, 1502, ca 1, fi), (wz, 142, 1502, ca 1, fz), (jnx, 143, 1502, ca 1, fn), (jkf, 144, 1502, ca 1, fa), (jks, 145, 1502, ca 1, fs), (jun, 146, 3000, ca 1, fu)]) [0, 1, 2, 3, 4, 5, 6] rfl rfl (I1 := [(jFib, jIB dC dI ca G0 0 ib), (jFqd, jQD dC dI ca G0 none qq)]) [0, 1] rfl rfl).more hb_25)
  clear hh_1 ht_2 hvm_2 hz_2 hk_2 hS_2 hb_21 hb_22 hb_23 hb_24 hb_25
  have hraw_4 := hraw_1.kept (hbF_2 _ (by simp))
  obtain ⟨hr_3_0, hr_3_1⟩ := hr_3
  have hk14 := hr_3_1
  refine lv_iconst (v := 4) hx hb dX8_init_14 (by decide) ?_
  refine lv_icmp_ne (tgt := 22) hx hb dX8_init_15 (by decide) (fun c_5 => ?_) (fun c_5 => ?_)
  · skip
    have c_5' : r_3.toInt ≠ 4 := jb_ne (rfl) ((by decide)) c_5
    try clear hr_3_0
    refine lv_iconst (v := 0) hx hb dX8_init_22 (by decide) ?_
    refine lv_istore_n (lv' := [(3, .int 0), (0, .ref r0), (1, .ref r1), (2, .int a2)]) hx hb dX8_init_23 rfl hl (by decide) rfl (fun ls hl => ?_)
    refine lv_aload_n hx hb dX8_init_24 rfl (lv_at hl 2 rfl) ?_
    refine lv_iload_n hx hb dX8_init_25 rfl (lv_at hl 3 rfl) ?_
    have hsz_6 := hh_2.2.2.2.2.2.1
    have htt_6 := hh_2.2.2.2.2.2.2.1
    refine W.room (fun hrc_6 hrs_6 => ?_)
    refine va_calli (A0 := jA base) (H0 := s.heap) (va_runV (As := [.int a2]) (rest := []) ⟨hx, hb, hml, hown, hts⟩ (uX4_kindOfJ l dC dI ca base B hB hAp hB6 hB140 G0 H_2 r1 a2 pv pu wk wi wz jnx jkf jks jun T9 fk fi fz fn fa fs fu) (cwV 1 hts (jgV (jWr_24 _ (List.mem_of_getElem? (i := 5) rfl)) (jWr_23 _ (List.mem_of_getElem? (i := 15) rfl)) (jWr_23 _ (List.mem_of_getElem? (i := 16) rfl)) (jWr_1 _ (List.mem_of_getElem? (i := 22) rfl)) (jWr_23 _ (List.mem_of_getElem? (i := 17) rfl))) rfl rfl rfl (by decide +kernel) ⟨by rw [← hR]; exact Nat.le_of_ble_eq_true rfl, by rw [← hR]; exact Nat.le_of_ble_eq_true rfl⟩) ⟨fun a U g mk q => by obtain ⟨q0, q1, q2, qK, q10, q11, q12, q13, q14, q15, q16, q17, q18, q19, q20⟩ := q; exact ⟨q0, q1, q2, jG.calling g mk a qK, q10, q11, q12, q13, q14, q15, q16, q17, q18, q19, q20⟩, hh_2.recv (C := RX4) (T := TX4) (N := 12) hB6 rfl (by decide) hg_r1 hK, fun U hU hW => ⟨rfl, hU, hh_2.2.1, hG.step hW hU hh_2.1, hg_r1, hg_wk, hg_wi, hg_wz, hg_jnx, hg_jkf, hg_jks, hg_jun, (hh_2.2.2.1.sub (L1 := [(r1, 6, 7, .int pv), (r1, 6, 8, .int pu), (r1, 6, 0, .ref wk), (r1, 6, 1, .ref wi), (r1, 6, 2, .ref wz), (r1, 6, 3, .ref jnx), (r1, 6, 4, .ref jkf), (r1, 6, 5, .ref jks), (r1, 6, 6, .ref jun)]) [0, 1, 2, 3, 4, 5, 6, 7, 8] rfl), (hh_2.2.2.2.2.2.2.2.1.sub (L1 := [(wk, 140, 1502, ca 1, fk), (wi, 141, 1502, ca 1, fi), (wz, 142, 1502, ca 1, fz), (jnx, 143, 1502, ca 1, fn), (jkf, 144, 1502, ca 1, fa), (jks, 145, 1502, ca 1, fs), (jun, 146, 3000, ca 1, fu)]) [0, 1, 2, 3, 4, 5, 6] rfl), by first | omega | (refine ⟨?_, ?_, ?_, ?_, ?_⟩ <;> (first | omega | rfl | assumption | decide | exact Or.inl rfl | exact Or.inr rfl | (simp only; omega)))⟩⟩ rfl rfl hl.1 rfl (lv_room (Nat.le_of_ble_eq_true rfl)) dX8_init_26 ⟨by rw [hRc]; show _ + 0 ≤ _; omega, by rw [hRs]; show _ + 0 ≤ _; omega⟩) hh_2.1 (fun q _ h => h) (fun q h => h) (fun r_7 u_6 t_6 H_6 locs_6 ht_6 hvm_6 hr_7 hb_6 hz_6 hk_6 hS_6 => ?_)
    rw [ht_6] at hb_6
    obtain ⟨hb_6, hbF_6⟩ := hb_6
    obtain ⟨hb_61, hb_62, hb_63, hb_64, hb_65⟩ := hb_6
    have hh_6 : jSt (dC, dI) B base G0 G0 EX8_initI s.heap 0 0 [(r1, 6, 7, .int pv), (r1, 6, 8, .int pu), (r1, 6, 0, .ref wk), (r1, 6, 1, .ref wi), (r1, 6, 2, .ref wz), (r1, 6, 3, .ref jnx), (r1, 6, 4, .ref jkf), (r1, 6, 5, .ref jks), (r1, 6, 6, .ref jun)] [(wk, 140, 1502, ca 1, fk), (wi, 141, 1502, ca 1, fi), (wz, 142, 1502, ca 1, fz), (jnx, 143, 1502, ca 1, fn), (jkf, 144, 1502, ca 1, fa), (jks, 145, 1502, ca 1, fs), (jun, 146, 3000, ca 1, fu)] [(jFib, jIB dC dI ca G0 0 ib), (jFqd, jQD dC dI ca G0 none qq)] H_6 locs_6 := ((hh_2.call hb_61 hb_62 hb_63 hb_64 hS_6 rfl (L1 := [(r1, 6, 7, .int pv), (r1, 6, 8, .int pu), (r1, 6, 0, .ref wk), (r1, 6, 1, .ref wi), (r1, 6, 2, .ref wz), (r1, 6, 3, .ref jnx), (r1, 6, 4, .ref jkf), (r1, 6, 5, .ref jks), (r1, 6, 6, .ref jun)]) [0, 1, 2, 3, 4, 5, 6, 7, 8] rfl rfl (M1 := [(wk, 140, 1502, ca 1, fk), (wi, 141, 1502, ca 1, fi), (wz, 142, 1502, ca 1, fz), (jnx, 143, 1502, ca 1, fn), (jkf, 144, 1502, ca 1, fa), (jks, 145, 1502, ca 1, fs), (jun, 146, 3000, ca 1, fu)]) [0, 1, 2, 3, 4, 5, 6] rfl rfl (I1 := [(jFib, jIB dC dI ca G0 0 ib), (jFqd, jQD dC dI ca G0 none qq)]) [0, 1] rfl rfl).more hb_65)
    clear hh_2 ht_6 hvm_6 hz_6 hk_6 hS_6 hb_61 hb_62 hb_63 hb_64 hb_65
    have hraw_8 := hraw_4.kept (hbF_6 _ (by simp))
    obtain ⟨hr_7_0, hr_7_1⟩ := hr_7
    have hk26 := hr_7_1
    refine lv_iconst (v := 3) hx hb dX8_init_29 (by decide) ?_
    refine lv_icmp_ne (tgt := 47) hx hb dX8_init_30 (by decide) (fun c_9 => ?_) (fun c_9 => ?_)
    · skip
      have c_9' : r_7.toInt ≠ 3 := jb_ne (rfl) ((by decide)) c_9
      try clear hr_7_0
      refine lv_iconst (v := 0) hx hb dX8_init_47 (by decide) ?_
      refine lv_istore (lv' := [(4, .int 0), (3, .int 0), (0, .ref r0), (1, .ref r1), (2, .int a2)]) hx hb dX8_init_48 hl (by decide) rfl (fun ls hl => ?_)
      refine lv_aload_n hx hb dX8_init_50 rfl (lv_at hl 2 rfl) ?_
      refine lv_iload_n hx hb dX8_init_51 rfl (lv_at hl 1 rfl) ?_
      refine lv_if_ne (tgt := 60) hx hb dX8_init_52 (by decide) (fun c_10 => ?_) (fun c_10 => ?_)
      · skip
        exact absurd c_10 (by decide)
      · skip
        refine lv_iload hx hb dX8_init_55 (lv_at hl 0 rfl) ?_
        refine lv_if_eq (tgt := 72) hx hb dX8_init_57 (by decide) (fun c_11 => ?_) (fun c_11 => ?_)
        · skip
          refine lv_null hx hb dX8_init_72 ?_
          refine j7_putRF hx hb hown hK hh_6 hB hAp hraw_8 hnr0 hbr0 (C := RX8) (T := TX8) (N := 5) rfl (i := 0) (by decide) (Nat.le_of_ble_eq_true rfl) hly_10_0 rfl hin2 rfl hlk_29 (ty := (.object "ProofServer$Bytes")) (v := .null) (by decide +kernel) rfl rfl dX8_init_73 (fun H_12 locs_12 hraw_12 hr_12 hh_12 => ?_)
          have hraw_12 : va_at (dC, dI) vwCl (r0, .inr (10, [.null, .null, .int 0, .int 0, .int (-1)])) H_12 := hraw_12
          clear hh_6
          have hd_13 := jQD.typ (ca := ca) (n := 0) (hh_12.iv 1 rfl) hnr0 (jf.raw (C := RX8) (T := TX8) (N := 5) rfl hraw_12 (i := 2) (by decide)) (jf.raw (C := RX8) (T := TX8) (N := 5) rfl hraw_12 (i := 0) (by decide)) (jf.raw (C := RX8) (T := TX8) (N := 5) rfl hraw_12 (i := 1) (by decide))
          have hh_14 := hh_12.sub (L1 := [(r1, 6, 7, .int pv), (r1, 6, 8, .int pu), (r1, 6, 0, .ref wk), (r1, 6, 1, .ref wi), (r1, 6, 2, .ref wz), (r1, 6, 3, .ref jnx), (r1, 6, 4, .ref jkf), (r1, 6, 5, .ref jks), (r1, 6, 6, .ref jun)]) [0, 1, 2, 3, 4, 5, 6, 7, 8] rfl (M1 := [(wk, 140, 1502, ca 1, fk), (wi, 141, 1502, ca 1, fi), (wz, 142, 1502, ca 1, fz), (jnx, 143, 1502, ca 1, fn), (jkf, 144, 1502, ca 1, fa), (jks, 145, 1502, ca 1, fs), (jun, 146, 3000, ca 1, fu)]) [0, 1, 2, 3, 4, 5, 6] rfl (I1 := [(jFib, jIB dC dI ca G0 0 ib)]) [0] rfl
          clear hh_12
          have hle_15 : jLe G0 (va_up G0 r0 (some (10, 0))) := jLe.typ hnr0
          have hg_16 := hle_15 _ _ hg_r1
          have hg_17 := hle_15 _ _ hg_wk
          have hg_18 := hle_15 _ _ hg_wi
          have hg_19 := hle_15 _ _ hg_wz
          have hg_20 := hle_15 _ _ hg_jnx
          have hg_21 := hle_15 _ _ hg_jkf
          have hg_22 := hle_15 _ _ hg_jks
          have hg_23 := hle_15 _ _ hg_jun
          have hfa_15 : jRn (va_up G0 r0 (some (10, 0))) 17 0 (.null) ∧ jRn (va_up G0 r0 (some (10, 0))) 3 0 (.null) ∧ jIa (.int 0) ∧ jZb (.int 0) ∧ jIa (.int (-1)) ∧ True := ⟨Or.inl rfl, Or.inl rfl, ⟨_, rfl⟩, ⟨_, rfl, Or.inl rfl⟩, ⟨_, rfl⟩, trivial⟩
          have hh_15 := hh_14.typ (k := 10) (n := 0) hB hnr0 hbr0 hraw_12.lt (jOb.of (C := RX8) (T := TX8) (N := 5) (F := F10) hB10 rfl hraw_12 (show jFx (F10 0 (va_up G0 r0 (some (10, 0)))) [.null, .null, .int 0, .int 0, .int (-1)] from hfa_15))
          have hgn_15 : (va_up G0 r0 (some (10, 0))) r0 = some (10, 0) := jUp_self
          have hN_15 : (jNk [0, 1, 2, 3, 4, 5, 6, 7, 8, 9, 11, 12, 13, 14, 15, 16, 175]) G0 (va_up G0 r0 (some (10, 0))) := jNk.new (by decide)
          have hNn_15 : (jNk [0, 1, 2, 3, 4, 5, 6, 7, 8, 9, 11, 12, 13, 14, 15, 16, 175]) G0 (va_up G0 r0 (some (10, 0))) := (jNk.rf).tr hN_15
          have hh_24 := hh_15.addI (jQD.ie (ca := ca) hd_13)
          clear hh_15
          have hh_25 := hh_24.more (P1 := [(r0, 10, 0, .null), (r0, 10, 1, .null), (r0, 10, 2, .int 0), (r0, 10, 3, .int 0), (r0, 10, 4, .int (-1))]) (jP.cons hgn_15 (jf.raw (C := RX8) (T := TX8) (N := 5) rfl hraw_12 (i := 0) (by decide)) (jP.cons hgn_15 (jf.raw (C := RX8) (T := TX8) (N := 5) rfl hraw_12 (i := 1) (by decide)) (jP.cons hgn_15 (jf.raw (C := RX8) (T := TX8) (N := 5) rfl hraw_12 (i := 2) (by decide)) (jP.cons hgn_15 (jf.raw (C := RX8) (T := TX8) (N := 5) rfl hraw_12 (i := 3) (by decide)) (jP.cons hgn_15 (jf.raw (C := RX8) (T := TX8) (N := 5) rfl hraw_12 (i := 4) (by decide)) jP.nil)))))
          have hM_15 : jNk [1, 2, 11] G0 (va_up G0 r0 (some (10, 0))) := jNk.new (by decide)
          have hW_15 : jNk [0, 1, 2, 3, 4, 5, 6, 7, 8, 9, 11, 12, 13, 14, 15, 16, 17, 175] G0 (va_up G0 r0 (some (10, 0))) := jNk.new (by decide)
          have hd_27 := jIB.grow (r := 0) (hh_25.iv 1 rfl) hle_15 hW_15 (by decide)
          have hh_28 := hh_25.sub (L1 := [(r0, 10, 0, .null), (r0, 10, 1, .null), (r0, 10, 2, .int 0), (r0, 10, 3, .int 0), (r0, 10, 4, .int (-1)), (r1, 6, 7, .int pv), (r1, 6, 8, .int pu), (r1, 6, 0, .ref wk), (r1, 6, 1, .ref wi), (r1, 6, 2, .ref wz), (r1, 6, 3, .ref jnx), (r1, 6, 4, .ref jkf), (r1, 6, 5, .ref jks), (r1, 6, 6, .ref jun)]) [0, 1, 2, 3, 4, 5, 6, 7, 8, 9, 10, 11, 12, 13] rfl (M1 := [(wk, 140, 1502, ca 1, fk), (wi, 141, 1502, ca 1, fi), (wz, 142, 1502, ca 1, fz), (jnx, 143, 1502, ca 1, fn), (jkf, 144, 1502, ca 1, fa), (jks, 145, 1502, ca 1, fs), (jun, 146, 3000, ca 1, fu)]) [0, 1, 2, 3, 4, 5, 6] rfl (I1 := [(jFqd, jQD dC dI ca (va_up G0 r0 (some (10, 0))) none (qq.put r0 0 .null .null))]) [0] rfl
          clear hh_25
          have hh_29 := hh_28.addI (jIB.ie hd_27)
          clear hh_28
          refine lv_iload_n hx hb dX8_init_76 rfl (lv_at hl 1 rfl) ?_
          refine lv_if_eq (tgt := 95) hx hb dX8_init_77 (by decide) (fun c_30 => ?_) (fun c_30 => ?_)
          · skip
            refine lv_iload hx hb dX8_init_95 (lv_at hl 0 rfl) ?_
            refine lv_if_eq (tgt := 120) hx hb dX8_init_97 (by decide) (fun c_31 => ?_) (fun c_31 => ?_)
            · skip
              have hsz_32 := hh_29.2.2.2.2.2.1
              have htt_32 := hh_29.2.2.2.2.2.2.1
              refine W.room (fun hrc_32 hrs_32 => ?_)
              refine W.widen (k := LC - s.heap.size) (n := LS - jTot s.heap) (by omega) (by omega) ?_
              rw [hQ]
              exact W.vret hx hb hr (fun t ht hW => ⟨⟨((qq.put r0 0 .null .null), .null, ib, (va_up G0 r0 (some (10, 0)))), rfl, by skip; (try dsimp only); exact ⟨rfl, jzRi.no (fun q => by have h9 := hk14; have h8 := hk26; omega)⟩, ⟨hh_29.ra (by first | (simp only; omega) | omega) (by first | (simp only; omega) | omega) (M1 := []) [] rfl ht, hNn_15, hgn_15, by rw [ht]; exact hh_29.2.2.2.2.2.2.2.2.sub (L1 := [(jFib, jIB dC dI ca (va_up G0 r0 (some (10, 0))) 0 ib), (jFqd, jQD dC dI ca (va_up G0 r0 (some (10, 0))) none (qq.put r0 0 .null .null))]) [0, 1] rfl⟩⟩, by rw [ht]; try exact hh_29.1.1, fun q h9 hq => by rw [ht]; try exact hh_29.1.2.1 q h9 hq⟩) hh_29.1.2.2 dX8_init_120
            · skip
              exact absurd c_31 (by decide)
          · skip
            exact absurd c_30 (by decide)
        · skip
          exact absurd c_11 (by decide)
    · skip
      have c_9' : r_7.toInt = 3 := jb_ne_n (rfl) ((by decide)) c_9
      first | (have hr_7_0q := hr_7_0.resolve_left (by omega); clear hr_7_0) | (have hr_7_0q := hr_7_0.resolve_right (by omega); clear hr_7_0) | try clear hr_7_0
      refine lv_aload_n hx hb dX8_init_33 rfl (lv_at hl 2 rfl) ?_
      refine lv_iload_n hx hb dX8_init_34 rfl (lv_at hl 3 rfl) ?_
      have hsz_33 := hh_6.2.2.2.2.2.1
      have htt_33 := hh_6.2.2.2.2.2.2.1
      refine W.room (fun hrc_33 hrs_33 => ?_)
      refine va_calli (A0 := jA base) (H0 := s.heap) (va_runV (As := [.int a2]) (rest := []) ⟨hx, hb, hml, hown, hts⟩ (uX4_sizeOfJ l dC dI ca base B hB hAp hB6 hB142 G0 H_6 r1 a2 pv pu wk wi wz jnx jkf jks jun T9 fk fi fz fn fa fs fu) (cwV 1 hts (jgV (jWr_24 _ (List.mem_of_getElem? (i := 6) rfl)) (jWr_24 _ (List.mem_of_getElem? (i := 7) rfl)) (jWr_24 _ (List.mem_of_getElem? (i := 8) rfl)) (jWr_1 _ (List.mem_of_getElem? (i := 22) rfl)) (jWr_24 _ (List.mem_of_getElem? (i := 9) rfl))) rfl rfl rfl (by decide +kernel) ⟨by rw [← hR]; exact Nat.le_of_ble_eq_true rfl, by rw [← hR]; exact Nat.le_of_ble_eq_true rfl⟩) ⟨fun a U g mk q => by obtain ⟨q0, q1, q2, qK, q10, q11, q12, q13, q14, q15, q16, q17, q18, q19, q20⟩ := q; exact ⟨q0, q1, q2, jG.calling g mk a qK, q10, q11, q12, q13, q14, q15, q16, q17, q18, q19, q20⟩, hh_6.recv (C := RX4) (T := TX4) (N := 12) hB6 rfl (by decide) hg_r1 hK, fun U hU hW => ⟨rfl, hU, hh_6.2.1, hG.step hW hU hh_6.1, hg_r1, hg_wk, hg_wi, hg_wz, hg_jnx, hg_jkf, hg_jks, hg_jun, (hh_6.2.2.1.sub (L1 := [(r1, 6, 7, .int pv), (r1, 6, 8, .int pu), (r1, 6, 0, .ref wk), (r1, 6, 1, .ref wi), (r1, 6, 2, .ref wz), (r1, 6, 3, .ref jnx), (r1, 6, 4, .ref jkf), (r1, 6, 5, .ref jks), (r1, 6, 6, .ref jun)]) [0, 1, 2, 3, 4, 5, 6, 7, 8] rfl), (hh_6.2.2.2.2.2.2.2.1.sub (L1 := [(wk, 140, 1502, ca 1, fk), (wi, 141, 1502, ca 1, fi), (wz, 142, 1502, ca 1, fz), (jnx, 143, 1502, ca 1, fn), (jkf, 144, 1502, ca 1, fa), (jks, 145, 1502, ca 1, fs), (jun, 146, 3000, ca 1, fu)]) [0, 1, 2, 3, 4, 5, 6] rfl), by first | omega | (refine ⟨?_, ?_, ?_, ?_, ?_⟩ <;> (first | omega | rfl | assumption | decide | exact Or.inl rfl | exact Or.inr rfl | (simp only; omega)))⟩⟩ rfl rfl hl.1 rfl (lv_room (Nat.le_of_ble_eq_true rfl)) dX8_init_35 ⟨by rw [hRc]; show _ + 0 ≤ _; omega, by rw [hRs]; show _ + 0 ≤ _; omega⟩) hh_6.1 (fun q _ h => h) (fun q h => h) (fun r_34 u_33 t_33 H_33 locs_33 ht_33 hvm_33 hr_34 hb_33 hz_33 hk_33 hS_33 => ?_)
      rw [ht_33] at hb_33
      obtain ⟨hb_33, hbF_33⟩ := hb_33
      obtain ⟨hb_331, hb_332, hb_333, hb_334, hb_335⟩ := hb_33
      have hh_33 : jSt (dC, dI) B base G0 G0 EX8_initI s.heap 0 0 [(r1, 6, 7, .int pv), (r1, 6, 8, .int pu), (r1, 6, 0, .ref wk), (r1, 6, 1, .ref wi), (r1, 6, 2, .ref wz), (r1, 6, 3, .ref jnx), (r1, 6, 4, .ref jkf), (r1, 6, 5, .ref jks), (r1, 6, 6, .ref jun)] [(wk, 140, 1502, ca 1, fk), (wi, 141, 1502, ca 1, fi), (wz, 142, 1502, ca 1, fz), (jnx, 143, 1502, ca 1, fn), (jkf, 144, 1502, ca 1, fa), (jks, 145, 1502, ca 1, fs), (jun, 146, 3000, ca 1, fu)] [(jFib, jIB dC dI ca G0 0 ib), (jFqd, jQD dC dI ca G0 none qq)] H_33 locs_33 := ((hh_6.call hb_331 hb_332 hb_333 hb_334 hS_33 rfl (L1 := [(r1, 6, 7, .int pv), (r1, 6, 8, .int pu), (r1, 6, 0, .ref wk), (r1, 6, 1, .ref wi), (r1, 6, 2, .ref wz), (r1, 6, 3, .ref jnx), (r1, 6, 4, .ref jkf), (r1, 6, 5, .ref jks), (r1, 6, 6, .ref jun)]) [0, 1, 2, 3, 4, 5, 6, 7, 8] rfl rfl (M1 := [(wk, 140, 1502, ca 1, fk), (wi, 141, 1502, ca 1, fi), (wz, 142, 1502, ca 1, fz), (jnx, 143, 1502, ca 1, fn), (jkf, 144, 1502, ca 1, fa), (jks, 145, 1502, ca 1, fs), (jun, 146, 3000, ca 1, fu)]) [0, 1, 2, 3, 4, 5, 6] rfl rfl (I1 := [(jFib, jIB dC dI ca G0 0 ib), (jFqd, jQD dC dI ca G0 none qq)]) [0, 1] rfl rfl).more hb_335)
      clear hh_6 ht_33 hvm_33 hz_33 hk_33 hS_33 hb_331 hb_332 hb_333 hb_334 hb_335
      have hraw_35 := hraw_8.kept (hbF_33 _ (by simp))
      obtain ⟨hr_34_0, hr_34_1⟩ := hr_34
      have hz35 := hr_34_1
      refine lv_bipush (v := 20) hx hb dX8_init_38 (by decide) ?_
      refine lv_icmp_gt (tgt := 47) hx hb dX8_init_40 (by decide) (fun c_36 => ?_) (fun c_36 => ?_)
      · skip
        have c_36' : r_34.toInt > 20 := jb_gt (rfl) ((by decide)) c_36
        first | (have hr_34_0q := hr_34_0.resolve_left (by omega); clear hr_34_0) | (have hr_34_0q := hr_34_0.resolve_right (by omega); clear hr_34_0) | try clear hr_34_0
        refine lv_iconst (v := 0) hx hb dX8_init_47 (by decide) ?_
        refine lv_istore (lv' := [(4, .int 0), (3, .int 0), (0, .ref r0), (1, .ref r1), (2, .int a2)]) hx hb dX8_init_48 hl (by decide) rfl (fun ls hl => ?_)
        refine lv_aload_n hx hb dX8_init_50 rfl (lv_at hl 2 rfl) ?_
        refine lv_iload_n hx hb dX8_init_51 rfl (lv_at hl 1 rfl) ?_
        refine lv_if_ne (tgt := 60) hx hb dX8_init_52 (by decide) (fun c_37 => ?_) (fun c_37 => ?_)
        · skip
          exact absurd c_37 (by decide)
        · skip
          refine lv_iload hx hb dX8_init_55 (lv_at hl 0 rfl) ?_
          refine lv_if_eq (tgt := 72) hx hb dX8_init_57 (by decide) (fun c_38 => ?_) (fun c_38 => ?_)
          · skip
            refine lv_null hx hb dX8_init_72 ?_
            refine j7_putRF hx hb hown hK hh_33 hB hAp hraw_35 hnr0 hbr0 (C := RX8) (T := TX8) (N := 5) rfl (i := 0) (by decide) (Nat.le_of_ble_eq_true rfl) hly_10_0 rfl hin2 rfl hlk_29 (ty := (.object "ProofServer$Bytes")) (v := .null) (by decide +kernel) rfl rfl dX8_init_73 (fun H_39 locs_39 hraw_39 hr_39 hh_39 => ?_)
            have hraw_39 : va_at (dC, dI) vwCl (r0, .inr (10, [.null, .null, .int 0, .int 0, .int (-1)])) H_39 := hraw_39
            clear hh_33
            have hd_40 := jQD.typ (ca := ca) (n := 0) (hh_39.iv 1 rfl) hnr0 (jf.raw (C := RX8) (T := TX8) (N := 5) rfl hraw_39 (i := 2) (by decide)) (jf.raw (C := RX8) (T := TX8) (N := 5) rfl hraw_39 (i := 0) (by decide)) (jf.raw (C := RX8) (T := TX8) (N := 5) rfl hraw_39 (i := 1) (by decide))
            have hh_41 := hh_39.sub (L1 := [(r1, 6, 7, .int pv), (r1, 6, 8, .int pu), (r1, 6, 0, .ref wk), (r1, 6, 1, .ref wi), (r1, 6, 2, .ref wz), (r1, 6, 3, .ref jnx), (r1, 6, 4, .ref jkf), (r1, 6, 5, .ref jks), (r1, 6, 6, .ref jun)]) [0, 1, 2, 3, 4, 5, 6, 7, 8] rfl (M1 := [(wk, 140, 1502, ca 1, fk), (wi, 141, 1502, ca 1, fi), (wz, 142, 1502, ca 1, fz), (jnx, 143, 1502, ca 1, fn), (jkf, 144, 1502, ca 1, fa), (jks, 145, 1502, ca 1, fs), (jun, 146, 3000, ca 1, fu)]) [0, 1, 2, 3, 4, 5, 6] rfl (I1 := [(jFib, jIB dC dI ca G0 0 ib)]) [0] rfl
            clear hh_39
            have hle_42 : jLe G0 (va_up G0 r0 (some (10, 0))) := jLe.typ hnr0
            have hg_43 := hle_42 _ _ hg_r1
            have hg_44 := hle_42 _ _ hg_wk
            have hg_45 := hle_42 _ _ hg_wi
            have hg_46 := hle_42 _ _ hg_wz
            have hg_47 := hle_42 _ _ hg_jnx
            have hg_48 := hle_42 _ _ hg_jkf
            have hg_49 := hle_42 _ _ hg_jks
            have hg_50 := hle_42 _ _ hg_jun
            have hfa_42 : jRn (va_up G0 r0 (some (10, 0))) 17 0 (.null) ∧ jRn (va_up G0 r0 (some (10, 0))) 3 0 (.null) ∧ jIa (.int 0) ∧ jZb (.int 0) ∧ jIa (.int (-1)) ∧ True := ⟨Or.inl rfl, Or.inl rfl, ⟨_, rfl⟩, ⟨_, rfl, Or.inl rfl⟩, ⟨_, rfl⟩, trivial⟩
            have hh_42 := hh_41.typ (k := 10) (n := 0) hB hnr0 hbr0 hraw_39.lt (jOb.of (C := RX8) (T := TX8) (N := 5) (F := F10) hB10 rfl hraw_39 (show jFx (F10 0 (va_up G0 r0 (some (10, 0)))) [.null, .null, .int 0, .int 0, .int (-1)] from hfa_42))
            have hgn_42 : (va_up G0 r0 (some (10, 0))) r0 = some (10, 0) := jUp_self
            have hN_42 : (jNk [0, 1, 2, 3, 4, 5, 6, 7, 8, 9, 11, 12, 13, 14, 15, 16, 175]) G0 (va_up G0 r0 (some (10, 0))) := jNk.new (by decide)
            have hNn_42 : (jNk [0, 1, 2, 3, 4, 5, 6, 7, 8, 9, 11, 12, 13, 14, 15, 16, 175]) G0 (va_up G0 r0 (some (10, 0))) := (jNk.rf).tr hN_42
            have hh_51 := hh_42.addI (jQD.ie (ca := ca) hd_40)
            clear hh_42
            have hh_52 := hh_51.more (P1 := [(r0, 10, 0, .null), (r0, 10, 1, .null), (r0, 10, 2, .int 0), (r0, 10, 3, .int 0), (r0, 10, 4, .int (-1))]) (jP.cons hgn_42 (jf.raw (C := RX8) (T := TX8) (N := 5) rfl hraw_39 (i := 0) (by decide)) (jP.cons hgn_42 (jf.raw (C := RX8) (T := TX8) (N := 5) rfl hraw_39 (i := 1) (by decide)) (jP.cons hgn_42 (jf.raw (C := RX8) (T := TX8) (N := 5) rfl hraw_39 (i := 2) (by decide)) (jP.cons hgn_42 (jf.raw (C := RX8) (T := TX8) (N := 5) rfl hraw_39 (i := 3) (by decide)) (jP.cons hgn_42 (jf.raw (C := RX8) (T := TX8) (N := 5) rfl hraw_39 (i := 4) (by decide)) jP.nil)))))
            have hM_42 : jNk [1, 2, 11] G0 (va_up G0 r0 (some (10, 0))) := jNk.new (by decide)
            have hW_42 : jNk [0, 1, 2, 3, 4, 5, 6, 7, 8, 9, 11, 12, 13, 14, 15, 16, 17, 175] G0 (va_up G0 r0 (some (10, 0))) := jNk.new (by decide)
            have hd_54 := jIB.grow (r := 0) (hh_52.iv 1 rfl) hle_42 hW_42 (by decide)
            have hh_55 := hh_52.sub (L1 := [(r0, 10, 0, .null), (r0, 10, 1, .null), (r0, 10, 2, .int 0), (r0, 10, 3, .int 0), (r0, 10, 4, .int (-1)), (r1, 6, 7, .int pv), (r1, 6, 8, .int pu), (r1, 6, 0, .ref wk), (r1, 6, 1, .ref wi), (r1, 6, 2, .ref wz), (r1, 6, 3, .ref jnx), (r1, 6, 4, .ref jkf), (r1, 6, 5, .ref jks), (r1, 6, 6, .ref jun)]) [0, 1, 2, 3, 4, 5, 6, 7, 8, 9, 10, 11, 12, 13] rfl (M1 := [(wk, 140, 1502, ca 1, fk), (wi, 141, 1502, ca 1, fi), (wz, 142, 1502, ca 1, fz), (jnx, 143, 1502, ca 1, fn), (jkf, 144, 1502, ca 1, fa), (jks, 145, 1502, ca 1, fs), (jun, 146, 3000, ca 1, fu)]) [0, 1, 2, 3, 4, 5, 6] rfl (I1 := [(jFqd, jQD dC dI ca (va_up G0 r0 (some (10, 0))) none (qq.put r0 0 .null .null))]) [0] rfl
            clear hh_52
            have hh_56 := hh_55.addI (jIB.ie hd_54)
            clear hh_55
            refine lv_iload_n hx hb dX8_init_76 rfl (lv_at hl 1 rfl) ?_
            refine lv_if_eq (tgt := 95) hx hb dX8_init_77 (by decide) (fun c_57 => ?_) (fun c_57 => ?_)
            · skip
              refine lv_iload hx hb dX8_init_95 (lv_at hl 0 rfl) ?_
              refine lv_if_eq (tgt := 120) hx hb dX8_init_97 (by decide) (fun c_58 => ?_) (fun c_58 => ?_)
              · skip
                have hsz_59 := hh_56.2.2.2.2.2.1
                have htt_59 := hh_56.2.2.2.2.2.2.1
                refine W.room (fun hrc_59 hrs_59 => ?_)
                refine W.widen (k := LC - s.heap.size) (n := LS - jTot s.heap) (by omega) (by omega) ?_
                rw [hQ]
                exact W.vret hx hb hr (fun t ht hW => ⟨⟨((qq.put r0 0 .null .null), .null, ib, (va_up G0 r0 (some (10, 0)))), rfl, by skip; (try dsimp only); exact ⟨rfl, jzRi.no (fun q => by have h9 := hk14; have h8 := hk26; have h7 := hz35; omega)⟩, ⟨hh_56.ra (by first | (simp only; omega) | omega) (by first | (simp only; omega) | omega) (M1 := []) [] rfl ht, hNn_42, hgn_42, by rw [ht]; exact hh_56.2.2.2.2.2.2.2.2.sub (L1 := [(jFib, jIB dC dI ca (va_up G0 r0 (some (10, 0))) 0 ib), (jFqd, jQD dC dI ca (va_up G0 r0 (some (10, 0))) none (qq.put r0 0 .null .null))]) [0, 1] rfl⟩⟩, by rw [ht]; try exact hh_56.1.1, fun q h9 hq => by rw [ht]; try exact hh_56.1.2.1 q h9 hq⟩) hh_56.1.2.2 dX8_init_120
              · skip
                exact absurd c_58 (by decide)
            · skip
              exact absurd c_57 (by decide)
          · skip
            exact absurd c_38 (by decide)
      · skip
        have c_36' : r_34.toInt ≤ 20 := jb_gt_n (rfl) ((by decide)) c_36
        first | (have hr_34_0q := hr_34_0.resolve_left (by omega); clear hr_34_0) | (have hr_34_0q := hr_34_0.resolve_right (by omega); clear hr_34_0) | try clear hr_34_0
        refine lv_iconst (v := 1) hx hb dX8_init_43 (by decide) ?_
        refine lv_goto (tgt := 48) hx hb dX8_init_44 (by decide) ?_
        refine lv_istore (lv' := [(4, .int 1), (3, .int 0), (0, .ref r0), (1, .ref r1), (2, .int a2)]) hx hb dX8_init_48 hl (by decide) rfl (fun ls hl => ?_)
        refine lv_aload_n hx hb dX8_init_50 rfl (lv_at hl 2 rfl) ?_
        refine lv_iload_n hx hb dX8_init_51 rfl (lv_at hl 1 rfl) ?_
        refine lv_if_ne (tgt := 60) hx hb dX8_init_52 (by decide) (fun c_60 => ?_) (fun c_60 => ?_)
        · skip
          exact absurd c_60 (by decide)
        · skip
          refine lv_iload hx hb dX8_init_55 (lv_at hl 0 rfl) ?_
          refine lv_if_eq (tgt := 72) hx hb dX8_init_57 (by decide) (fun c_61 => ?_) (fun c_61 => ?_)
          · skip
            exact absurd c_61 (by decide)
          · skip
            have hsz_62 := hh_33.2.2.2.2.2.1
            have htt_62 := hh_33.2.2.2.2.2.2.1
            refine j7_newo (k := 17) (C := RX0) (T := TX0) (N := 2) (fs := [.null, .int 0]) hx hb htw jWc_wsX00 (fun k => ([(.array .byte), .int] : List FieldType).getD k .int) (by decide +kernel) hown (htw (.classLink RX8 24 RX0) (jWr_24 _ (List.mem_of_getElem? (i := 3) rfl))) (htw (.instantiable RX0 2) (jWr_1 _ (List.mem_of_getElem? (i := 13) rfl))) (htw (.initialized RX0) (jWr_1 _ (List.mem_of_getElem? (i := 14) rfl))) hK rfl (fun j hj => by rcases (by omega : j = 0 ∨ j = 1) with rfl | rfl <;> rfl) hh_33 hB (by rw [hRc]; omega) (by rw [hRs]; omega) dX8_init_60 (fun H_62 hraw_62 hfr_62 hnr_62 hh_62 => ?_)
            have hlt_63 := hraw_35.lt
            have hke_62 : jKe G0 G0 H_33 H_62 := jKe.raw hfr_62
            have hbr_62 : base ≤ H_33.size := Nat.le_trans hbs hh_33.1.1
            have hsy_62 : s.heap.size ≤ H_33.size := hh_33.1.1
            clear hh_33
            have hraw_64n := hke_62.nr hraw_35.lt hnr0
            have hraw_64 := hraw_35.kept (hke_62.1 _ hraw_35.lt)
            have hne_65 : r0 ≠ H_33.size := Nat.ne_of_lt hlt_63
            refine lv_dup hx hb dX8_init_63 rfl ?_
            refine lv_bipush (v := 16) hx hb dX8_init_64 (by decide) ?_
            have hsz_66 := hh_62.2.2.2.2.2.1
            have htt_66 := hh_62.2.2.2.2.2.2.1
            refine W.room (fun hrc_66 hrs_66 => ?_)
            refine va_callv (A0 := jA base) (H0 := s.heap) (va_runI (As := [.int 16]) (rest := [.ref H_33.size, .ref r0]) ⟨hx, hb, hml, hown, hts⟩ (uX0_initI l dC dI ca base B hB hAp hB2 hB17 hB196 hB199 G0 H_62 H_33.size 16 ib LC LS) (cwI 1 hts (jgW (jWr_3 _ (List.mem_of_getElem? (i := 3) rfl))) rfl rfl rfl (htw (.initialized RX0) (jWr_1 _ (List.mem_of_getElem? (i := 14) rfl))) (htw (.methodLink RX8 26 yX0_init) (jWr_24 _ (List.mem_of_getElem? (i := 10) rfl))) (htw (.instanceMethod yX0_init) (jWr_3 _ (List.mem_of_getElem? (i := 2) rfl))) rfl (by decide +kernel) ⟨by rw [← hR]; exact Nat.le_of_ble_eq_true rfl, by rw [← hR]; exact Nat.le_of_ble_eq_true rfl⟩) ⟨fun a U g mk q => by obtain ⟨q0, q1, q2, qK, q10, q11, q12, q13, q14, q15⟩ := q; exact ⟨q0, q1, q2, jG.calling g mk a qK, q10, q11, q12, q13, q14, q15⟩, fun U hU hW => ⟨rfl, hU, hh_62.2.1, hG.step hW hU hh_62.1, hraw_62, hnr_62, hbr_62, jP.nil, (hh_62.2.2.2.2.2.2.2.2.sub (L1 := [(jFib, jIB dC dI ca G0 0 ib)]) [0] rfl), (by omega), (by omega), by first | omega | (refine ⟨?_, ?_⟩ <;> (first | omega | rfl | assumption | decide | exact Or.inl rfl | exact Or.inr rfl | (simp only; omega)))⟩⟩ rfl rfl hl.1 rfl (lv_room (Nat.le_of_ble_eq_true rfl)) dX8_init_66 ⟨by rw [hRc]; omega, by rw [hRs]; omega⟩) hh_62.1 (fun q _ h => h) (fun q h => h) (fun u_66 t_66 H_66 locs_66 ht_66 hvm_66 hr_67 hb_66 hz_66 hk_66 hS_66 => ?_)
            obtain ⟨qc_66, qa_66, m_qa_66, G_66⟩ := u_66
            rw [ht_66] at hb_66
            simp only at hb_66
            obtain ⟨⟨hb_661, hb_662, hb_663, hb_664, hb_665, hb_666⟩, hgq_66_0, hN_66, hgc_66, hbX_66, hbE_66⟩ := hb_66
            have hW_66 := hN_66
            have hN_66 : (jNk [0, 1, 2, 3, 4, 5, 6, 7, 8, 9, 11, 12, 13, 14, 15, 16, 175]) G0 G_66 := hN_66.sub (by decide)
            have hh_66 : jSt (dC, dI) B base G0 G_66 EX8_initI s.heap ((0 + 1) + (1)) ((0 + 2) + ((16 : Int).toNat)) [(H_33.size, 17, 1, .int qc_66), (H_33.size, 17, 0, .ref qa_66), (r1, 6, 7, .int pv), (r1, 6, 8, .int pu), (r1, 6, 0, .ref wk), (r1, 6, 1, .ref wi), (r1, 6, 2, .ref wz), (r1, 6, 3, .ref jnx), (r1, 6, 4, .ref jkf), (r1, 6, 5, .ref jks), (r1, 6, 6, .ref jun)] [(wk, 140, 1502, ca 1, fk), (wi, 141, 1502, ca 1, fi), (wz, 142, 1502, ca 1, fz), (jnx, 143, 1502, ca 1, fn), (jkf, 144, 1502, ca 1, fa), (jks, 145, 1502, ca 1, fs), (jun, 146, 3000, ca 1, fu)] [(jFqd, jQD dC dI ca G0 none qq)] H_66 locs_66 := (hh_62.callG hb_661 hb_662 hb_663 hb_664 hb_665 hS_66 rfl (L1 := [(r1, 6, 7, .int pv), (r1, 6, 8, .int pu), (r1, 6, 0, .ref wk), (r1, 6, 1, .ref wi), (r1, 6, 2, .ref wz), (r1, 6, 3, .ref jnx), (r1, 6, 4, .ref jkf), (r1, 6, 5, .ref jks), (r1, 6, 6, .ref jun)]) [0, 1, 2, 3, 4, 5, 6, 7, 8] rfl rfl (M1 := [(wk, 140, 1502, ca 1, fk), (wi, 141, 1502, ca 1, fi), (wz, 142, 1502, ca 1, fz), (jnx, 143, 1502, ca 1, fn), (jkf, 144, 1502, ca 1, fa), (jks, 145, 1502, ca 1, fs), (jun, 146, 3000, ca 1, fu)]) [0, 1, 2, 3, 4, 5, 6] rfl rfl (I1 := [(jFqd, jQD dC dI ca G0 none qq)]) [1] rfl rfl).more hb_666
            have hNn_66 : (jNk [0, 1, 2, 3, 4, 5, 6, 7, 8, 9, 11, 12, 13, 14, 15, 16, 175]) G0 G_66 := (jNk.rf).tr hN_66
            have hg_68 := hb_662 _ _ hg_r1
            have hg_69 := hb_662 _ _ hg_wk
            have hg_70 := hb_662 _ _ hg_wi
            have hg_71 := hb_662 _ _ hg_wz
            have hg_72 := hb_662 _ _ hg_jnx
            have hg_73 := hb_662 _ _ hg_jkf
            have hg_74 := hb_662 _ _ hg_jks
            have hg_75 := hb_662 _ _ hg_jun
            have hd_76 := jQD.grow (ca := ca) (hh_66.iv 0 rfl) hb_662 hW_66 (by decide)
            have hh_77 := hh_66.sub (L1 := [(H_33.size, 17, 1, .int qc_66), (H_33.size, 17, 0, .ref qa_66), (r1, 6, 7, .int pv), (r1, 6, 8, .int pu), (r1, 6, 0, .ref wk), (r1, 6, 1, .ref wi), (r1, 6, 2, .ref wz), (r1, 6, 3, .ref jnx), (r1, 6, 4, .ref jkf), (r1, 6, 5, .ref jks), (r1, 6, 6, .ref jun)]) [0, 1, 2, 3, 4, 5, 6, 7, 8, 9, 10] rfl (M1 := [(wk, 140, 1502, ca 1, fk), (wi, 141, 1502, ca 1, fi), (wz, 142, 1502, ca 1, fz), (jnx, 143, 1502, ca 1, fn), (jkf, 144, 1502, ca 1, fa), (jks, 145, 1502, ca 1, fs), (jun, 146, 3000, ca 1, fu)]) [0, 1, 2, 3, 4, 5, 6] rfl (I1 := []) [] rfl
            clear hh_66
            have hh_78 := hh_77.addI (jQD.ie hd_76)
            clear hh_77
            have hh_79 := hh_78.addIs hbE_66
            try simp only at hr_67
            obtain ⟨hr_67_0, hr_67_1⟩ := hr_67
            have hraw_80x := hbX_66.ke hraw_64.lt hne_65 hraw_64n
            have hraw_80 := hraw_64.kept hraw_80x.1
            have hnw9 : s.heap.size ≤ H_33.size := hsy_62
            refine lv_goto (tgt := 73) hx hb dX8_init_69 (by decide) ?_
            refine j7_putRF hx hb hown hK hh_79 hB hAp hraw_80 hraw_80x.2 hbr0 (C := RX8) (T := TX8) (N := 5) rfl (i := 0) (by decide) (Nat.le_of_ble_eq_true rfl) hly_10_0 rfl hin2 rfl hlk_29 (ty := (.object "ProofServer$Bytes")) (v := .ref H_33.size) (by decide +kernel) rfl rfl dX8_init_73 (fun H_81 locs_81 hraw_81 hr_81 hh_81 => ?_)
            have hraw_81 : va_at (dC, dI) vwCl (r0, .inr (10, [.ref H_33.size, .null, .int 0, .int 0, .int (-1)])) H_81 := hraw_81
            clear hh_79
            have hd_82 := jQD.typ (ca := ca) (n := 0) (hh_81.iv 1 rfl) hraw_80x.2 (jf.raw (C := RX8) (T := TX8) (N := 5) rfl hraw_81 (i := 2) (by decide)) (jf.raw (C := RX8) (T := TX8) (N := 5) rfl hraw_81 (i := 0) (by decide)) (jf.raw (C := RX8) (T := TX8) (N := 5) rfl hraw_81 (i := 1) (by decide))
            have hh_83 := hh_81.sub (L1 := [(H_33.size, 17, 1, .int qc_66), (H_33.size, 17, 0, .ref qa_66), (r1, 6, 7, .int pv), (r1, 6, 8, .int pu), (r1, 6, 0, .ref wk), (r1, 6, 1, .ref wi), (r1, 6, 2, .ref wz), (r1, 6, 3, .ref jnx), (r1, 6, 4, .ref jkf), (r1, 6, 5, .ref jks), (r1, 6, 6, .ref jun)]) [0, 1, 2, 3, 4, 5, 6, 7, 8, 9, 10] rfl (M1 := [(wk, 140, 1502, ca 1, fk), (wi, 141, 1502, ca 1, fi), (wz, 142, 1502, ca 1, fz), (jnx, 143, 1502, ca 1, fn), (jkf, 144, 1502, ca 1, fa), (jks, 145, 1502, ca 1, fs), (jun, 146, 3000, ca 1, fu)]) [0, 1, 2, 3, 4, 5, 6] rfl (I1 := [(jFib, jIB dC dI ca G_66 0 (jUf ib (H_33.size) []))]) [0] rfl
            clear hh_81
            have hle_84 : jLe G_66 (va_up G_66 r0 (some (10, 0))) := jLe.typ hraw_80x.2
            have hg_85 := hle_84 _ _ hg_68
            have hg_86 := hle_84 _ _ hgq_66_0
            have hg_87 := hle_84 _ _ hg_69
            have hg_88 := hle_84 _ _ hg_70
            have hg_89 := hle_84 _ _ hg_71
            have hg_90 := hle_84 _ _ hg_72
            have hg_91 := hle_84 _ _ hg_73
            have hg_92 := hle_84 _ _ hg_74
            have hg_93 := hle_84 _ _ hg_75
            have hg_94 := (jLe.rf).tr hle_84 _ _ hgc_66
            have hfa_84 : jRn (va_up G_66 r0 (some (10, 0))) 17 0 (.ref H_33.size) ∧ jRn (va_up G_66 r0 (some (10, 0))) 3 0 (.null) ∧ jIa (.int 0) ∧ jZb (.int 0) ∧ jIa (.int (-1)) ∧ True := ⟨Or.inr ⟨_, rfl, hg_94⟩, Or.inl rfl, ⟨_, rfl⟩, ⟨_, rfl, Or.inl rfl⟩, ⟨_, rfl⟩, trivial⟩
            have hh_84 := hh_83.typ (k := 10) (n := 0) hB hraw_80x.2 hbr0 hraw_81.lt (jOb.of (C := RX8) (T := TX8) (N := 5) (F := F10) hB10 rfl hraw_81 (show jFx (F10 0 (va_up G_66 r0 (some (10, 0)))) [.ref H_33.size, .null, .int 0, .int 0, .int (-1)] from hfa_84))
            have hgn_84 : (va_up G_66 r0 (some (10, 0))) r0 = some (10, 0) := jUp_self
            have hN_84 : (jNk [0, 1, 2, 3, 4, 5, 6, 7, 8, 9, 11, 12, 13, 14, 15, 16, 175]) G_66 (va_up G_66 r0 (some (10, 0))) := jNk.new (by decide)
            have hNn_84 : (jNk [0, 1, 2, 3, 4, 5, 6, 7, 8, 9, 11, 12, 13, 14, 15, 16, 175]) G0 (va_up G_66 r0 (some (10, 0))) := (hNn_66).tr hN_84
            have hh_95 := hh_84.addI (jQD.ie (ca := ca) hd_82)
            clear hh_84
            have hg_96 := (hle_84) _ _ hgc_66
            have hh_97 := hh_95.more (P1 := [(r0, 10, 0, .ref H_33.size), (r0, 10, 1, .null), (r0, 10, 2, .int 0), (r0, 10, 3, .int 0), (r0, 10, 4, .int (-1))]) (jP.cons hgn_84 (jf.raw (C := RX8) (T := TX8) (N := 5) rfl hraw_81 (i := 0) (by decide)) (jP.cons hgn_84 (jf.raw (C := RX8) (T := TX8) (N := 5) rfl hraw_81 (i := 1) (by decide)) (jP.cons hgn_84 (jf.raw (C := RX8) (T := TX8) (N := 5) rfl hraw_81 (i := 2) (by decide)) (jP.cons hgn_84 (jf.raw (C := RX8) (T := TX8) (N := 5) rfl hraw_81 (i := 3) (by decide)) (jP.cons hgn_84 (jf.raw (C := RX8) (T := TX8) (N := 5) rfl hraw_81 (i := 4) (by decide)) jP.nil)))))
            have hM_84 : jNk [1, 2, 11] G_66 (va_up G_66 r0 (some (10, 0))) := jNk.new (by decide)
            have hW_84 : jNk [0, 1, 2, 3, 4, 5, 6, 7, 8, 9, 11, 12, 13, 14, 15, 16, 17, 175] G_66 (va_up G_66 r0 (some (10, 0))) := jNk.new (by decide)
            have hd_99 := jIB.grow (r := 0) (hh_97.iv 1 rfl) hle_84 hW_84 (by decide)
            have hh_100 := hh_97.sub (L1 := [(r0, 10, 0, .ref H_33.size), (r0, 10, 1, .null), (r0, 10, 2, .int 0), (r0, 10, 3, .int 0), (r0, 10, 4, .int (-1)), (H_33.size, 17, 1, .int qc_66), (H_33.size, 17, 0, .ref qa_66), (r1, 6, 7, .int pv), (r1, 6, 8, .int pu), (r1, 6, 0, .ref wk), (r1, 6, 1, .ref wi), (r1, 6, 2, .ref wz), (r1, 6, 3, .ref jnx), (r1, 6, 4, .ref jkf), (r1, 6, 5, .ref jks), (r1, 6, 6, .ref jun)]) [0, 1, 2, 3, 4, 5, 6, 7, 8, 9, 10, 11, 12, 13, 14, 15] rfl (M1 := [(wk, 140, 1502, ca 1, fk), (wi, 141, 1502, ca 1, fi), (wz, 142, 1502, ca 1, fz), (jnx, 143, 1502, ca 1, fn), (jkf, 144, 1502, ca 1, fa), (jks, 145, 1502, ca 1, fs), (jun, 146, 3000, ca 1, fu)]) [0, 1, 2, 3, 4, 5, 6] rfl (I1 := [(jFqd, jQD dC dI ca (va_up G_66 r0 (some (10, 0))) none (qq.put r0 0 (.ref H_33.size) .null))]) [0] rfl
            clear hh_97
            have hh_101 := hh_100.addI (jIB.ie hd_99)
            clear hh_100
            refine lv_iload_n hx hb dX8_init_76 rfl (lv_at hl 1 rfl) ?_
            refine lv_if_eq (tgt := 95) hx hb dX8_init_77 (by decide) (fun c_102 => ?_) (fun c_102 => ?_)
            · skip
              refine lv_iload hx hb dX8_init_95 (lv_at hl 0 rfl) ?_
              refine lv_if_eq (tgt := 120) hx hb dX8_init_97 (by decide) (fun c_103 => ?_) (fun c_103 => ?_)
              · skip
                exact absurd c_103 (by decide)
              · skip
                refine lv_aload_n hx hb dX8_init_100 rfl (lv_at hl 3 rfl) ?_
                refine lv_iload_n hx hb dX8_init_101 rfl (lv_at hl 4 rfl) ?_
                have hsz_104 := hh_101.2.2.2.2.2.1
                have htt_104 := hh_101.2.2.2.2.2.2.1
                refine W.room (fun hrc_104 hrs_104 => ?_)
                refine j_callx (A0 := jA base) (H0 := s.heap) (va_runV (As := [.int a2]) (rest := []) ⟨hx, hb, hml, hown, hts⟩ (uX4_unitsOfU l dC dI ca base B hB hAp hB6 hB140 hB141 hB142 hB146 hB174 (va_up G_66 r0 (some (10, 0))) H_81 r1 a2 pv pu wk wi wz jnx jkf jks jun T9 fk fi fz fn fa fs fu LC LS) (cwV 1 hts (jgV (jWr_24 _ (List.mem_of_getElem? (i := 23) rfl)) (jWr_25 _ (List.mem_of_getElem? (i := 0) rfl)) (jWr_25 _ (List.mem_of_getElem? (i := 1) rfl)) (jWr_1 _ (List.mem_of_getElem? (i := 22) rfl)) (jWr_25 _ (List.mem_of_getElem? (i := 2) rfl))) rfl rfl rfl (by decide +kernel) ⟨by rw [← hR]; exact Nat.le_of_ble_eq_true rfl, by rw [← hR]; exact Nat.le_of_ble_eq_true rfl⟩) ⟨fun a U g mk q => by obtain ⟨q0, q1, q2, qK, q10, q11, q12, q13, q14, q15, q16, q17, q18, q19, q20⟩ := q; exact ⟨q0, q1, q2, jG.calling g mk a qK, q10, q11, q12, q13, q14, q15, q16, q17, q18, q19, q20⟩, hh_101.recv (C := RX4) (T := TX4) (N := 12) hB6 rfl (by decide) hg_85 hK, fun U hU hW => ⟨rfl, hU, hh_101.2.1, hG.step hW hU hh_101.1, hg_85, hg_87, hg_88, hg_89, hg_90, hg_91, hg_92, hg_93, (hh_101.2.2.1.sub (L1 := [(r1, 6, 7, .int pv), (r1, 6, 8, .int pu), (r1, 6, 0, .ref wk), (r1, 6, 1, .ref wi), (r1, 6, 2, .ref wz), (r1, 6, 3, .ref jnx), (r1, 6, 4, .ref jkf), (r1, 6, 5, .ref jks), (r1, 6, 6, .ref jun)]) [7, 8, 9, 10, 11, 12, 13, 14, 15] rfl), (hh_101.2.2.2.2.2.2.2.1.sub (L1 := [(wk, 140, 1502, ca 1, fk), (wi, 141, 1502, ca 1, fi), (wz, 142, 1502, ca 1, fz), (jnx, 143, 1502, ca 1, fn), (jkf, 144, 1502, ca 1, fa), (jks, 145, 1502, ca 1, fs), (jun, 146, 3000, ca 1, fu)]) [0, 1, 2, 3, 4, 5, 6] rfl), (by omega), (by omega), by first | omega | (refine ⟨?_, ?_, ?_, ?_, ?_, ?_⟩ <;> (first | omega | rfl | assumption | decide | exact Or.inl rfl | exact Or.inr rfl | (simp only; omega)))⟩⟩ rfl rfl hl.1 rfl (lv_room (Nat.le_of_ble_eq_true rfl)) dX8_init_102 ⟨by rw [hRc]; omega, by rw [hRs]; omega⟩) hh_101.1 (fun q _ h => h) (fun q h => h) (fun r_105 u_104 t_104 H_104 locs_104 ht_104 hvm_104 hr_105 hb_104 hz_104 hk_104 hS_104 => ?_)
                rw [ht_104] at hb_104
                obtain ⟨x_ret_104, m_ret_104, G_104⟩ := u_104
                simp only at hb_104
                obtain ⟨⟨hb_1041, hb_1042, hb_1043, hb_1044, hb_1045, hb_1046⟩, hN_104, hbQ_104, hbK_104⟩ := hb_104
                have hW_104 := hN_104
                have hN_104 : (jNk [0, 1, 2, 3, 4, 5, 6, 7, 8, 9, 11, 12, 13, 14, 15, 16, 175]) (va_up G_66 r0 (some (10, 0))) G_104 := hN_104.sub (by decide)
                have hh_104 : jSt (dC, dI) B base G0 G_104 EX8_initI s.heap (((0 + 1) + (1)) + (1)) (((0 + 2) + ((16 : Int).toNat)) + (m_ret_104)) [(r0, 10, 0, .ref H_33.size), (r0, 10, 1, .null), (r0, 10, 2, .int 0), (r0, 10, 3, .int 0), (r0, 10, 4, .int (-1)), (H_33.size, 17, 1, .int qc_66), (H_33.size, 17, 0, .ref qa_66), (r1, 6, 7, .int pv), (r1, 6, 8, .int pu), (r1, 6, 0, .ref wk), (r1, 6, 1, .ref wi), (r1, 6, 2, .ref wz), (r1, 6, 3, .ref jnx), (r1, 6, 4, .ref jkf), (r1, 6, 5, .ref jks), (r1, 6, 6, .ref jun)] [(wk, 140, 1502, ca 1, fk), (wi, 141, 1502, ca 1, fi), (wz, 142, 1502, ca 1, fz), (jnx, 143, 1502, ca 1, fn), (jkf, 144, 1502, ca 1, fa), (jks, 145, 1502, ca 1, fs), (jun, 146, 3000, ca 1, fu)] [(jFib, jIB dC dI ca (va_up G_66 r0 (some (10, 0))) 0 (jUf ib (H_33.size) [])), (jFqd, jQD dC dI ca (va_up G_66 r0 (some (10, 0))) none (qq.put r0 0 (.ref H_33.size) .null))] H_104 locs_104 := (hh_101.callG hb_1041 hb_1042 hb_1043 hb_1044 hb_1045 hS_104 rfl (L1 := [(r0, 10, 0, .ref H_33.size), (r0, 10, 1, .null), (r0, 10, 2, .int 0), (r0, 10, 3, .int 0), (r0, 10, 4, .int (-1)), (H_33.size, 17, 1, .int qc_66), (H_33.size, 17, 0, .ref qa_66), (r1, 6, 7, .int pv), (r1, 6, 8, .int pu), (r1, 6, 0, .ref wk), (r1, 6, 1, .ref wi), (r1, 6, 2, .ref wz), (r1, 6, 3, .ref jnx), (r1, 6, 4, .ref jkf), (r1, 6, 5, .ref jks), (r1, 6, 6, .ref jun)]) [0, 1, 2, 3, 4, 5, 6, 7, 8, 9, 10, 11, 12, 13, 14, 15] rfl rfl (M1 := [(wk, 140, 1502, ca 1, fk), (wi, 141, 1502, ca 1, fi), (wz, 142, 1502, ca 1, fz), (jnx, 143, 1502, ca 1, fn), (jkf, 144, 1502, ca 1, fa), (jks, 145, 1502, ca 1, fs), (jun, 146, 3000, ca 1, fu)]) [0, 1, 2, 3, 4, 5, 6] rfl rfl (I1 := [(jFib, jIB dC dI ca (va_up G_66 r0 (some (10, 0))) 0 (jUf ib (H_33.size) [])), (jFqd, jQD dC dI ca (va_up G_66 r0 (some (10, 0))) none (qq.put r0 0 (.ref H_33.size) .null))]) [0, 1] rfl rfl).more hb_1046
                have hNn_104 : (jNk [0, 1, 2, 3, 4, 5, 6, 7, 8, 9, 11, 12, 13, 14, 15, 16, 175]) G0 G_104 := (hNn_84).tr hN_104
                have hg_106 := hb_1042 _ _ hgn_84
                have hg_107 := hb_1042 _ _ hg_85
                have hg_108 := hb_1042 _ _ hg_96
                have hg_109 := hb_1042 _ _ hg_86
                have hg_110 := hb_1042 _ _ hg_87
                have hg_111 := hb_1042 _ _ hg_88
                have hg_112 := hb_1042 _ _ hg_89
                have hg_113 := hb_1042 _ _ hg_90
                have hg_114 := hb_1042 _ _ hg_91
                have hg_115 := hb_1042 _ _ hg_92
                have hg_116 := hb_1042 _ _ hg_93
                have hd_117 := jIB.grow (r := 0) (hh_104.iv 0 rfl) hb_1042 hW_104 (by decide)
                have hh_118 := hh_104.sub (L1 := [(r0, 10, 0, .ref H_33.size), (r0, 10, 1, .null), (r0, 10, 2, .int 0), (r0, 10, 3, .int 0), (r0, 10, 4, .int (-1)), (H_33.size, 17, 1, .int qc_66), (H_33.size, 17, 0, .ref qa_66), (r1, 6, 7, .int pv), (r1, 6, 8, .int pu), (r1, 6, 0, .ref wk), (r1, 6, 1, .ref wi), (r1, 6, 2, .ref wz), (r1, 6, 3, .ref jnx), (r1, 6, 4, .ref jkf), (r1, 6, 5, .ref jks), (r1, 6, 6, .ref jun)]) [0, 1, 2, 3, 4, 5, 6, 7, 8, 9, 10, 11, 12, 13, 14, 15] rfl (M1 := [(wk, 140, 1502, ca 1, fk), (wi, 141, 1502, ca 1, fi), (wz, 142, 1502, ca 1, fz), (jnx, 143, 1502, ca 1, fn), (jkf, 144, 1502, ca 1, fa), (jks, 145, 1502, ca 1, fs), (jun, 146, 3000, ca 1, fu)]) [0, 1, 2, 3, 4, 5, 6] rfl (I1 := [(jFqd, jQD dC dI ca (va_up G_66 r0 (some (10, 0))) none (qq.put r0 0 (.ref H_33.size) .null))]) [1] rfl
                clear hh_104
                have hh_119 := hh_118.addI (jIB.ie hd_117)
                clear hh_118
                have hd_120 := jQD.grow (ca := ca) (hh_119.iv 1 rfl) hb_1042 hW_104 (by decide)
                have hh_121 := hh_119.sub (L1 := [(r0, 10, 0, .ref H_33.size), (r0, 10, 1, .null), (r0, 10, 2, .int 0), (r0, 10, 3, .int 0), (r0, 10, 4, .int (-1)), (H_33.size, 17, 1, .int qc_66), (H_33.size, 17, 0, .ref qa_66), (r1, 6, 7, .int pv), (r1, 6, 8, .int pu), (r1, 6, 0, .ref wk), (r1, 6, 1, .ref wi), (r1, 6, 2, .ref wz), (r1, 6, 3, .ref jnx), (r1, 6, 4, .ref jkf), (r1, 6, 5, .ref jks), (r1, 6, 6, .ref jun)]) [0, 1, 2, 3, 4, 5, 6, 7, 8, 9, 10, 11, 12, 13, 14, 15] rfl (M1 := [(wk, 140, 1502, ca 1, fk), (wi, 141, 1502, ca 1, fi), (wz, 142, 1502, ca 1, fz), (jnx, 143, 1502, ca 1, fn), (jkf, 144, 1502, ca 1, fa), (jks, 145, 1502, ca 1, fs), (jun, 146, 3000, ca 1, fu)]) [0, 1, 2, 3, 4, 5, 6] rfl (I1 := [(jFib, jIB dC dI ca G_104 0 (jUf ib (H_33.size) []))]) [0] rfl
                clear hh_119
                have hh_122 := hh_121.addI (jQD.ie hd_120)
                clear hh_121
                obtain ⟨rfl, hr_105, hr_105n, hr_105p⟩ := hr_105
                try simp only at hr_105p
                obtain ⟨hr_105p_0, hr_105p_1⟩ := hr_105p
                have hgr_104 : G_104 x_ret_104 = some (174, m_ret_104) := by obtain ⟨y9, e9, h9⟩ := hr_105; cases e9; exact h9
                have hsy_104 : s.heap.size ≤ x_ret_104 := Nat.le_trans hh_101.1.1 hr_105n.le
                obtain ⟨fr_104, hqa_104, hqr_104⟩ := hbQ_104
                have hh_123 := hh_122.moreM (M1 := [(x_ret_104, 174, m_ret_104, ca 1, fr_104)]) (fun q hq => by cases List.mem_singleton.mp hq; exact ⟨hgr_104, (by show 18 ≤ 174; decide), (by show 174 < 1000; decide), hqa_104⟩)
                clear hh_122
                refine lv_astore (lv' := [(5, .ref x_ret_104), (4, .int 1), (3, .int 0), (0, .ref r0), (1, .ref r1), (2, .int a2)]) hx hb dX8_init_105 hl (by decide) rfl (fun ls hl => ?_)
                have hk3 : jqK T9 pv.toInt a2.toInt = 3 := by rw [← hk26]; omega
                have hux9 := hqr_104
                have hum9 := hr_105p_1
                rw [if_pos hk3] at hum9
                have hus9 := jwUn.of0 hux9 hum9
                have hwu9 := hp7 hk3
                rw [← hus9] at hwu9
                have hqz7 := jqZ.k hk3 (by decide)
                refine lv_aload_n hx hb dX8_init_107 rfl (lv_at hl 3 rfl) ?_
                refine j7_read hx hb hown hK (C := RX8) (T := TX8) (N := 5) rfl hly_10_0 hlk_29 (hh_123.at 0 rfl) dX8_init_108 ?_
                refine lv_aload hx hb dX8_init_111 (lv_at hl 0 rfl) ?_
                refine lv_iconst (v := 0) hx hb dX8_init_113 (by decide) ?_
                refine lv_aload hx hb dX8_init_114 (lv_at hl 0 rfl) ?_
                refine j7_len hx hb hK hh_123 hB174 1 rfl (by decide) hgr_104 (by omega) dX8_init_116 (fun z_124 hz_124 => ?_)
                have hsz_125 := hh_123.2.2.2.2.2.1
                have htt_125 := hh_123.2.2.2.2.2.2.1
                refine W.room (fun hrc_125 hrs_125 => ?_)
                refine va_callv (A0 := jA base) (H0 := s.heap) (va_runV (As := [.ref x_ret_104, .int 0, .int z_124]) (rest := []) ⟨hx, hb, hml, hown, hts⟩ (uX0_quotedI l dC dI ca base B hB hAp hB2 hB17 hB174 hB196 hB199 G_104 H_104 H_33.size x_ret_104 0 z_124 m_ret_104 qc_66 qa_66 m_qa_66 (jUf ib (H_33.size) []) fr_104 LC LS) (cwV 3 hts (jgV (jWr_25 _ (List.mem_of_getElem? (i := 9) rfl)) (jWr_25 _ (List.mem_of_getElem? (i := 10) rfl)) (jWr_25 _ (List.mem_of_getElem? (i := 11) rfl)) (jWr_1 _ (List.mem_of_getElem? (i := 14) rfl)) (jWr_25 _ (List.mem_of_getElem? (i := 12) rfl))) rfl rfl rfl (by decide +kernel) ⟨by rw [← hR]; exact Nat.le_of_ble_eq_true rfl, by rw [← hR]; exact Nat.le_of_ble_eq_true rfl⟩) ⟨fun a U g mk q => by obtain ⟨q0, q1, q2, qK, q10, q11, q12, q13, q14, q15, q16⟩ := q; exact ⟨q0, q1, q2, jG.calling g mk a qK, q10, q11, q12, q13, q14, q15, q16⟩, hh_123.recv (C := RX0) (T := TX0) (N := 2) hB17 rfl (by decide) hg_108 hK, fun U hU hW => ⟨rfl, hU, hh_123.2.1, hG.step hW hU hh_123.1, hg_108, hgr_104, hg_109, (hh_123.2.2.1.sub (L1 := [(H_33.size, 17, 1, .int qc_66), (H_33.size, 17, 0, .ref qa_66)]) [5, 6] rfl), (hh_123.2.2.2.2.2.2.2.1.sub (L1 := [(x_ret_104, 174, m_ret_104, ca 1, fr_104)]) [0] rfl), (hh_123.2.2.2.2.2.2.2.2.sub (L1 := [(jFib, jIB dC dI ca G_104 0 (jUf ib (H_33.size) []))]) [1] rfl), (by omega), (by omega), ⟨(by first | omega | rfl | assumption | exact jPw.z16.cg (by omega) | exact hwu9 | (have h9 := hum9; have h8 := hz35; have h7 := jqZ.k hk3 (by decide); omega)), (by first | omega | rfl | assumption | exact jPw.z16.cg (by omega) | exact hwu9 | (have h9 := hum9; have h8 := hz35; have h7 := jqZ.k hk3 (by decide); omega)), (by first | omega | rfl | assumption | exact jPw.z16.cg (by omega) | exact hwu9 | (have h9 := hum9; have h8 := hz35; have h7 := jqZ.k hk3 (by decide); omega)), (by first | omega | rfl | assumption | exact jPw.z16.cg (by omega) | exact hwu9 | (have h9 := hum9; have h8 := hz35; have h7 := jqZ.k hk3 (by decide); omega)), (by first | assumption | exact jPw.z16.cg (by omega) | exact hwu9 | (have h9 := hum9; have h8 := hz35; have h7 := jqZ.k hk3 (by decide); omega) | omega), (by first | omega | rfl | assumption | exact jPw.z16.cg (by omega) | exact hwu9 | (have h9 := hum9; have h8 := hz35; have h7 := jqZ.k hk3 (by decide); omega)), (by first | omega | rfl | assumption | exact jPw.z16.cg (by omega) | exact hwu9 | (have h9 := hum9; have h8 := hz35; have h7 := jqZ.k hk3 (by decide); omega)), (by first | omega | rfl | assumption | exact jPw.z16.cg (by omega) | exact hwu9 | (have h9 := hum9; have h8 := hz35; have h7 := jqZ.k hk3 (by decide); omega)), (by first | omega | rfl | assumption | exact jPw.z16.cg (by omega) | exact hwu9 | (have h9 := hum9; have h8 := hz35; have h7 := jqZ.k hk3 (by decide); omega)), (by first | assumption | exact jPw.z16.cg (by omega) | exact hwu9 | (have h9 := hum9; have h8 := hz35; have h7 := jqZ.k hk3 (by decide); omega) | omega)⟩⟩⟩ rfl rfl hl.1 rfl (lv_room (Nat.le_of_ble_eq_true rfl)) dX8_init_117 ⟨by rw [hRc]; omega, by rw [hRs]; omega⟩) hh_123.1 (fun q _ h => h) (fun q h => h) (fun u_125 t_125 H_125 locs_125 ht_125 hvm_125 hr_126 hb_125 hz_125 hk_125 hS_125 => ?_)
                obtain ⟨qc_125, qa_125, m_qa_125, G_125⟩ := u_125
                rw [ht_125] at hb_125
                simp only at hb_125
                obtain ⟨⟨hb_1251, hb_1252, hb_1253, hb_1254, hb_1255, hb_1256⟩, hgq_125_0, hN_125, hbO_125, hbE_125⟩ := hb_125
                have hW_125 := hN_125
                have hN_125 : (jNk [0, 1, 2, 3, 4, 5, 6, 7, 8, 9, 11, 12, 13, 14, 15, 16, 175]) G_104 G_125 := hN_125.sub (by decide)
                have hh_125 : jSt (dC, dI) B base G0 G_125 EX8_initI s.heap ((((0 + 1) + (1)) + (1)) + ((m_qa_125 - m_qa_66) / 16)) ((((0 + 2) + ((16 : Int).toNat)) + (m_ret_104)) + (2 * (m_qa_125 - m_qa_66))) [(H_33.size, 17, 1, .int qc_125), (H_33.size, 17, 0, .ref qa_125), (r0, 10, 0, .ref H_33.size), (r0, 10, 1, .null), (r0, 10, 2, .int 0), (r0, 10, 3, .int 0), (r0, 10, 4, .int (-1)), (r1, 6, 7, .int pv), (r1, 6, 8, .int pu), (r1, 6, 0, .ref wk), (r1, 6, 1, .ref wi), (r1, 6, 2, .ref wz), (r1, 6, 3, .ref jnx), (r1, 6, 4, .ref jkf), (r1, 6, 5, .ref jks), (r1, 6, 6, .ref jun)] [(x_ret_104, 174, m_ret_104, ca 1, fr_104), (wk, 140, 1502, ca 1, fk), (wi, 141, 1502, ca 1, fi), (wz, 142, 1502, ca 1, fz), (jnx, 143, 1502, ca 1, fn), (jkf, 144, 1502, ca 1, fa), (jks, 145, 1502, ca 1, fs), (jun, 146, 3000, ca 1, fu)] [(jFqd, jQD dC dI ca G_104 none (qq.put r0 0 (.ref H_33.size) .null))] H_125 locs_125 := (hh_123.callG hb_1251 hb_1252 hb_1253 hb_1254 hb_1255 hS_125 rfl (L1 := [(r0, 10, 0, .ref H_33.size), (r0, 10, 1, .null), (r0, 10, 2, .int 0), (r0, 10, 3, .int 0), (r0, 10, 4, .int (-1)), (r1, 6, 7, .int pv), (r1, 6, 8, .int pu), (r1, 6, 0, .ref wk), (r1, 6, 1, .ref wi), (r1, 6, 2, .ref wz), (r1, 6, 3, .ref jnx), (r1, 6, 4, .ref jkf), (r1, 6, 5, .ref jks), (r1, 6, 6, .ref jun)]) [0, 1, 2, 3, 4, 7, 8, 9, 10, 11, 12, 13, 14, 15] rfl rfl (M1 := [(x_ret_104, 174, m_ret_104, ca 1, fr_104), (wk, 140, 1502, ca 1, fk), (wi, 141, 1502, ca 1, fi), (wz, 142, 1502, ca 1, fz), (jnx, 143, 1502, ca 1, fn), (jkf, 144, 1502, ca 1, fa), (jks, 145, 1502, ca 1, fs), (jun, 146, 3000, ca 1, fu)]) [0, 1, 2, 3, 4, 5, 6, 7] rfl rfl (I1 := [(jFqd, jQD dC dI ca G_104 none (qq.put r0 0 (.ref H_33.size) .null))]) [0] rfl rfl).more hb_1256
                have hNn_125 : (jNk [0, 1, 2, 3, 4, 5, 6, 7, 8, 9, 11, 12, 13, 14, 15, 16, 175]) G0 G_125 := (hNn_104).tr hN_125
                have hg_127 := hb_1252 _ _ hgr_104
                have hg_128 := hb_1252 _ _ hg_106
                have hg_129 := hb_1252 _ _ hg_107
                have hg_130 := hb_1252 _ _ hg_108
                have hg_131 := hb_1252 _ _ hg_110
                have hg_132 := hb_1252 _ _ hg_111
                have hg_133 := hb_1252 _ _ hg_112
                have hg_134 := hb_1252 _ _ hg_113
                have hg_135 := hb_1252 _ _ hg_114
                have hg_136 := hb_1252 _ _ hg_115
                have hg_137 := hb_1252 _ _ hg_116
                have hd_138 := jQD.grow (ca := ca) (hh_125.iv 0 rfl) hb_1252 hW_125 (by decide)
                have hh_139 := hh_125.sub (L1 := [(H_33.size, 17, 1, .int qc_125), (H_33.size, 17, 0, .ref qa_125), (r0, 10, 0, .ref H_33.size), (r0, 10, 1, .null), (r0, 10, 2, .int 0), (r0, 10, 3, .int 0), (r0, 10, 4, .int (-1)), (r1, 6, 7, .int pv), (r1, 6, 8, .int pu), (r1, 6, 0, .ref wk), (r1, 6, 1, .ref wi), (r1, 6, 2, .ref wz), (r1, 6, 3, .ref jnx), (r1, 6, 4, .ref jkf), (r1, 6, 5, .ref jks), (r1, 6, 6, .ref jun)]) [0, 1, 2, 3, 4, 5, 6, 7, 8, 9, 10, 11, 12, 13, 14, 15] rfl (M1 := [(x_ret_104, 174, m_ret_104, ca 1, fr_104), (wk, 140, 1502, ca 1, fk), (wi, 141, 1502, ca 1, fi), (wz, 142, 1502, ca 1, fz), (jnx, 143, 1502, ca 1, fn), (jkf, 144, 1502, ca 1, fa), (jks, 145, 1502, ca 1, fs), (jun, 146, 3000, ca 1, fu)]) [0, 1, 2, 3, 4, 5, 6, 7] rfl (I1 := []) [] rfl
                clear hh_125
                have hh_140 := hh_139.addI (jQD.ie hd_138)
                clear hh_139
                have hh_141 := hh_140.addIs hbE_125
                try simp only at hr_126
                obtain ⟨hr_126_0, hr_126_1, hr_126_2, hr_126_3, hr_126_4, hr_126_5⟩ := hr_126
                have hsz_142 := hh_141.2.2.2.2.2.1
                have htt_142 := hh_141.2.2.2.2.2.2.1
                refine W.room (fun hrc_142 hrs_142 => ?_)
                refine W.widen (k := LC - s.heap.size) (n := LS - jTot s.heap) (by omega) (by omega) ?_
                rw [hQ]
                exact W.vret hx hb hr (fun t ht hW => ⟨⟨((qq.put r0 0 (.ref H_33.size) .null), (.ref H_33.size), (jUf (jUf ib (H_33.size) []) (H_33.size) ((jUf ib (H_33.size) []) (H_33.size) ++ (34 :: (jpQ (jcL fr_104 m_ret_104 0) ++ [34])))), G_125), rfl, by skip; (try dsimp only); exact ⟨rfl, jzRi.st (by rw [← hk26]; omega) (by rw [← hz35]; omega) hnw9 rfl hus9⟩, ⟨hh_141.ra (by first | (simp only; omega) | omega) (by first | (simp only; omega) | omega) (M1 := []) [] rfl ht, hNn_125, hg_128, by rw [ht]; exact hh_141.2.2.2.2.2.2.2.2.sub (L1 := [(jFib, jIB dC dI ca G_125 0 (jUf (jUf ib (H_33.size) []) (H_33.size) ((jUf ib (H_33.size) []) (H_33.size) ++ (34 :: (jpQ (jcL fr_104 m_ret_104 0) ++ [34]))))), (jFqd, jQD dC dI ca G_125 none (qq.put r0 0 (.ref H_33.size) .null))]) [0, 1] rfl⟩⟩, by rw [ht]; try exact hh_141.1.1, fun q h9 hq => by rw [ht]; try exact hh_141.1.2.1 q h9 hq⟩) hh_141.1.2.2 dX8_init_120
            · skip
              exact absurd c_102 (by decide)
  · skip
    have c_5' : r_3.toInt = 4 := jb_ne_n (rfl) ((by decide)) c_5
    first | (have hr_3_0q := hr_3_0.resolve_left (by omega); clear hr_3_0) | (have hr_3_0q := hr_3_0.resolve_right (by omega); clear hr_3_0) | try clear hr_3_0
    refine lv_iconst (v := 1) hx hb dX8_init_18 (by decide) ?_
    refine lv_goto (tgt := 23) hx hb dX8_init_19 (by decide) ?_
    refine lv_istore_n (lv' := [(3, .int 1), (0, .ref r0), (1, .ref r1), (2, .int a2)]) hx hb dX8_init_23 rfl hl (by decide) rfl (fun ls hl => ?_)
    refine lv_aload_n hx hb dX8_init_24 rfl (lv_at hl 2 rfl) ?_
    refine lv_iload_n hx hb dX8_init_25 rfl (lv_at hl 3 rfl) ?_
    have hsz_143 := hh_2.2.2.2.2.2.1
    have htt_143 := hh_2.2.2.2.2.2.2.1
    refine W.room (fun hrc_143 hrs_143 => ?_)
    refine va_calli (A0 := jA base) (H0 := s.heap) (va_runV (As := [.int a2]) (rest := []) ⟨hx, hb, hml, hown, hts⟩ (uX4_kindOfJ l dC dI ca base B hB hAp hB6 hB140 G0 H_2 r1 a2 pv pu wk wi wz jnx jkf jks jun T9 fk fi fz fn fa fs fu) (cwV 1 hts (jgV (jWr_24 _ (List.mem_of_getElem? (i := 5) rfl)) (jWr_23 _ (List.mem_of_getElem? (i := 15) rfl)) (jWr_23 _ (List.mem_of_getElem? (i := 16) rfl)) (jWr_1 _ (List.mem_of_getElem? (i := 22) rfl)) (jWr_23 _ (List.mem_of_getElem? (i := 17) rfl))) rfl rfl rfl (by decide +kernel) ⟨by rw [← hR]; exact Nat.le_of_ble_eq_true rfl, by rw [← hR]; exact Nat.le_of_ble_eq_true rfl⟩) ⟨fun a U g mk q => by obtain ⟨q0, q1, q2, qK, q10, q11, q12, q13, q14, q15, q16, q17, q18, q19, q20⟩ := q; exact ⟨q0, q1, q2, jG.calling g mk a qK, q10, q11, q12, q13, q14, q15, q16, q17, q18, q19, q20⟩, hh_2.recv (C := RX4) (T := TX4) (N := 12) hB6 rfl (by decide) hg_r1 hK, fun U hU hW => ⟨rfl, hU, hh_2.2.1, hG.step hW hU hh_2.1, hg_r1, hg_wk, hg_wi, hg_wz, hg_jnx, hg_jkf, hg_jks, hg_jun, (hh_2.2.2.1.sub (L1 := [(r1, 6, 7, .int pv), (r1, 6, 8, .int pu), (r1, 6, 0, .ref wk), (r1, 6, 1, .ref wi), (r1, 6, 2, .ref wz), (r1, 6, 3, .ref jnx), (r1, 6, 4, .ref jkf), (r1, 6, 5, .ref jks), (r1, 6, 6, .ref jun)]) [0, 1, 2, 3, 4, 5, 6, 7, 8] rfl), (hh_2.2.2.2.2.2.2.2.1.sub (L1 := [(wk, 140, 1502, ca 1, fk), (wi, 141, 1502, ca 1, fi), (wz, 142, 1502, ca 1, fz), (jnx, 143, 1502, ca 1, fn), (jkf, 144, 1502, ca 1, fa), (jks, 145, 1502, ca 1, fs), (jun, 146, 3000, ca 1, fu)]) [0, 1, 2, 3, 4, 5, 6] rfl), by first | omega | (refine ⟨?_, ?_, ?_, ?_, ?_⟩ <;> (first | omega | rfl | assumption | decide | exact Or.inl rfl | exact Or.inr rfl | (simp only; omega)))⟩⟩ rfl rfl hl.1 rfl (lv_room (Nat.le_of_ble_eq_true rfl)) dX8_init_26 ⟨by rw [hRc]; show _ + 0 ≤ _; omega, by rw [hRs]; show _ + 0 ≤ _; omega⟩) hh_2.1 (fun q _ h => h) (fun q h => h) (fun r_144 u_143 t_143 H_143 locs_143 ht_143 hvm_143 hr_144 hb_143 hz_143 hk_143 hS_143 => ?_)
    rw [ht_143] at hb_143
    obtain ⟨hb_143, hbF_143⟩ := hb_143
    obtain ⟨hb_1431, hb_1432, hb_1433, hb_1434, hb_1435⟩ := hb_143
    have hh_143 : jSt (dC, dI) B base G0 G0 EX8_initI s.heap 0 0 [(r1, 6, 7, .int pv), (r1, 6, 8, .int pu), (r1, 6, 0, .ref wk), (r1, 6, 1, .ref wi), (r1, 6, 2, .ref wz), (r1, 6, 3, .ref jnx), (r1, 6, 4, .ref jkf), (r1, 6, 5, .ref jks), (r1, 6, 6, .ref jun)] [(wk, 140, 1502, ca 1, fk), (wi, 141, 1502, ca 1, fi), (wz, 142, 1502, ca 1, fz), (jnx, 143, 1502, ca 1, fn), (jkf, 144, 1502, ca 1, fa), (jks, 145, 1502, ca 1, fs), (jun, 146, 3000, ca 1, fu)] [(jFib, jIB dC dI ca G0 0 ib), (jFqd, jQD dC dI ca G0 none qq)] H_143 locs_143 := ((hh_2.call hb_1431 hb_1432 hb_1433 hb_1434 hS_143 rfl (L1 := [(r1, 6, 7, .int pv), (r1, 6, 8, .int pu), (r1, 6, 0, .ref wk), (r1, 6, 1, .ref wi), (r1, 6, 2, .ref wz), (r1, 6, 3, .ref jnx), (r1, 6, 4, .ref jkf), (r1, 6, 5, .ref jks), (r1, 6, 6, .ref jun)]) [0, 1, 2, 3, 4, 5, 6, 7, 8] rfl rfl (M1 := [(wk, 140, 1502, ca 1, fk), (wi, 141, 1502, ca 1, fi), (wz, 142, 1502, ca 1, fz), (jnx, 143, 1502, ca 1, fn), (jkf, 144, 1502, ca 1, fa), (jks, 145, 1502, ca 1, fs), (jun, 146, 3000, ca 1, fu)]) [0, 1, 2, 3, 4, 5, 6] rfl rfl (I1 := [(jFib, jIB dC dI ca G0 0 ib), (jFqd, jQD dC dI ca G0 none qq)]) [0, 1] rfl rfl).more hb_1435)
    clear hh_2 ht_143 hvm_143 hz_143 hk_143 hS_143 hb_1431 hb_1432 hb_1433 hb_1434 hb_1435
    have hraw_145 := hraw_4.kept (hbF_143 _ (by simp))
    obtain ⟨hr_144_0, hr_144_1⟩ := hr_144
    have hk26 := hr_144_1
    refine lv_iconst (v := 3) hx hb dX8_init_29 (by decide) ?_
    refine lv_icmp_ne (tgt := 47) hx hb dX8_init_30 (by decide) (fun c_146 => ?_) (fun c_146 => ?_)
    · skip
      have c_146' : r_144.toInt ≠ 3 := jb_ne (rfl) ((by decide)) c_146
      try clear hr_144_0
      refine lv_iconst (v := 0) hx hb dX8_init_47 (by decide) ?_
      refine lv_istore (lv' := [(4, .int 0), (3, .int 1), (0, .ref r0), (1, .ref r1), (2, .int a2)]) hx hb dX8_init_48 hl (by decide) rfl (fun ls hl => ?_)
      refine lv_aload_n hx hb dX8_init_50 rfl (lv_at hl 2 rfl) ?_
      refine lv_iload_n hx hb dX8_init_51 rfl (lv_at hl 1 rfl) ?_
      refine lv_if_ne (tgt := 60) hx hb dX8_init_52 (by decide) (fun c_147 => ?_) (fun c_147 => ?_)
      · skip
        have hsz_148 := hh_143.2.2.2.2.2.1
        have htt_148 := hh_143.2.2.2.2.2.2.1
        refine j7_newo (k := 17) (C := RX0) (T := TX0) (N := 2) (fs := [.null, .int 0]) hx hb htw jWc_wsX00 (fun k => ([(.array .byte), .int] : List FieldType).getD k .int) (by decide +kernel) hown (htw (.classLink RX8 24 RX0) (jWr_24 _ (List.mem_of_getElem? (i := 3) rfl))) (htw (.instantiable RX0 2) (jWr_1 _ (List.mem_of_getElem? (i := 13) rfl))) (htw (.initialized RX0) (jWr_1 _ (List.mem_of_getElem? (i := 14) rfl))) hK rfl (fun j hj => by rcases (by omega : j = 0 ∨ j = 1) with rfl | rfl <;> rfl) hh_143 hB (by rw [hRc]; omega) (by rw [hRs]; omega) dX8_init_60 (fun H_148 hraw_148 hfr_148 hnr_148 hh_148 => ?_)
        have hlt_149 := hraw_145.lt
        have hke_148 : jKe G0 G0 H_143 H_148 := jKe.raw hfr_148
        have hbr_148 : base ≤ H_143.size := Nat.le_trans hbs hh_143.1.1
        have hsy_148 : s.heap.size ≤ H_143.size := hh_143.1.1
        clear hh_143
        have hraw_150n := hke_148.nr hraw_145.lt hnr0
        have hraw_150 := hraw_145.kept (hke_148.1 _ hraw_145.lt)
        have hne_151 : r0 ≠ H_143.size := Nat.ne_of_lt hlt_149
        refine lv_dup hx hb dX8_init_63 rfl ?_
        refine lv_bipush (v := 16) hx hb dX8_init_64 (by decide) ?_
        have hsz_152 := hh_148.2.2.2.2.2.1
        have htt_152 := hh_148.2.2.2.2.2.2.1
        refine W.room (fun hrc_152 hrs_152 => ?_)
        refine va_callv (A0 := jA base) (H0 := s.heap) (va_runI (As := [.int 16]) (rest := [.ref H_143.size, .ref r0]) ⟨hx, hb, hml, hown, hts⟩ (uX0_initI l dC dI ca base B hB hAp hB2 hB17 hB196 hB199 G0 H_148 H_143.size 16 ib LC LS) (cwI 1 hts (jgW (jWr_3 _ (List.mem_of_getElem? (i := 3) rfl))) rfl rfl rfl (htw (.initialized RX0) (jWr_1 _ (List.mem_of_getElem? (i := 14) rfl))) (htw (.methodLink RX8 26 yX0_init) (jWr_24 _ (List.mem_of_getElem? (i := 10) rfl))) (htw (.instanceMethod yX0_init) (jWr_3 _ (List.mem_of_getElem? (i := 2) rfl))) rfl (by decide +kernel) ⟨by rw [← hR]; exact Nat.le_of_ble_eq_true rfl, by rw [← hR]; exact Nat.le_of_ble_eq_true rfl⟩) ⟨fun a U g mk q => by obtain ⟨q0, q1, q2, qK, q10, q11, q12, q13, q14, q15⟩ := q; exact ⟨q0, q1, q2, jG.calling g mk a qK, q10, q11, q12, q13, q14, q15⟩, fun U hU hW => ⟨rfl, hU, hh_148.2.1, hG.step hW hU hh_148.1, hraw_148, hnr_148, hbr_148, jP.nil, (hh_148.2.2.2.2.2.2.2.2.sub (L1 := [(jFib, jIB dC dI ca G0 0 ib)]) [0] rfl), (by omega), (by omega), by first | omega | (refine ⟨?_, ?_⟩ <;> (first | omega | rfl | assumption | decide | exact Or.inl rfl | exact Or.inr rfl | (simp only; omega)))⟩⟩ rfl rfl hl.1 rfl (lv_room (Nat.le_of_ble_eq_true rfl)) dX8_init_66 ⟨by rw [hRc]; omega, by rw [hRs]; omega⟩) hh_148.1 (fun q _ h => h) (fun q h => h) (fun u_152 t_152 H_152 locs_152 ht_152 hvm_152 hr_153 hb_152 hz_152 hk_152 hS_152 => ?_)
        obtain ⟨qc_152, qa_152, m_qa_152, G_152⟩ := u_152
        rw [ht_152] at hb_152
        simp only at hb_152
        obtain ⟨⟨hb_1521, hb_1522, hb_1523, hb_1524, hb_1525, hb_1526⟩, hgq_152_0, hN_152, hgc_152, hbX_152, hbE_152⟩ := hb_152
        have hW_152 := hN_152
        have hN_152 : (jNk [0, 1, 2, 3, 4, 5, 6, 7, 8, 9, 11, 12, 13, 14, 15, 16, 175]) G0 G_152 := hN_152.sub (by decide)
        have hh_152 : jSt (dC, dI) B base G0 G_152 EX8_initI s.heap ((0 + 1) + (1)) ((0 + 2) + ((16 : Int).toNat)) [(H_143.size, 17, 1, .int qc_152), (H_143.size, 17, 0, .ref qa_152), (r1, 6, 7, .int pv), (r1, 6, 8, .int pu), (r1, 6, 0, .ref wk), (r1, 6, 1, .ref wi), (r1, 6, 2, .ref wz), (r1, 6, 3, .ref jnx), (r1, 6, 4, .ref jkf), (r1, 6, 5, .ref jks), (r1, 6, 6, .ref jun)] [(wk, 140, 1502, ca 1, fk), (wi, 141, 1502, ca 1, fi), (wz, 142, 1502, ca 1, fz), (jnx, 143, 1502, ca 1, fn), (jkf, 144, 1502, ca 1, fa), (jks, 145, 1502, ca 1, fs), (jun, 146, 3000, ca 1, fu)] [(jFqd, jQD dC dI ca G0 none qq)] H_152 locs_152 := (hh_148.callG hb_1521 hb_1522 hb_1523 hb_1524 hb_1525 hS_152 rfl (L1 := [(r1, 6, 7, .int pv), (r1, 6, 8, .int pu), (r1, 6, 0, .ref wk), (r1, 6, 1, .ref wi), (r1, 6, 2, .ref wz), (r1, 6, 3, .ref jnx), (r1, 6, 4, .ref jkf), (r1, 6, 5, .ref jks), (r1, 6, 6, .ref jun)]) [0, 1, 2, 3, 4, 5, 6, 7, 8] rfl rfl (M1 := [(wk, 140, 1502, ca 1, fk), (wi, 141, 1502, ca 1, fi), (wz, 142, 1502, ca 1, fz), (jnx, 143, 1502, ca 1, fn), (jkf, 144, 1502, ca 1, fa), (jks, 145, 1502, ca 1, fs), (jun, 146, 3000, ca 1, fu)]) [0, 1, 2, 3, 4, 5, 6] rfl rfl (I1 := [(jFqd, jQD dC dI ca G0 none qq)]) [1] rfl rfl).more hb_1526
        have hNn_152 : (jNk [0, 1, 2, 3, 4, 5, 6, 7, 8, 9, 11, 12, 13, 14, 15, 16, 175]) G0 G_152 := (jNk.rf).tr hN_152
        have hg_154 := hb_1522 _ _ hg_r1
        have hg_155 := hb_1522 _ _ hg_wk
        have hg_156 := hb_1522 _ _ hg_wi
        have hg_157 := hb_1522 _ _ hg_wz
        have hg_158 := hb_1522 _ _ hg_jnx
        have hg_159 := hb_1522 _ _ hg_jkf
        have hg_160 := hb_1522 _ _ hg_jks
        have hg_161 := hb_1522 _ _ hg_jun
        have hd_162 := jQD.grow (ca := ca) (hh_152.iv 0 rfl) hb_1522 hW_152 (by decide)
        have hh_163 := hh_152.sub (L1 := [(H_143.size, 17, 1, .int qc_152), (H_143.size, 17, 0, .ref qa_152), (r1, 6, 7, .int pv), (r1, 6, 8, .int pu), (r1, 6, 0, .ref wk), (r1, 6, 1, .ref wi), (r1, 6, 2, .ref wz), (r1, 6, 3, .ref jnx), (r1, 6, 4, .ref jkf), (r1, 6, 5, .ref jks), (r1, 6, 6, .ref jun)]) [0, 1, 2, 3, 4, 5, 6, 7, 8, 9, 10] rfl (M1 := [(wk, 140, 1502, ca 1, fk), (wi, 141, 1502, ca 1, fi), (wz, 142, 1502, ca 1, fz), (jnx, 143, 1502, ca 1, fn), (jkf, 144, 1502, ca 1, fa), (jks, 145, 1502, ca 1, fs), (jun, 146, 3000, ca 1, fu)]) [0, 1, 2, 3, 4, 5, 6] rfl (I1 := []) [] rfl
        clear hh_152
        have hh_164 := hh_163.addI (jQD.ie hd_162)
        clear hh_163
        have hh_165 := hh_164.addIs hbE_152
        try simp only at hr_153
        obtain ⟨hr_153_0, hr_153_1⟩ := hr_153
        have hraw_166x := hbX_152.ke hraw_150.lt hne_151 hraw_150n
        have hraw_166 := hraw_150.kept hraw_166x.1
        have hnw9 : s.heap.size ≤ H_143.size := hsy_148
        refine lv_goto (tgt := 73) hx hb dX8_init_69 (by decide) ?_
        refine j7_putRF hx hb hown hK hh_165 hB hAp hraw_166 hraw_166x.2 hbr0 (C := RX8) (T := TX8) (N := 5) rfl (i := 0) (by decide) (Nat.le_of_ble_eq_true rfl) hly_10_0 rfl hin2 rfl hlk_29 (ty := (.object "ProofServer$Bytes")) (v := .ref H_143.size) (by decide +kernel) rfl rfl dX8_init_73 (fun H_167 locs_167 hraw_167 hr_167 hh_167 => ?_)
        have hraw_167 : va_at (dC, dI) vwCl (r0, .inr (10, [.ref H_143.size, .null, .int 0, .int 0, .int (-1)])) H_167 := hraw_167
        clear hh_165
        have hd_168 := jQD.typ (ca := ca) (n := 0) (hh_167.iv 1 rfl) hraw_166x.2 (jf.raw (C := RX8) (T := TX8) (N := 5) rfl hraw_167 (i := 2) (by decide)) (jf.raw (C := RX8) (T := TX8) (N := 5) rfl hraw_167 (i := 0) (by decide)) (jf.raw (C := RX8) (T := TX8) (N := 5) rfl hraw_167 (i := 1) (by decide))
        have hh_169 := hh_167.sub (L1 := [(H_143.size, 17, 1, .int qc_152), (H_143.size, 17, 0, .ref qa_152), (r1, 6, 7, .int pv), (r1, 6, 8, .int pu), (r1, 6, 0, .ref wk), (r1, 6, 1, .ref wi), (r1, 6, 2, .ref wz), (r1, 6, 3, .ref jnx), (r1, 6, 4, .ref jkf), (r1, 6, 5, .ref jks), (r1, 6, 6, .ref jun)]) [0, 1, 2, 3, 4, 5, 6, 7, 8, 9, 10] rfl (M1 := [(wk, 140, 1502, ca 1, fk), (wi, 141, 1502, ca 1, fi), (wz, 142, 1502, ca 1, fz), (jnx, 143, 1502, ca 1, fn), (jkf, 144, 1502, ca 1, fa), (jks, 145, 1502, ca 1, fs), (jun, 146, 3000, ca 1, fu)]) [0, 1, 2, 3, 4, 5, 6] rfl (I1 := [(jFib, jIB dC dI ca G_152 0 (jUf ib (H_143.size) []))]) [0] rfl
        clear hh_167
        have hle_170 : jLe G_152 (va_up G_152 r0 (some (10, 0))) := jLe.typ hraw_166x.2
        have hg_171 := hle_170 _ _ hg_154
        have hg_172 := hle_170 _ _ hgq_152_0
        have hg_173 := hle_170 _ _ hg_155
        have hg_174 := hle_170 _ _ hg_156
        have hg_175 := hle_170 _ _ hg_157
        have hg_176 := hle_170 _ _ hg_158
        have hg_177 := hle_170 _ _ hg_159
        have hg_178 := hle_170 _ _ hg_160
        have hg_179 := hle_170 _ _ hg_161
        have hg_180 := (jLe.rf).tr hle_170 _ _ hgc_152
        have hfa_170 : jRn (va_up G_152 r0 (some (10, 0))) 17 0 (.ref H_143.size) ∧ jRn (va_up G_152 r0 (some (10, 0))) 3 0 (.null) ∧ jIa (.int 0) ∧ jZb (.int 0) ∧ jIa (.int (-1)) ∧ True := ⟨Or.inr ⟨_, rfl, hg_180⟩, Or.inl rfl, ⟨_, rfl⟩, ⟨_, rfl, Or.inl rfl⟩, ⟨_, rfl⟩, trivial⟩
        have hh_170 := hh_169.typ (k := 10) (n := 0) hB hraw_166x.2 hbr0 hraw_167.lt (jOb.of (C := RX8) (T := TX8) (N := 5) (F := F10) hB10 rfl hraw_167 (show jFx (F10 0 (va_up G_152 r0 (some (10, 0)))) [.ref H_143.size, .null, .int 0, .int 0, .int (-1)] from hfa_170))
        have hgn_170 : (va_up G_152 r0 (some (10, 0))) r0 = some (10, 0) := jUp_self
        have hN_170 : (jNk [0, 1, 2, 3, 4, 5, 6, 7, 8, 9, 11, 12, 13, 14, 15, 16, 175]) G_152 (va_up G_152 r0 (some (10, 0))) := jNk.new (by decide)
        have hNn_170 : (jNk [0, 1, 2, 3, 4, 5, 6, 7, 8, 9, 11, 12, 13, 14, 15, 16, 175]) G0 (va_up G_152 r0 (some (10, 0))) := (hNn_152).tr hN_170
        have hh_181 := hh_170.addI (jQD.ie (ca := ca) hd_168)
        clear hh_170
        have hg_182 := (hle_170) _ _ hgc_152
        have hh_183 := hh_181.more (P1 := [(r0, 10, 0, .ref H_143.size), (r0, 10, 1, .null), (r0, 10, 2, .int 0), (r0, 10, 3, .int 0), (r0, 10, 4, .int (-1))]) (jP.cons hgn_170 (jf.raw (C := RX8) (T := TX8) (N := 5) rfl hraw_167 (i := 0) (by decide)) (jP.cons hgn_170 (jf.raw (C := RX8) (T := TX8) (N := 5) rfl hraw_167 (i := 1) (by decide)) (jP.cons hgn_170 (jf.raw (C := RX8) (T := TX8) (N := 5) rfl hraw_167 (i := 2) (by decide)) (jP.cons hgn_170 (jf.raw (C := RX8) (T := TX8) (N := 5) rfl hraw_167 (i := 3) (by decide)) (jP.cons hgn_170 (jf.raw (C := RX8) (T := TX8) (N := 5) rfl hraw_167 (i := 4) (by decide)) jP.nil)))))
        have hM_170 : jNk [1, 2, 11] G_152 (va_up G_152 r0 (some (10, 0))) := jNk.new (by decide)
        have hW_170 : jNk [0, 1, 2, 3, 4, 5, 6, 7, 8, 9, 11, 12, 13, 14, 15, 16, 17, 175] G_152 (va_up G_152 r0 (some (10, 0))) := jNk.new (by decide)
        have hd_185 := jIB.grow (r := 0) (hh_183.iv 1 rfl) hle_170 hW_170 (by decide)
        have hh_186 := hh_183.sub (L1 := [(r0, 10, 0, .ref H_143.size), (r0, 10, 1, .null), (r0, 10, 2, .int 0), (r0, 10, 3, .int 0), (r0, 10, 4, .int (-1)), (H_143.size, 17, 1, .int qc_152), (H_143.size, 17, 0, .ref qa_152), (r1, 6, 7, .int pv), (r1, 6, 8, .int pu), (r1, 6, 0, .ref wk), (r1, 6, 1, .ref wi), (r1, 6, 2, .ref wz), (r1, 6, 3, .ref jnx), (r1, 6, 4, .ref jkf), (r1, 6, 5, .ref jks), (r1, 6, 6, .ref jun)]) [0, 1, 2, 3, 4, 5, 6, 7, 8, 9, 10, 11, 12, 13, 14, 15] rfl (M1 := [(wk, 140, 1502, ca 1, fk), (wi, 141, 1502, ca 1, fi), (wz, 142, 1502, ca 1, fz), (jnx, 143, 1502, ca 1, fn), (jkf, 144, 1502, ca 1, fa), (jks, 145, 1502, ca 1, fs), (jun, 146, 3000, ca 1, fu)]) [0, 1, 2, 3, 4, 5, 6] rfl (I1 := [(jFqd, jQD dC dI ca (va_up G_152 r0 (some (10, 0))) none (qq.put r0 0 (.ref H_143.size) .null))]) [0] rfl
        clear hh_183
        have hh_187 := hh_186.addI (jIB.ie hd_185)
        clear hh_186
        refine lv_iload_n hx hb dX8_init_76 rfl (lv_at hl 1 rfl) ?_
        refine lv_if_eq (tgt := 95) hx hb dX8_init_77 (by decide) (fun c_188 => ?_) (fun c_188 => ?_)
        · skip
          exact absurd c_188 (by decide)
        · skip
          refine lv_aload_n hx hb dX8_init_80 rfl (lv_at hl 2 rfl) ?_
          refine j7_read hx hb hown hK (C := RX8) (T := TX8) (N := 5) rfl hly_10_0 hlk_29 (hh_187.at 0 rfl) dX8_init_81 ?_
          refine lv_aload_n hx hb dX8_init_84 rfl (lv_at hl 3 rfl) ?_
          refine lv_iload_n hx hb dX8_init_85 rfl (lv_at hl 4 rfl) ?_
          have hsz_189 := hh_187.2.2.2.2.2.1
          have htt_189 := hh_187.2.2.2.2.2.2.1
          refine W.room (fun hrc_189 hrs_189 => ?_)
          refine va_calli (A0 := jA base) (H0 := s.heap) (va_runV (As := [.int a2]) (rest := [.ref H_143.size]) ⟨hx, hb, hml, hown, hts⟩ (uX4_valueOfJ l dC dI ca base B hB hAp hB6 hB141 (va_up G_152 r0 (some (10, 0))) H_167 r1 a2 pv pu wk wi wz jnx jkf jks jun T9 fk fi fz fn fa fs fu) (cwV 1 hts (jgV (jWr_24 _ (List.mem_of_getElem? (i := 11) rfl)) (jWr_24 _ (List.mem_of_getElem? (i := 12) rfl)) (jWr_24 _ (List.mem_of_getElem? (i := 13) rfl)) (jWr_1 _ (List.mem_of_getElem? (i := 22) rfl)) (jWr_24 _ (List.mem_of_getElem? (i := 14) rfl))) rfl rfl rfl (by decide +kernel) ⟨by rw [← hR]; exact Nat.le_of_ble_eq_true rfl, by rw [← hR]; exact Nat.le_of_ble_eq_true rfl⟩) ⟨fun a U g mk q => by obtain ⟨q0, q1, q2, qK, q10, q11, q12, q13, q14, q15, q16, q17, q18, q19, q20⟩ := q; exact ⟨q0, q1, q2, jG.calling g mk a qK, q10, q11, q12, q13, q14, q15, q16, q17, q18, q19, q20⟩, hh_187.recv (C := RX4) (T := TX4) (N := 12) hB6 rfl (by decide) hg_171 hK, fun U hU hW => ⟨rfl, hU, hh_187.2.1, hG.step hW hU hh_187.1, hg_171, hg_173, hg_174, hg_175, hg_176, hg_177, hg_178, hg_179, (hh_187.2.2.1.sub (L1 := [(r1, 6, 7, .int pv), (r1, 6, 8, .int pu), (r1, 6, 0, .ref wk), (r1, 6, 1, .ref wi), (r1, 6, 2, .ref wz), (r1, 6, 3, .ref jnx), (r1, 6, 4, .ref jkf), (r1, 6, 5, .ref jks), (r1, 6, 6, .ref jun)]) [7, 8, 9, 10, 11, 12, 13, 14, 15] rfl), (hh_187.2.2.2.2.2.2.2.1.sub (L1 := [(wk, 140, 1502, ca 1, fk), (wi, 141, 1502, ca 1, fi), (wz, 142, 1502, ca 1, fz), (jnx, 143, 1502, ca 1, fn), (jkf, 144, 1502, ca 1, fa), (jks, 145, 1502, ca 1, fs), (jun, 146, 3000, ca 1, fu)]) [0, 1, 2, 3, 4, 5, 6] rfl), by first | omega | (refine ⟨?_, ?_, ?_, ?_, ?_⟩ <;> (first | omega | rfl | assumption | decide | exact Or.inl rfl | exact Or.inr rfl | (simp only; omega)))⟩⟩ rfl rfl hl.1 rfl (lv_room (Nat.le_of_ble_eq_true rfl)) dX8_init_86 ⟨by rw [hRc]; show _ + 0 ≤ _; omega, by rw [hRs]; show _ + 0 ≤ _; omega⟩) hh_187.1 (fun q _ h => h) (fun q h => h) (fun r_190 u_189 t_189 H_189 locs_189 ht_189 hvm_189 hr_190 hb_189 hz_189 hk_189 hS_189 => ?_)
          rw [ht_189] at hb_189
          obtain ⟨hb_189, hbF_189⟩ := hb_189
          obtain ⟨hb_1891, hb_1892, hb_1893, hb_1894, hb_1895⟩ := hb_189
          have hh_189 : jSt (dC, dI) B base G0 (va_up G_152 r0 (some (10, 0))) EX8_initI s.heap ((0 + 1) + (1)) ((0 + 2) + ((16 : Int).toNat)) [(r0, 10, 0, .ref H_143.size), (r0, 10, 1, .null), (r0, 10, 2, .int 0), (r0, 10, 3, .int 0), (r0, 10, 4, .int (-1)), (H_143.size, 17, 1, .int qc_152), (H_143.size, 17, 0, .ref qa_152), (r1, 6, 7, .int pv), (r1, 6, 8, .int pu), (r1, 6, 0, .ref wk), (r1, 6, 1, .ref wi), (r1, 6, 2, .ref wz), (r1, 6, 3, .ref jnx), (r1, 6, 4, .ref jkf), (r1, 6, 5, .ref jks), (r1, 6, 6, .ref jun)] [(wk, 140, 1502, ca 1, fk), (wi, 141, 1502, ca 1, fi), (wz, 142, 1502, ca 1, fz), (jnx, 143, 1502, ca 1, fn), (jkf, 144, 1502, ca 1, fa), (jks, 145, 1502, ca 1, fs), (jun, 146, 3000, ca 1, fu)] [(jFib, jIB dC dI ca (va_up G_152 r0 (some (10, 0))) 0 (jUf ib (H_143.size) [])), (jFqd, jQD dC dI ca (va_up G_152 r0 (some (10, 0))) none (qq.put r0 0 (.ref H_143.size) .null))] H_189 locs_189 := ((hh_187.call hb_1891 hb_1892 hb_1893 hb_1894 hS_189 rfl (L1 := [(r0, 10, 0, .ref H_143.size), (r0, 10, 1, .null), (r0, 10, 2, .int 0), (r0, 10, 3, .int 0), (r0, 10, 4, .int (-1)), (H_143.size, 17, 1, .int qc_152), (H_143.size, 17, 0, .ref qa_152), (r1, 6, 7, .int pv), (r1, 6, 8, .int pu), (r1, 6, 0, .ref wk), (r1, 6, 1, .ref wi), (r1, 6, 2, .ref wz), (r1, 6, 3, .ref jnx), (r1, 6, 4, .ref jkf), (r1, 6, 5, .ref jks), (r1, 6, 6, .ref jun)]) [0, 1, 2, 3, 4, 5, 6, 7, 8, 9, 10, 11, 12, 13, 14, 15] rfl rfl (M1 := [(wk, 140, 1502, ca 1, fk), (wi, 141, 1502, ca 1, fi), (wz, 142, 1502, ca 1, fz), (jnx, 143, 1502, ca 1, fn), (jkf, 144, 1502, ca 1, fa), (jks, 145, 1502, ca 1, fs), (jun, 146, 3000, ca 1, fu)]) [0, 1, 2, 3, 4, 5, 6] rfl rfl (I1 := [(jFib, jIB dC dI ca (va_up G_152 r0 (some (10, 0))) 0 (jUf ib (H_143.size) [])), (jFqd, jQD dC dI ca (va_up G_152 r0 (some (10, 0))) none (qq.put r0 0 (.ref H_143.size) .null))]) [0, 1] rfl rfl).more hb_1895)
          clear hh_187 ht_189 hvm_189 hz_189 hk_189 hS_189 hb_1891 hb_1892 hb_1893 hb_1894 hb_1895
          have hsz_191 := hh_189.2.2.2.2.2.1
          have htt_191 := hh_189.2.2.2.2.2.2.1
          refine W.room (fun hrc_191 hrs_191 => ?_)
          refine va_callv (A0 := jA base) (H0 := s.heap) (va_runV (As := [.int r_190]) (rest := []) ⟨hx, hb, hml, hown, hts⟩ (uX0_numberI l dC dI ca base B hB hAp hB2 hB17 hB196 hB199 (va_up G_152 r0 (some (10, 0))) H_189 H_143.size r_190 qc_152 qa_152 m_qa_152 (jUf ib (H_143.size) []) LC LS) (cwV 1 hts (jgV (jWr_24 _ (List.mem_of_getElem? (i := 15) rfl)) (jWr_24 _ (List.mem_of_getElem? (i := 16) rfl)) (jWr_24 _ (List.mem_of_getElem? (i := 17) rfl)) (jWr_1 _ (List.mem_of_getElem? (i := 14) rfl)) (jWr_24 _ (List.mem_of_getElem? (i := 18) rfl))) rfl rfl rfl (by decide +kernel) ⟨by rw [← hR]; exact Nat.le_of_ble_eq_true rfl, by rw [← hR]; exact Nat.le_of_ble_eq_true rfl⟩) ⟨fun a U g mk q => by obtain ⟨q0, q1, q2, qK, q10, q11, q12, q13, q14⟩ := q; exact ⟨q0, q1, q2, jG.calling g mk a qK, q10, q11, q12, q13, q14⟩, hh_189.recv (C := RX0) (T := TX0) (N := 2) hB17 rfl (by decide) hg_182 hK, fun U hU hW => ⟨rfl, hU, hh_189.2.1, hG.step hW hU hh_189.1, hg_182, hg_172, (hh_189.2.2.1.sub (L1 := [(H_143.size, 17, 1, .int qc_152), (H_143.size, 17, 0, .ref qa_152)]) [5, 6] rfl), (hh_189.2.2.2.2.2.2.2.2.sub (L1 := [(jFib, jIB dC dI ca (va_up G_152 r0 (some (10, 0))) 0 (jUf ib (H_143.size) []))]) [0] rfl), (by omega), (by omega), ⟨(by first | omega | rfl | assumption | exact jPw.z16.cg (by omega)), (by first | omega | rfl | assumption | exact jPw.z16.cg (by omega)), (by first | omega | rfl | assumption | exact jPw.z16.cg (by omega)), (by first | omega | rfl | assumption | exact jPw.z16.cg (by omega)), (by first | assumption | exact jPw.z16.cg (by omega) | omega), (by first | omega | rfl | assumption | exact jPw.z16.cg (by omega))⟩⟩⟩ rfl rfl hl.1 rfl (lv_room (Nat.le_of_ble_eq_true rfl)) dX8_init_89 ⟨by rw [hRc]; omega, by rw [hRs]; omega⟩) hh_189.1 (fun q _ h => h) (fun q h => h) (fun u_191 t_191 H_191 locs_191 ht_191 hvm_191 hr_192 hb_191 hz_191 hk_191 hS_191 => ?_)
          obtain ⟨qc_191, qa_191, m_qa_191, G_191⟩ := u_191
          rw [ht_191] at hb_191
          simp only at hb_191
          obtain ⟨⟨hb_1911, hb_1912, hb_1913, hb_1914, hb_1915, hb_1916⟩, hgq_191_0, hN_191, hbO_191, hbE_191⟩ := hb_191
          have hW_191 := hN_191
          have hN_191 : (jNk [0, 1, 2, 3, 4, 5, 6, 7, 8, 9, 11, 12, 13, 14, 15, 16, 175]) (va_up G_152 r0 (some (10, 0))) G_191 := hN_191.sub (by decide)
          have hh_191 : jSt (dC, dI) B base G0 G_191 EX8_initI s.heap (((0 + 1) + (1)) + ((m_qa_191 - m_qa_152) / 16)) (((0 + 2) + ((16 : Int).toNat)) + (2 * (m_qa_191 - m_qa_152))) [(H_143.size, 17, 1, .int qc_191), (H_143.size, 17, 0, .ref qa_191), (r0, 10, 0, .ref H_143.size), (r0, 10, 1, .null), (r0, 10, 2, .int 0), (r0, 10, 3, .int 0), (r0, 10, 4, .int (-1)), (r1, 6, 7, .int pv), (r1, 6, 8, .int pu), (r1, 6, 0, .ref wk), (r1, 6, 1, .ref wi), (r1, 6, 2, .ref wz), (r1, 6, 3, .ref jnx), (r1, 6, 4, .ref jkf), (r1, 6, 5, .ref jks), (r1, 6, 6, .ref jun)] [(wk, 140, 1502, ca 1, fk), (wi, 141, 1502, ca 1, fi), (wz, 142, 1502, ca 1, fz), (jnx, 143, 1502, ca 1, fn), (jkf, 144, 1502, ca 1, fa), (jks, 145, 1502, ca 1, fs), (jun, 146, 3000, ca 1, fu)] [(jFqd, jQD dC dI ca (va_up G_152 r0 (some (10, 0))) none (qq.put r0 0 (.ref H_143.size) .null))] H_191 locs_191 := (hh_189.callG hb_1911 hb_1912 hb_1913 hb_1914 hb_1915 hS_191 rfl (L1 := [(r0, 10, 0, .ref H_143.size), (r0, 10, 1, .null), (r0, 10, 2, .int 0), (r0, 10, 3, .int 0), (r0, 10, 4, .int (-1)), (r1, 6, 7, .int pv), (r1, 6, 8, .int pu), (r1, 6, 0, .ref wk), (r1, 6, 1, .ref wi), (r1, 6, 2, .ref wz), (r1, 6, 3, .ref jnx), (r1, 6, 4, .ref jkf), (r1, 6, 5, .ref jks), (r1, 6, 6, .ref jun)]) [0, 1, 2, 3, 4, 7, 8, 9, 10, 11, 12, 13, 14, 15] rfl rfl (M1 := [(wk, 140, 1502, ca 1, fk), (wi, 141, 1502, ca 1, fi), (wz, 142, 1502, ca 1, fz), (jnx, 143, 1502, ca 1, fn), (jkf, 144, 1502, ca 1, fa), (jks, 145, 1502, ca 1, fs), (jun, 146, 3000, ca 1, fu)]) [0, 1, 2, 3, 4, 5, 6] rfl rfl (I1 := [(jFqd, jQD dC dI ca (va_up G_152 r0 (some (10, 0))) none (qq.put r0 0 (.ref H_143.size) .null))]) [1] rfl rfl).more hb_1916
          have hNn_191 : (jNk [0, 1, 2, 3, 4, 5, 6, 7, 8, 9, 11, 12, 13, 14, 15, 16, 175]) G0 G_191 := (hNn_170).tr hN_191
          have hg_193 := hb_1912 _ _ hgn_170
          have hg_194 := hb_1912 _ _ hg_171
          have hg_195 := hb_1912 _ _ hg_182
          have hg_196 := hb_1912 _ _ hg_173
          have hg_197 := hb_1912 _ _ hg_174
          have hg_198 := hb_1912 _ _ hg_175
          have hg_199 := hb_1912 _ _ hg_176
          have hg_200 := hb_1912 _ _ hg_177
          have hg_201 := hb_1912 _ _ hg_178
          have hg_202 := hb_1912 _ _ hg_179
          have hd_203 := jQD.grow (ca := ca) (hh_191.iv 0 rfl) hb_1912 hW_191 (by decide)
          have hh_204 := hh_191.sub (L1 := [(H_143.size, 17, 1, .int qc_191), (H_143.size, 17, 0, .ref qa_191), (r0, 10, 0, .ref H_143.size), (r0, 10, 1, .null), (r0, 10, 2, .int 0), (r0, 10, 3, .int 0), (r0, 10, 4, .int (-1)), (r1, 6, 7, .int pv), (r1, 6, 8, .int pu), (r1, 6, 0, .ref wk), (r1, 6, 1, .ref wi), (r1, 6, 2, .ref wz), (r1, 6, 3, .ref jnx), (r1, 6, 4, .ref jkf), (r1, 6, 5, .ref jks), (r1, 6, 6, .ref jun)]) [0, 1, 2, 3, 4, 5, 6, 7, 8, 9, 10, 11, 12, 13, 14, 15] rfl (M1 := [(wk, 140, 1502, ca 1, fk), (wi, 141, 1502, ca 1, fi), (wz, 142, 1502, ca 1, fz), (jnx, 143, 1502, ca 1, fn), (jkf, 144, 1502, ca 1, fa), (jks, 145, 1502, ca 1, fs), (jun, 146, 3000, ca 1, fu)]) [0, 1, 2, 3, 4, 5, 6] rfl (I1 := []) [] rfl
          clear hh_191
          have hh_205 := hh_204.addI (jQD.ie hd_203)
          clear hh_204
          have hh_206 := hh_205.addIs hbE_191
          try simp only at hr_192
          obtain ⟨hr_192_0, hr_192_1, hr_192_2, hr_192_3, hr_192_4, hr_192_5⟩ := hr_192
          refine lv_goto (tgt := 120) hx hb dX8_init_92 (by decide) ?_
          have hsz_207 := hh_206.2.2.2.2.2.1
          have htt_207 := hh_206.2.2.2.2.2.2.1
          refine W.room (fun hrc_207 hrs_207 => ?_)
          refine W.widen (k := LC - s.heap.size) (n := LS - jTot s.heap) (by omega) (by omega) ?_
          rw [hQ]
          exact W.vret hx hb hr (fun t ht hW => ⟨⟨((qq.put r0 0 (.ref H_143.size) .null), (.ref H_143.size), (jUf (jUf ib (H_143.size) []) (H_143.size) ((jUf ib (H_143.size) []) (H_143.size) ++ jpN r_190.toInt)), G_191), rfl, by skip; (try dsimp only); exact ⟨rfl, jzRi.in (by rw [← hk14]; omega) hnw9 rfl hr_190⟩, ⟨hh_206.ra (by first | (simp only; omega) | omega) (by first | (simp only; omega) | omega) (M1 := []) [] rfl ht, hNn_191, hg_193, by rw [ht]; exact hh_206.2.2.2.2.2.2.2.2.sub (L1 := [(jFib, jIB dC dI ca G_191 0 (jUf (jUf ib (H_143.size) []) (H_143.size) ((jUf ib (H_143.size) []) (H_143.size) ++ jpN r_190.toInt))), (jFqd, jQD dC dI ca G_191 none (qq.put r0 0 (.ref H_143.size) .null))]) [0, 1] rfl⟩⟩, by rw [ht]; try exact hh_206.1.1, fun q h9 hq => by rw [ht]; try exact hh_206.1.2.1 q h9 hq⟩) hh_206.1.2.2 dX8_init_120
      · skip
        exact absurd c_147 (by decide)
    · skip
      have c_146' : r_144.toInt = 3 := jb_ne_n (rfl) ((by decide)) c_146
      first | (have hr_144_0q := hr_144_0.resolve_left (by omega); clear hr_144_0) | (have hr_144_0q := hr_144_0.resolve_right (by omega); clear hr_144_0) | try clear hr_144_0
      refine lv_aload_n hx hb dX8_init_33 rfl (lv_at hl 2 rfl) ?_
      refine lv_iload_n hx hb dX8_init_34 rfl (lv_at hl 3 rfl) ?_
      have hsz_208 := hh_143.2.2.2.2.2.1
      have htt_208 := hh_143.2.2.2.2.2.2.1
      refine W.room (fun hrc_208 hrs_208 => ?_)
      refine va_calli (A0 := jA base) (H0 := s.heap) (va_runV (As := [.int a2]) (rest := []) ⟨hx, hb, hml, hown, hts⟩ (uX4_sizeOfJ l dC dI ca base B hB hAp hB6 hB142 G0 H_143 r1 a2 pv pu wk wi wz jnx jkf jks jun T9 fk fi fz fn fa fs fu) (cwV 1 hts (jgV (jWr_24 _ (List.mem_of_getElem? (i := 6) rfl)) (jWr_24 _ (List.mem_of_getElem? (i := 7) rfl)) (jWr_24 _ (List.mem_of_getElem? (i := 8) rfl)) (jWr_1 _ (List.mem_of_getElem? (i := 22) rfl)) (jWr_24 _ (List.mem_of_getElem? (i := 9) rfl))) rfl rfl rfl (by decide +kernel) ⟨by rw [← hR]; exact Nat.le_of_ble_eq_true rfl, by rw [← hR]; exact Nat.le_of_ble_eq_true rfl⟩) ⟨fun a U g mk q => by obtain ⟨q0, q1, q2, qK, q10, q11, q12, q13, q14, q15, q16, q17, q18, q19, q20⟩ := q; exact ⟨q0, q1, q2, jG.calling g mk a qK, q10, q11, q12, q13, q14, q15, q16, q17, q18, q19, q20⟩, hh_143.recv (C := RX4) (T := TX4) (N := 12) hB6 rfl (by decide) hg_r1 hK, fun U hU hW => ⟨rfl, hU, hh_143.2.1, hG.step hW hU hh_143.1, hg_r1, hg_wk, hg_wi, hg_wz, hg_jnx, hg_jkf, hg_jks, hg_jun, (hh_143.2.2.1.sub (L1 := [(r1, 6, 7, .int pv), (r1, 6, 8, .int pu), (r1, 6, 0, .ref wk), (r1, 6, 1, .ref wi), (r1, 6, 2, .ref wz), (r1, 6, 3, .ref jnx), (r1, 6, 4, .ref jkf), (r1, 6, 5, .ref jks), (r1, 6, 6, .ref jun)]) [0, 1, 2, 3, 4, 5, 6, 7, 8] rfl), (hh_143.2.2.2.2.2.2.2.1.sub (L1 := [(wk, 140, 1502, ca 1, fk), (wi, 141, 1502, ca 1, fi), (wz, 142, 1502, ca 1, fz), (jnx, 143, 1502, ca 1, fn), (jkf, 144, 1502, ca 1, fa), (jks, 145, 1502, ca 1, fs), (jun, 146, 3000, ca 1, fu)]) [0, 1, 2, 3, 4, 5, 6] rfl), by first | omega | (refine ⟨?_, ?_, ?_, ?_, ?_⟩ <;> (first | omega | rfl | assumption | decide | exact Or.inl rfl | exact Or.inr rfl | (simp only; omega)))⟩⟩ rfl rfl hl.1 rfl (lv_room (Nat.le_of_ble_eq_true rfl)) dX8_init_35 ⟨by rw [hRc]; show _ + 0 ≤ _; omega, by rw [hRs]; show _ + 0 ≤ _; omega⟩) hh_143.1 (fun q _ h => h) (fun q h => h) (fun r_209 u_208 t_208 H_208 locs_208 ht_208 hvm_208 hr_209 hb_208 hz_208 hk_208 hS_208 => ?_)
      rw [ht_208] at hb_208
      obtain ⟨hb_208, hbF_208⟩ := hb_208
      obtain ⟨hb_2081, hb_2082, hb_2083, hb_2084, hb_2085⟩ := hb_208
      have hh_208 : jSt (dC, dI) B base G0 G0 EX8_initI s.heap 0 0 [(r1, 6, 7, .int pv), (r1, 6, 8, .int pu), (r1, 6, 0, .ref wk), (r1, 6, 1, .ref wi), (r1, 6, 2, .ref wz), (r1, 6, 3, .ref jnx), (r1, 6, 4, .ref jkf), (r1, 6, 5, .ref jks), (r1, 6, 6, .ref jun)] [(wk, 140, 1502, ca 1, fk), (wi, 141, 1502, ca 1, fi), (wz, 142, 1502, ca 1, fz), (jnx, 143, 1502, ca 1, fn), (jkf, 144, 1502, ca 1, fa), (jks, 145, 1502, ca 1, fs), (jun, 146, 3000, ca 1, fu)] [(jFib, jIB dC dI ca G0 0 ib), (jFqd, jQD dC dI ca G0 none qq)] H_208 locs_208 := ((hh_143.call hb_2081 hb_2082 hb_2083 hb_2084 hS_208 rfl (L1 := [(r1, 6, 7, .int pv), (r1, 6, 8, .int pu), (r1, 6, 0, .ref wk), (r1, 6, 1, .ref wi), (r1, 6, 2, .ref wz), (r1, 6, 3, .ref jnx), (r1, 6, 4, .ref jkf), (r1, 6, 5, .ref jks), (r1, 6, 6, .ref jun)]) [0, 1, 2, 3, 4, 5, 6, 7, 8] rfl rfl (M1 := [(wk, 140, 1502, ca 1, fk), (wi, 141, 1502, ca 1, fi), (wz, 142, 1502, ca 1, fz), (jnx, 143, 1502, ca 1, fn), (jkf, 144, 1502, ca 1, fa), (jks, 145, 1502, ca 1, fs), (jun, 146, 3000, ca 1, fu)]) [0, 1, 2, 3, 4, 5, 6] rfl rfl (I1 := [(jFib, jIB dC dI ca G0 0 ib), (jFqd, jQD dC dI ca G0 none qq)]) [0, 1] rfl rfl).more hb_2085)
      clear hh_143 ht_208 hvm_208 hz_208 hk_208 hS_208 hb_2081 hb_2082 hb_2083 hb_2084 hb_2085
      have hraw_210 := hraw_145.kept (hbF_208 _ (by simp))
      obtain ⟨hr_209_0, hr_209_1⟩ := hr_209
      have hz35 := hr_209_1
      refine lv_bipush (v := 20) hx hb dX8_init_38 (by decide) ?_
      refine lv_icmp_gt (tgt := 47) hx hb dX8_init_40 (by decide) (fun c_211 => ?_) (fun c_211 => ?_)
      · skip
        have c_211' : r_209.toInt > 20 := jb_gt (rfl) ((by decide)) c_211
        first | (have hr_209_0q := hr_209_0.resolve_left (by omega); clear hr_209_0) | (have hr_209_0q := hr_209_0.resolve_right (by omega); clear hr_209_0) | try clear hr_209_0
        refine lv_iconst (v := 0) hx hb dX8_init_47 (by decide) ?_
        refine lv_istore (lv' := [(4, .int 0), (3, .int 1), (0, .ref r0), (1, .ref r1), (2, .int a2)]) hx hb dX8_init_48 hl (by decide) rfl (fun ls hl => ?_)
        refine lv_aload_n hx hb dX8_init_50 rfl (lv_at hl 2 rfl) ?_
        refine lv_iload_n hx hb dX8_init_51 rfl (lv_at hl 1 rfl) ?_
        refine lv_if_ne (tgt := 60) hx hb dX8_init_52 (by decide) (fun c_212 => ?_) (fun c_212 => ?_)
        · skip
          have hsz_213 := hh_208.2.2.2.2.2.1
          have htt_213 := hh_208.2.2.2.2.2.2.1
          refine j7_newo (k := 17) (C := RX0) (T := TX0) (N := 2) (fs := [.null, .int 0]) hx hb htw jWc_wsX00 (fun k => ([(.array .byte), .int] : List FieldType).getD k .int) (by decide +kernel) hown (htw (.classLink RX8 24 RX0) (jWr_24 _ (List.mem_of_getElem? (i := 3) rfl))) (htw (.instantiable RX0 2) (jWr_1 _ (List.mem_of_getElem? (i := 13) rfl))) (htw (.initialized RX0) (jWr_1 _ (List.mem_of_getElem? (i := 14) rfl))) hK rfl (fun j hj => by rcases (by omega : j = 0 ∨ j = 1) with rfl | rfl <;> rfl) hh_208 hB (by rw [hRc]; omega) (by rw [hRs]; omega) dX8_init_60 (fun H_213 hraw_213 hfr_213 hnr_213 hh_213 => ?_)
          have hlt_214 := hraw_210.lt
          have hke_213 : jKe G0 G0 H_208 H_213 := jKe.raw hfr_213
          have hbr_213 : base ≤ H_208.size := Nat.le_trans hbs hh_208.1.1
          have hsy_213 : s.heap.size ≤ H_208.size := hh_208.1.1
          clear hh_208
          have hraw_215n := hke_213.nr hraw_210.lt hnr0
          have hraw_215 := hraw_210.kept (hke_213.1 _ hraw_210.lt)
          have hne_216 : r0 ≠ H_208.size := Nat.ne_of_lt hlt_214
          refine lv_dup hx hb dX8_init_63 rfl ?_
          refine lv_bipush (v := 16) hx hb dX8_init_64 (by decide) ?_
          have hsz_217 := hh_213.2.2.2.2.2.1
          have htt_217 := hh_213.2.2.2.2.2.2.1
          refine W.room (fun hrc_217 hrs_217 => ?_)
          refine va_callv (A0 := jA base) (H0 := s.heap) (va_runI (As := [.int 16]) (rest := [.ref H_208.size, .ref r0]) ⟨hx, hb, hml, hown, hts⟩ (uX0_initI l dC dI ca base B hB hAp hB2 hB17 hB196 hB199 G0 H_213 H_208.size 16 ib LC LS) (cwI 1 hts (jgW (jWr_3 _ (List.mem_of_getElem? (i := 3) rfl))) rfl rfl rfl (htw (.initialized RX0) (jWr_1 _ (List.mem_of_getElem? (i := 14) rfl))) (htw (.methodLink RX8 26 yX0_init) (jWr_24 _ (List.mem_of_getElem? (i := 10) rfl))) (htw (.instanceMethod yX0_init) (jWr_3 _ (List.mem_of_getElem? (i := 2) rfl))) rfl (by decide +kernel) ⟨by rw [← hR]; exact Nat.le_of_ble_eq_true rfl, by rw [← hR]; exact Nat.le_of_ble_eq_true rfl⟩) ⟨fun a U g mk q => by obtain ⟨q0, q1, q2, qK, q10, q11, q12, q13, q14, q15⟩ := q; exact ⟨q0, q1, q2, jG.calling g mk a qK, q10, q11, q12, q13, q14, q15⟩, fun U hU hW => ⟨rfl, hU, hh_213.2.1, hG.step hW hU hh_213.1, hraw_213, hnr_213, hbr_213, jP.nil, (hh_213.2.2.2.2.2.2.2.2.sub (L1 := [(jFib, jIB dC dI ca G0 0 ib)]) [0] rfl), (by omega), (by omega), by first | omega | (refine ⟨?_, ?_⟩ <;> (first | omega | rfl | assumption | decide | exact Or.inl rfl | exact Or.inr rfl | (simp only; omega)))⟩⟩ rfl rfl hl.1 rfl (lv_room (Nat.le_of_ble_eq_true rfl)) dX8_init_66 ⟨by rw [hRc]; omega, by rw [hRs]; omega⟩) hh_213.1 (fun q _ h => h) (fun q h => h) (fun u_217 t_217 H_217 locs_217 ht_217 hvm_217 hr_218 hb_217 hz_217 hk_217 hS_217 => ?_)
          obtain ⟨qc_217, qa_217, m_qa_217, G_217⟩ := u_217
          rw [ht_217] at hb_217
          simp only at hb_217
          obtain ⟨⟨hb_2171, hb_2172, hb_2173, hb_2174, hb_2175, hb_2176⟩, hgq_217_0, hN_217, hgc_217, hbX_217, hbE_217⟩ := hb_217
          have hW_217 := hN_217
          have hN_217 : (jNk [0, 1, 2, 3, 4, 5, 6, 7, 8, 9, 11, 12, 13, 14, 15, 16, 175]) G0 G_217 := hN_217.sub (by decide)
          have hh_217 : jSt (dC, dI) B base G0 G_217 EX8_initI s.heap ((0 + 1) + (1)) ((0 + 2) + ((16 : Int).toNat)) [(H_208.size, 17, 1, .int qc_217), (H_208.size, 17, 0, .ref qa_217), (r1, 6, 7, .int pv), (r1, 6, 8, .int pu), (r1, 6, 0, .ref wk), (r1, 6, 1, .ref wi), (r1, 6, 2, .ref wz), (r1, 6, 3, .ref jnx), (r1, 6, 4, .ref jkf), (r1, 6, 5, .ref jks), (r1, 6, 6, .ref jun)] [(wk, 140, 1502, ca 1, fk), (wi, 141, 1502, ca 1, fi), (wz, 142, 1502, ca 1, fz), (jnx, 143, 1502, ca 1, fn), (jkf, 144, 1502, ca 1, fa), (jks, 145, 1502, ca 1, fs), (jun, 146, 3000, ca 1, fu)] [(jFqd, jQD dC dI ca G0 none qq)] H_217 locs_217 := (hh_213.callG hb_2171 hb_2172 hb_2173 hb_2174 hb_2175 hS_217 rfl (L1 := [(r1, 6, 7, .int pv), (r1, 6, 8, .int pu), (r1, 6, 0, .ref wk), (r1, 6, 1, .ref wi), (r1, 6, 2, .ref wz), (r1, 6, 3, .ref jnx), (r1, 6, 4, .ref jkf), (r1, 6, 5, .ref jks), (r1, 6, 6, .ref jun)]) [0, 1, 2, 3, 4, 5, 6, 7, 8] rfl rfl (M1 := [(wk, 140, 1502, ca 1, fk), (wi, 141, 1502, ca 1, fi), (wz, 142, 1502, ca 1, fz), (jnx, 143, 1502, ca 1, fn), (jkf, 144, 1502, ca 1, fa), (jks, 145, 1502, ca 1, fs), (jun, 146, 3000, ca 1, fu)]) [0, 1, 2, 3, 4, 5, 6] rfl rfl (I1 := [(jFqd, jQD dC dI ca G0 none qq)]) [1] rfl rfl).more hb_2176
          have hNn_217 : (jNk [0, 1, 2, 3, 4, 5, 6, 7, 8, 9, 11, 12, 13, 14, 15, 16, 175]) G0 G_217 := (jNk.rf).tr hN_217
          have hg_219 := hb_2172 _ _ hg_r1
          have hg_220 := hb_2172 _ _ hg_wk
          have hg_221 := hb_2172 _ _ hg_wi
          have hg_222 := hb_2172 _ _ hg_wz
          have hg_223 := hb_2172 _ _ hg_jnx
          have hg_224 := hb_2172 _ _ hg_jkf
          have hg_225 := hb_2172 _ _ hg_jks
          have hg_226 := hb_2172 _ _ hg_jun
          have hd_227 := jQD.grow (ca := ca) (hh_217.iv 0 rfl) hb_2172 hW_217 (by decide)
          have hh_228 := hh_217.sub (L1 := [(H_208.size, 17, 1, .int qc_217), (H_208.size, 17, 0, .ref qa_217), (r1, 6, 7, .int pv), (r1, 6, 8, .int pu), (r1, 6, 0, .ref wk), (r1, 6, 1, .ref wi), (r1, 6, 2, .ref wz), (r1, 6, 3, .ref jnx), (r1, 6, 4, .ref jkf), (r1, 6, 5, .ref jks), (r1, 6, 6, .ref jun)]) [0, 1, 2, 3, 4, 5, 6, 7, 8, 9, 10] rfl (M1 := [(wk, 140, 1502, ca 1, fk), (wi, 141, 1502, ca 1, fi), (wz, 142, 1502, ca 1, fz), (jnx, 143, 1502, ca 1, fn), (jkf, 144, 1502, ca 1, fa), (jks, 145, 1502, ca 1, fs), (jun, 146, 3000, ca 1, fu)]) [0, 1, 2, 3, 4, 5, 6] rfl (I1 := []) [] rfl
          clear hh_217
          have hh_229 := hh_228.addI (jQD.ie hd_227)
          clear hh_228
          have hh_230 := hh_229.addIs hbE_217
          try simp only at hr_218
          obtain ⟨hr_218_0, hr_218_1⟩ := hr_218
          have hraw_231x := hbX_217.ke hraw_215.lt hne_216 hraw_215n
          have hraw_231 := hraw_215.kept hraw_231x.1
          have hnw9 : s.heap.size ≤ H_208.size := hsy_213
          refine lv_goto (tgt := 73) hx hb dX8_init_69 (by decide) ?_
          refine j7_putRF hx hb hown hK hh_230 hB hAp hraw_231 hraw_231x.2 hbr0 (C := RX8) (T := TX8) (N := 5) rfl (i := 0) (by decide) (Nat.le_of_ble_eq_true rfl) hly_10_0 rfl hin2 rfl hlk_29 (ty := (.object "ProofServer$Bytes")) (v := .ref H_208.size) (by decide +kernel) rfl rfl dX8_init_73 (fun H_232 locs_232 hraw_232 hr_232 hh_232 => ?_)
          have hraw_232 : va_at (dC, dI) vwCl (r0, .inr (10, [.ref H_208.size, .null, .int 0, .int 0, .int (-1)])) H_232 := hraw_232
          clear hh_230
          have hd_233 := jQD.typ (ca := ca) (n := 0) (hh_232.iv 1 rfl) hraw_231x.2 (jf.raw (C := RX8) (T := TX8) (N := 5) rfl hraw_232 (i := 2) (by decide)) (jf.raw (C := RX8) (T := TX8) (N := 5) rfl hraw_232 (i := 0) (by decide)) (jf.raw (C := RX8) (T := TX8) (N := 5) rfl hraw_232 (i := 1) (by decide))
          have hh_234 := hh_232.sub (L1 := [(H_208.size, 17, 1, .int qc_217), (H_208.size, 17, 0, .ref qa_217), (r1, 6, 7, .int pv), (r1, 6, 8, .int pu), (r1, 6, 0, .ref wk), (r1, 6, 1, .ref wi), (r1, 6, 2, .ref wz), (r1, 6, 3, .ref jnx), (r1, 6, 4, .ref jkf), (r1, 6, 5, .ref jks), (r1, 6, 6, .ref jun)]) [0, 1, 2, 3, 4, 5, 6, 7, 8, 9, 10] rfl (M1 := [(wk, 140, 1502, ca 1, fk), (wi, 141, 1502, ca 1, fi), (wz, 142, 1502, ca 1, fz), (jnx, 143, 1502, ca 1, fn), (jkf, 144, 1502, ca 1, fa), (jks, 145, 1502, ca 1, fs), (jun, 146, 3000, ca 1, fu)]) [0, 1, 2, 3, 4, 5, 6] rfl (I1 := [(jFib, jIB dC dI ca G_217 0 (jUf ib (H_208.size) []))]) [0] rfl
          clear hh_232
          have hle_235 : jLe G_217 (va_up G_217 r0 (some (10, 0))) := jLe.typ hraw_231x.2
          have hg_236 := hle_235 _ _ hg_219
          have hg_237 := hle_235 _ _ hgq_217_0
          have hg_238 := hle_235 _ _ hg_220
          have hg_239 := hle_235 _ _ hg_221
          have hg_240 := hle_235 _ _ hg_222
          have hg_241 := hle_235 _ _ hg_223
          have hg_242 := hle_235 _ _ hg_224
          have hg_243 := hle_235 _ _ hg_225
          have hg_244 := hle_235 _ _ hg_226
          have hg_245 := (jLe.rf).tr hle_235 _ _ hgc_217
          have hfa_235 : jRn (va_up G_217 r0 (some (10, 0))) 17 0 (.ref H_208.size) ∧ jRn (va_up G_217 r0 (some (10, 0))) 3 0 (.null) ∧ jIa (.int 0) ∧ jZb (.int 0) ∧ jIa (.int (-1)) ∧ True := ⟨Or.inr ⟨_, rfl, hg_245⟩, Or.inl rfl, ⟨_, rfl⟩, ⟨_, rfl, Or.inl rfl⟩, ⟨_, rfl⟩, trivial⟩
          have hh_235 := hh_234.typ (k := 10) (n := 0) hB hraw_231x.2 hbr0 hraw_232.lt (jOb.of (C := RX8) (T := TX8) (N := 5) (F := F10) hB10 rfl hraw_232 (show jFx (F10 0 (va_up G_217 r0 (some (10, 0)))) [.ref H_208.size, .null, .int 0, .int 0, .int (-1)] from hfa_235))
          have hgn_235 : (va_up G_217 r0 (some (10, 0))) r0 = some (10, 0) := jUp_self
          have hN_235 : (jNk [0, 1, 2, 3, 4, 5, 6, 7, 8, 9, 11, 12, 13, 14, 15, 16, 175]) G_217 (va_up G_217 r0 (some (10, 0))) := jNk.new (by decide)
          have hNn_235 : (jNk [0, 1, 2, 3, 4, 5, 6, 7, 8, 9, 11, 12, 13, 14, 15, 16, 175]) G0 (va_up G_217 r0 (some (10, 0))) := (hNn_217).tr hN_235
          have hh_246 := hh_235.addI (jQD.ie (ca := ca) hd_233)
          clear hh_235
          have hg_247 := (hle_235) _ _ hgc_217
          have hh_248 := hh_246.more (P1 := [(r0, 10, 0, .ref H_208.size), (r0, 10, 1, .null), (r0, 10, 2, .int 0), (r0, 10, 3, .int 0), (r0, 10, 4, .int (-1))]) (jP.cons hgn_235 (jf.raw (C := RX8) (T := TX8) (N := 5) rfl hraw_232 (i := 0) (by decide)) (jP.cons hgn_235 (jf.raw (C := RX8) (T := TX8) (N := 5) rfl hraw_232 (i := 1) (by decide)) (jP.cons hgn_235 (jf.raw (C := RX8) (T := TX8) (N := 5) rfl hraw_232 (i := 2) (by decide)) (jP.cons hgn_235 (jf.raw (C := RX8) (T := TX8) (N := 5) rfl hraw_232 (i := 3) (by decide)) (jP.cons hgn_235 (jf.raw (C := RX8) (T := TX8) (N := 5) rfl hraw_232 (i := 4) (by decide)) jP.nil)))))
          have hM_235 : jNk [1, 2, 11] G_217 (va_up G_217 r0 (some (10, 0))) := jNk.new (by decide)
          have hW_235 : jNk [0, 1, 2, 3, 4, 5, 6, 7, 8, 9, 11, 12, 13, 14, 15, 16, 17, 175] G_217 (va_up G_217 r0 (some (10, 0))) := jNk.new (by decide)
          have hd_250 := jIB.grow (r := 0) (hh_248.iv 1 rfl) hle_235 hW_235 (by decide)
          have hh_251 := hh_248.sub (L1 := [(r0, 10, 0, .ref H_208.size), (r0, 10, 1, .null), (r0, 10, 2, .int 0), (r0, 10, 3, .int 0), (r0, 10, 4, .int (-1)), (H_208.size, 17, 1, .int qc_217), (H_208.size, 17, 0, .ref qa_217), (r1, 6, 7, .int pv), (r1, 6, 8, .int pu), (r1, 6, 0, .ref wk), (r1, 6, 1, .ref wi), (r1, 6, 2, .ref wz), (r1, 6, 3, .ref jnx), (r1, 6, 4, .ref jkf), (r1, 6, 5, .ref jks), (r1, 6, 6, .ref jun)]) [0, 1, 2, 3, 4, 5, 6, 7, 8, 9, 10, 11, 12, 13, 14, 15] rfl (M1 := [(wk, 140, 1502, ca 1, fk), (wi, 141, 1502, ca 1, fi), (wz, 142, 1502, ca 1, fz), (jnx, 143, 1502, ca 1, fn), (jkf, 144, 1502, ca 1, fa), (jks, 145, 1502, ca 1, fs), (jun, 146, 3000, ca 1, fu)]) [0, 1, 2, 3, 4, 5, 6] rfl (I1 := [(jFqd, jQD dC dI ca (va_up G_217 r0 (some (10, 0))) none (qq.put r0 0 (.ref H_208.size) .null))]) [0] rfl
          clear hh_248
          have hh_252 := hh_251.addI (jIB.ie hd_250)
          clear hh_251
          refine lv_iload_n hx hb dX8_init_76 rfl (lv_at hl 1 rfl) ?_
          refine lv_if_eq (tgt := 95) hx hb dX8_init_77 (by decide) (fun c_253 => ?_) (fun c_253 => ?_)
          · skip
            exact absurd c_253 (by decide)
          · skip
            refine lv_aload_n hx hb dX8_init_80 rfl (lv_at hl 2 rfl) ?_
            refine j7_read hx hb hown hK (C := RX8) (T := TX8) (N := 5) rfl hly_10_0 hlk_29 (hh_252.at 0 rfl) dX8_init_81 ?_
            refine lv_aload_n hx hb dX8_init_84 rfl (lv_at hl 3 rfl) ?_
            refine lv_iload_n hx hb dX8_init_85 rfl (lv_at hl 4 rfl) ?_
            have hsz_254 := hh_252.2.2.2.2.2.1
            have htt_254 := hh_252.2.2.2.2.2.2.1
            refine W.room (fun hrc_254 hrs_254 => ?_)
            refine va_calli (A0 := jA base) (H0 := s.heap) (va_runV (As := [.int a2]) (rest := [.ref H_208.size]) ⟨hx, hb, hml, hown, hts⟩ (uX4_valueOfJ l dC dI ca base B hB hAp hB6 hB141 (va_up G_217 r0 (some (10, 0))) H_232 r1 a2 pv pu wk wi wz jnx jkf jks jun T9 fk fi fz fn fa fs fu) (cwV 1 hts (jgV (jWr_24 _ (List.mem_of_getElem? (i := 11) rfl)) (jWr_24 _ (List.mem_of_getElem? (i := 12) rfl)) (jWr_24 _ (List.mem_of_getElem? (i := 13) rfl)) (jWr_1 _ (List.mem_of_getElem? (i := 22) rfl)) (jWr_24 _ (List.mem_of_getElem? (i := 14) rfl))) rfl rfl rfl (by decide +kernel) ⟨by rw [← hR]; exact Nat.le_of_ble_eq_true rfl, by rw [← hR]; exact Nat.le_of_ble_eq_true rfl⟩) ⟨fun a U g mk q => by obtain ⟨q0, q1, q2, qK, q10, q11, q12, q13, q14, q15, q16, q17, q18, q19, q20⟩ := q; exact ⟨q0, q1, q2, jG.calling g mk a qK, q10, q11, q12, q13, q14, q15, q16, q17, q18, q19, q20⟩, hh_252.recv (C := RX4) (T := TX4) (N := 12) hB6 rfl (by decide) hg_236 hK, fun U hU hW => ⟨rfl, hU, hh_252.2.1, hG.step hW hU hh_252.1, hg_236, hg_238, hg_239, hg_240, hg_241, hg_242, hg_243, hg_244, (hh_252.2.2.1.sub (L1 := [(r1, 6, 7, .int pv), (r1, 6, 8, .int pu), (r1, 6, 0, .ref wk), (r1, 6, 1, .ref wi), (r1, 6, 2, .ref wz), (r1, 6, 3, .ref jnx), (r1, 6, 4, .ref jkf), (r1, 6, 5, .ref jks), (r1, 6, 6, .ref jun)]) [7, 8, 9, 10, 11, 12, 13, 14, 15] rfl), (hh_252.2.2.2.2.2.2.2.1.sub (L1 := [(wk, 140, 1502, ca 1, fk), (wi, 141, 1502, ca 1, fi), (wz, 142, 1502, ca 1, fz), (jnx, 143, 1502, ca 1, fn), (jkf, 144, 1502, ca 1, fa), (jks, 145, 1502, ca 1, fs), (jun, 146, 3000, ca 1, fu)]) [0, 1, 2, 3, 4, 5, 6] rfl), by first | omega | (refine ⟨?_, ?_, ?_, ?_, ?_⟩ <;> (first | omega | rfl | assumption | decide | exact Or.inl rfl | exact Or.inr rfl | (simp only; omega)))⟩⟩ rfl rfl hl.1 rfl (lv_room (Nat.le_of_ble_eq_true rfl)) dX8_init_86 ⟨by rw [hRc]; show _ + 0 ≤ _; omega, by rw [hRs]; show _ + 0 ≤ _; omega⟩) hh_252.1 (fun q _ h => h) (fun q h => h) (fun r_255 u_254 t_254 H_254 locs_254 ht_254 hvm_254 hr_255 hb_254 hz_254 hk_254 hS_254 => ?_)
            rw [ht_254] at hb_254
            obtain ⟨hb_254, hbF_254⟩ := hb_254
            obtain ⟨hb_2541, hb_2542, hb_2543, hb_2544, hb_2545⟩ := hb_254
            have hh_254 : jSt (dC, dI) B base G0 (va_up G_217 r0 (some (10, 0))) EX8_initI s.heap ((0 + 1) + (1)) ((0 + 2) + ((16 : Int).toNat)) [(r0, 10, 0, .ref H_208.size), (r0, 10, 1, .null), (r0, 10, 2, .int 0), (r0, 10, 3, .int 0), (r0, 10, 4, .int (-1)), (H_208.size, 17, 1, .int qc_217), (H_208.size, 17, 0, .ref qa_217), (r1, 6, 7, .int pv), (r1, 6, 8, .int pu), (r1, 6, 0, .ref wk), (r1, 6, 1, .ref wi), (r1, 6, 2, .ref wz), (r1, 6, 3, .ref jnx), (r1, 6, 4, .ref jkf), (r1, 6, 5, .ref jks), (r1, 6, 6, .ref jun)] [(wk, 140, 1502, ca 1, fk), (wi, 141, 1502, ca 1, fi), (wz, 142, 1502, ca 1, fz), (jnx, 143, 1502, ca 1, fn), (jkf, 144, 1502, ca 1, fa), (jks, 145, 1502, ca 1, fs), (jun, 146, 3000, ca 1, fu)] [(jFib, jIB dC dI ca (va_up G_217 r0 (some (10, 0))) 0 (jUf ib (H_208.size) [])), (jFqd, jQD dC dI ca (va_up G_217 r0 (some (10, 0))) none (qq.put r0 0 (.ref H_208.size) .null))] H_254 locs_254 := ((hh_252.call hb_2541 hb_2542 hb_2543 hb_2544 hS_254 rfl (L1 := [(r0, 10, 0, .ref H_208.size), (r0, 10, 1, .null), (r0, 10, 2, .int 0), (r0, 10, 3, .int 0), (r0, 10, 4, .int (-1)), (H_208.size, 17, 1, .int qc_217), (H_208.size, 17, 0, .ref qa_217), (r1, 6, 7, .int pv), (r1, 6, 8, .int pu), (r1, 6, 0, .ref wk), (r1, 6, 1, .ref wi), (r1, 6, 2, .ref wz), (r1, 6, 3, .ref jnx), (r1, 6, 4, .ref jkf), (r1, 6, 5, .ref jks), (r1, 6, 6, .ref jun)]) [0, 1, 2, 3, 4, 5, 6, 7, 8, 9, 10, 11, 12, 13, 14, 15] rfl rfl (M1 := [(wk, 140, 1502, ca 1, fk), (wi, 141, 1502, ca 1, fi), (wz, 142, 1502, ca 1, fz), (jnx, 143, 1502, ca 1, fn), (jkf, 144, 1502, ca 1, fa), (jks, 145, 1502, ca 1, fs), (jun, 146, 3000, ca 1, fu)]) [0, 1, 2, 3, 4, 5, 6] rfl rfl (I1 := [(jFib, jIB dC dI ca (va_up G_217 r0 (some (10, 0))) 0 (jUf ib (H_208.size) [])), (jFqd, jQD dC dI ca (va_up G_217 r0 (some (10, 0))) none (qq.put r0 0 (.ref H_208.size) .null))]) [0, 1] rfl rfl).more hb_2545)
            clear hh_252 ht_254 hvm_254 hz_254 hk_254 hS_254 hb_2541 hb_2542 hb_2543 hb_2544 hb_2545
            have hsz_256 := hh_254.2.2.2.2.2.1
            have htt_256 := hh_254.2.2.2.2.2.2.1
            refine W.room (fun hrc_256 hrs_256 => ?_)
            refine va_callv (A0 := jA base) (H0 := s.heap) (va_runV (As := [.int r_255]) (rest := []) ⟨hx, hb, hml, hown, hts⟩ (uX0_numberI l dC dI ca base B hB hAp hB2 hB17 hB196 hB199 (va_up G_217 r0 (some (10, 0))) H_254 H_208.size r_255 qc_217 qa_217 m_qa_217 (jUf ib (H_208.size) []) LC LS) (cwV 1 hts (jgV (jWr_24 _ (List.mem_of_getElem? (i := 15) rfl)) (jWr_24 _ (List.mem_of_getElem? (i := 16) rfl)) (jWr_24 _ (List.mem_of_getElem? (i := 17) rfl)) (jWr_1 _ (List.mem_of_getElem? (i := 14) rfl)) (jWr_24 _ (List.mem_of_getElem? (i := 18) rfl))) rfl rfl rfl (by decide +kernel) ⟨by rw [← hR]; exact Nat.le_of_ble_eq_true rfl, by rw [← hR]; exact Nat.le_of_ble_eq_true rfl⟩) ⟨fun a U g mk q => by obtain ⟨q0, q1, q2, qK, q10, q11, q12, q13, q14⟩ := q; exact ⟨q0, q1, q2, jG.calling g mk a qK, q10, q11, q12, q13, q14⟩, hh_254.recv (C := RX0) (T := TX0) (N := 2) hB17 rfl (by decide) hg_247 hK, fun U hU hW => ⟨rfl, hU, hh_254.2.1, hG.step hW hU hh_254.1, hg_247, hg_237, (hh_254.2.2.1.sub (L1 := [(H_208.size, 17, 1, .int qc_217), (H_208.size, 17, 0, .ref qa_217)]) [5, 6] rfl), (hh_254.2.2.2.2.2.2.2.2.sub (L1 := [(jFib, jIB dC dI ca (va_up G_217 r0 (some (10, 0))) 0 (jUf ib (H_208.size) []))]) [0] rfl), (by omega), (by omega), ⟨(by first | omega | rfl | assumption | exact jPw.z16.cg (by omega)), (by first | omega | rfl | assumption | exact jPw.z16.cg (by omega)), (by first | omega | rfl | assumption | exact jPw.z16.cg (by omega)), (by first | omega | rfl | assumption | exact jPw.z16.cg (by omega)), (by first | assumption | exact jPw.z16.cg (by omega) | omega), (by first | omega | rfl | assumption | exact jPw.z16.cg (by omega))⟩⟩⟩ rfl rfl hl.1 rfl (lv_room (Nat.le_of_ble_eq_true rfl)) dX8_init_89 ⟨by rw [hRc]; omega, by rw [hRs]; omega⟩) hh_254.1 (fun q _ h => h) (fun q h => h) (fun u_256 t_256 H_256 locs_256 ht_256 hvm_256 hr_257 hb_256 hz_256 hk_256 hS_256 => ?_)
            obtain ⟨qc_256, qa_256, m_qa_256, G_256⟩ := u_256
            rw [ht_256] at hb_256
            simp only at hb_256
            obtain ⟨⟨hb_2561, hb_2562, hb_2563, hb_2564, hb_2565, hb_2566⟩, hgq_256_0, hN_256, hbO_256, hbE_256⟩ := hb_256
            have hW_256 := hN_256
            have hN_256 : (jNk [0, 1, 2, 3, 4, 5, 6, 7, 8, 9, 11, 12, 13, 14, 15, 16, 175]) (va_up G_217 r0 (some (10, 0))) G_256 := hN_256.sub (by decide)
            have hh_256 : jSt (dC, dI) B base G0 G_256 EX8_initI s.heap (((0 + 1) + (1)) + ((m_qa_256 - m_qa_217) / 16)) (((0 + 2) + ((16 : Int).toNat)) + (2 * (m_qa_256 - m_qa_217))) [(H_208.size, 17, 1, .int qc_256), (H_208.size, 17, 0, .ref qa_256), (r0, 10, 0, .ref H_208.size), (r0, 10, 1, .null), (r0, 10, 2, .int 0), (r0, 10, 3, .int 0), (r0, 10, 4, .int (-1)), (r1, 6, 7, .int pv), (r1, 6, 8, .int pu), (r1, 6, 0, .ref wk), (r1, 6, 1, .ref wi), (r1, 6, 2, .ref wz), (r1, 6, 3, .ref jnx), (r1, 6, 4, .ref jkf), (r1, 6, 5, .ref jks), (r1, 6, 6, .ref jun)] [(wk, 140, 1502, ca 1, fk), (wi, 141, 1502, ca 1, fi), (wz, 142, 1502, ca 1, fz), (jnx, 143, 1502, ca 1, fn), (jkf, 144, 1502, ca 1, fa), (jks, 145, 1502, ca 1, fs), (jun, 146, 3000, ca 1, fu)] [(jFqd, jQD dC dI ca (va_up G_217 r0 (some (10, 0))) none (qq.put r0 0 (.ref H_208.size) .null))] H_256 locs_256 := (hh_254.callG hb_2561 hb_2562 hb_2563 hb_2564 hb_2565 hS_256 rfl (L1 := [(r0, 10, 0, .ref H_208.size), (r0, 10, 1, .null), (r0, 10, 2, .int 0), (r0, 10, 3, .int 0), (r0, 10, 4, .int (-1)), (r1, 6, 7, .int pv), (r1, 6, 8, .int pu), (r1, 6, 0, .ref wk), (r1, 6, 1, .ref wi), (r1, 6, 2, .ref wz), (r1, 6, 3, .ref jnx), (r1, 6, 4, .ref jkf), (r1, 6, 5, .ref jks), (r1, 6, 6, .ref jun)]) [0, 1, 2, 3, 4, 7, 8, 9, 10, 11, 12, 13, 14, 15] rfl rfl (M1 := [(wk, 140, 1502, ca 1, fk), (wi, 141, 1502, ca 1, fi), (wz, 142, 1502, ca 1, fz), (jnx, 143, 1502, ca 1, fn), (jkf, 144, 1502, ca 1, fa), (jks, 145, 1502, ca 1, fs), (jun, 146, 3000, ca 1, fu)]) [0, 1, 2, 3, 4, 5, 6] rfl rfl (I1 := [(jFqd, jQD dC dI ca (va_up G_217 r0 (some (10, 0))) none (qq.put r0 0 (.ref H_208.size) .null))]) [1] rfl rfl).more hb_2566
            have hNn_256 : (jNk [0, 1, 2, 3, 4, 5, 6, 7, 8, 9, 11, 12, 13, 14, 15, 16, 175]) G0 G_256 := (hNn_235).tr hN_256
            have hg_258 := hb_2562 _ _ hgn_235
            have hg_259 := hb_2562 _ _ hg_236
            have hg_260 := hb_2562 _ _ hg_247
            have hg_261 := hb_2562 _ _ hg_238
            have hg_262 := hb_2562 _ _ hg_239
            have hg_263 := hb_2562 _ _ hg_240
            have hg_264 := hb_2562 _ _ hg_241
            have hg_265 := hb_2562 _ _ hg_242
            have hg_266 := hb_2562 _ _ hg_243
            have hg_267 := hb_2562 _ _ hg_244
            have hd_268 := jQD.grow (ca := ca) (hh_256.iv 0 rfl) hb_2562 hW_256 (by decide)
            have hh_269 := hh_256.sub (L1 := [(H_208.size, 17, 1, .int qc_256), (H_208.size, 17, 0, .ref qa_256), (r0, 10, 0, .ref H_208.size), (r0, 10, 1, .null), (r0, 10, 2, .int 0), (r0, 10, 3, .int 0), (r0, 10, 4, .int (-1)), (r1, 6, 7, .int pv), (r1, 6, 8, .int pu), (r1, 6, 0, .ref wk), (r1, 6, 1, .ref wi), (r1, 6, 2, .ref wz), (r1, 6, 3, .ref jnx), (r1, 6, 4, .ref jkf), (r1, 6, 5, .ref jks), (r1, 6, 6, .ref jun)]) [0, 1, 2, 3, 4, 5, 6, 7, 8, 9, 10, 11, 12, 13, 14, 15] rfl (M1 := [(wk, 140, 1502, ca 1, fk), (wi, 141, 1502, ca 1, fi), (wz, 142, 1502, ca 1, fz), (jnx, 143, 1502, ca 1, fn), (jkf, 144, 1502, ca 1, fa), (jks, 145, 1502, ca 1, fs), (jun, 146, 3000, ca 1, fu)]) [0, 1, 2, 3, 4, 5, 6] rfl (I1 := []) [] rfl
            clear hh_256
            have hh_270 := hh_269.addI (jQD.ie hd_268)
            clear hh_269
            have hh_271 := hh_270.addIs hbE_256
            try simp only at hr_257
            obtain ⟨hr_257_0, hr_257_1, hr_257_2, hr_257_3, hr_257_4, hr_257_5⟩ := hr_257
            refine lv_goto (tgt := 120) hx hb dX8_init_92 (by decide) ?_
            have hsz_272 := hh_271.2.2.2.2.2.1
            have htt_272 := hh_271.2.2.2.2.2.2.1
            refine W.room (fun hrc_272 hrs_272 => ?_)
            refine W.widen (k := LC - s.heap.size) (n := LS - jTot s.heap) (by omega) (by omega) ?_
            rw [hQ]
            exact W.vret hx hb hr (fun t ht hW => ⟨⟨((qq.put r0 0 (.ref H_208.size) .null), (.ref H_208.size), (jUf (jUf ib (H_208.size) []) (H_208.size) ((jUf ib (H_208.size) []) (H_208.size) ++ jpN r_255.toInt)), G_256), rfl, by skip; (try dsimp only); exact ⟨rfl, jzRi.in (by rw [← hk14]; omega) hnw9 rfl hr_255⟩, ⟨hh_271.ra (by first | (simp only; omega) | omega) (by first | (simp only; omega) | omega) (M1 := []) [] rfl ht, hNn_256, hg_258, by rw [ht]; exact hh_271.2.2.2.2.2.2.2.2.sub (L1 := [(jFib, jIB dC dI ca G_256 0 (jUf (jUf ib (H_208.size) []) (H_208.size) ((jUf ib (H_208.size) []) (H_208.size) ++ jpN r_255.toInt))), (jFqd, jQD dC dI ca G_256 none (qq.put r0 0 (.ref H_208.size) .null))]) [0, 1] rfl⟩⟩, by rw [ht]; try exact hh_271.1.1, fun q h9 hq => by rw [ht]; try exact hh_271.1.2.1 q h9 hq⟩) hh_271.1.2.2 dX8_init_120
        · skip
          exact absurd c_212 (by decide)
      · skip
        have c_211' : r_209.toInt ≤ 20 := jb_gt_n (rfl) ((by decide)) c_211
        first | (have hr_209_0q := hr_209_0.resolve_left (by omega); clear hr_209_0) | (have hr_209_0q := hr_209_0.resolve_right (by omega); clear hr_209_0) | try clear hr_209_0
        refine lv_iconst (v := 1) hx hb dX8_init_43 (by decide) ?_
        refine lv_goto (tgt := 48) hx hb dX8_init_44 (by decide) ?_
        refine lv_istore (lv' := [(4, .int 1), (3, .int 1), (0, .ref r0), (1, .ref r1), (2, .int a2)]) hx hb dX8_init_48 hl (by decide) rfl (fun ls hl => ?_)
        refine lv_aload_n hx hb dX8_init_50 rfl (lv_at hl 2 rfl) ?_
        refine lv_iload_n hx hb dX8_init_51 rfl (lv_at hl 1 rfl) ?_
        refine lv_if_ne (tgt := 60) hx hb dX8_init_52 (by decide) (fun c_273 => ?_) (fun c_273 => ?_)
        · skip
          have hsz_274 := hh_208.2.2.2.2.2.1
          have htt_274 := hh_208.2.2.2.2.2.2.1
          refine j7_newo (k := 17) (C := RX0) (T := TX0) (N := 2) (fs := [.null, .int 0]) hx hb htw jWc_wsX00 (fun k => ([(.array .byte), .int] : List FieldType).getD k .int) (by decide +kernel) hown (htw (.classLink RX8 24 RX0) (jWr_24 _ (List.mem_of_getElem? (i := 3) rfl))) (htw (.instantiable RX0 2) (jWr_1 _ (List.mem_of_getElem? (i := 13) rfl))) (htw (.initialized RX0) (jWr_1 _ (List.mem_of_getElem? (i := 14) rfl))) hK rfl (fun j hj => by rcases (by omega : j = 0 ∨ j = 1) with rfl | rfl <;> rfl) hh_208 hB (by rw [hRc]; omega) (by rw [hRs]; omega) dX8_init_60 (fun H_274 hraw_274 hfr_274 hnr_274 hh_274 => ?_)
          have hlt_275 := hraw_210.lt
          have hke_274 : jKe G0 G0 H_208 H_274 := jKe.raw hfr_274
          have hbr_274 : base ≤ H_208.size := Nat.le_trans hbs hh_208.1.1
          have hsy_274 : s.heap.size ≤ H_208.size := hh_208.1.1
          clear hh_208
          have hraw_276n := hke_274.nr hraw_210.lt hnr0
          have hraw_276 := hraw_210.kept (hke_274.1 _ hraw_210.lt)
          have hne_277 : r0 ≠ H_208.size := Nat.ne_of_lt hlt_275
          refine lv_dup hx hb dX8_init_63 rfl ?_
          refine lv_bipush (v := 16) hx hb dX8_init_64 (by decide) ?_
          have hsz_278 := hh_274.2.2.2.2.2.1
          have htt_278 := hh_274.2.2.2.2.2.2.1
          refine W.room (fun hrc_278 hrs_278 => ?_)
          refine va_callv (A0 := jA base) (H0 := s.heap) (va_runI (As := [.int 16]) (rest := [.ref H_208.size, .ref r0]) ⟨hx, hb, hml, hown, hts⟩ (uX0_initI l dC dI ca base B hB hAp hB2 hB17 hB196 hB199 G0 H_274 H_208.size 16 ib LC LS) (cwI 1 hts (jgW (jWr_3 _ (List.mem_of_getElem? (i := 3) rfl))) rfl rfl rfl (htw (.initialized RX0) (jWr_1 _ (List.mem_of_getElem? (i := 14) rfl))) (htw (.methodLink RX8 26 yX0_init) (jWr_24 _ (List.mem_of_getElem? (i := 10) rfl))) (htw (.instanceMethod yX0_init) (jWr_3 _ (List.mem_of_getElem? (i := 2) rfl))) rfl (by decide +kernel) ⟨by rw [← hR]; exact Nat.le_of_ble_eq_true rfl, by rw [← hR]; exact Nat.le_of_ble_eq_true rfl⟩) ⟨fun a U g mk q => by obtain ⟨q0, q1, q2, qK, q10, q11, q12, q13, q14, q15⟩ := q; exact ⟨q0, q1, q2, jG.calling g mk a qK, q10, q11, q12, q13, q14, q15⟩, fun U hU hW => ⟨rfl, hU, hh_274.2.1, hG.step hW hU hh_274.1, hraw_274, hnr_274, hbr_274, jP.nil, (hh_274.2.2.2.2.2.2.2.2.sub (L1 := [(jFib, jIB dC dI ca G0 0 ib)]) [0] rfl), (by omega), (by omega), by first | omega | (refine ⟨?_, ?_⟩ <;> (first | omega | rfl | assumption | decide | exact Or.inl rfl | exact Or.inr rfl | (simp only; omega)))⟩⟩ rfl rfl hl.1 rfl (lv_room (Nat.le_of_ble_eq_true rfl)) dX8_init_66 ⟨by rw [hRc]; omega, by rw [hRs]; omega⟩) hh_274.1 (fun q _ h => h) (fun q h => h) (fun u_278 t_278 H_278 locs_278 ht_278 hvm_278 hr_279 hb_278 hz_278 hk_278 hS_278 => ?_)
          obtain ⟨qc_278, qa_278, m_qa_278, G_278⟩ := u_278
          rw [ht_278] at hb_278
          simp only at hb_278
          obtain ⟨⟨hb_2781, hb_2782, hb_2783, hb_2784, hb_2785, hb_2786⟩, hgq_278_0, hN_278, hgc_278, hbX_278, hbE_278⟩ := hb_278
          have hW_278 := hN_278
          have hN_278 : (jNk [0, 1, 2, 3, 4, 5, 6, 7, 8, 9, 11, 12, 13, 14, 15, 16, 175]) G0 G_278 := hN_278.sub (by decide)
          have hh_278 : jSt (dC, dI) B base G0 G_278 EX8_initI s.heap ((0 + 1) + (1)) ((0 + 2) + ((16 : Int).toNat)) [(H_208.size, 17, 1, .int qc_278), (H_208.size, 17, 0, .ref qa_278), (r1, 6, 7, .int pv), (r1, 6, 8, .int pu), (r1, 6, 0, .ref wk), (r1, 6, 1, .ref wi), (r1, 6, 2, .ref wz), (r1, 6, 3, .ref jnx), (r1, 6, 4, .ref jkf), (r1, 6, 5, .ref jks), (r1, 6, 6, .ref jun)] [(wk, 140, 1502, ca 1, fk), (wi, 141, 1502, ca 1, fi), (wz, 142, 1502, ca 1, fz), (jnx, 143, 1502, ca 1, fn), (jkf, 144, 1502, ca 1, fa), (jks, 145, 1502, ca 1, fs), (jun, 146, 3000, ca 1, fu)] [(jFqd, jQD dC dI ca G0 none qq)] H_278 locs_278 := (hh_274.callG hb_2781 hb_2782 hb_2783 hb_2784 hb_2785 hS_278 rfl (L1 := [(r1, 6, 7, .int pv), (r1, 6, 8, .int pu), (r1, 6, 0, .ref wk), (r1, 6, 1, .ref wi), (r1, 6, 2, .ref wz), (r1, 6, 3, .ref jnx), (r1, 6, 4, .ref jkf), (r1, 6, 5, .ref jks), (r1, 6, 6, .ref jun)]) [0, 1, 2, 3, 4, 5, 6, 7, 8] rfl rfl (M1 := [(wk, 140, 1502, ca 1, fk), (wi, 141, 1502, ca 1, fi), (wz, 142, 1502, ca 1, fz), (jnx, 143, 1502, ca 1, fn), (jkf, 144, 1502, ca 1, fa), (jks, 145, 1502, ca 1, fs), (jun, 146, 3000, ca 1, fu)]) [0, 1, 2, 3, 4, 5, 6] rfl rfl (I1 := [(jFqd, jQD dC dI ca G0 none qq)]) [1] rfl rfl).more hb_2786
          have hNn_278 : (jNk [0, 1, 2, 3, 4, 5, 6, 7, 8, 9, 11, 12, 13, 14, 15, 16, 175]) G0 G_278 := (jNk.rf).tr hN_278
          have hg_280 := hb_2782 _ _ hg_r1
          have hg_281 := hb_2782 _ _ hg_wk
          have hg_282 := hb_2782 _ _ hg_wi
          have hg_283 := hb_2782 _ _ hg_wz
          have hg_284 := hb_2782 _ _ hg_jnx
          have hg_285 := hb_2782 _ _ hg_jkf
          have hg_286 := hb_2782 _ _ hg_jks
          have hg_287 := hb_2782 _ _ hg_jun
          have hd_288 := jQD.grow (ca := ca) (hh_278.iv 0 rfl) hb_2782 hW_278 (by decide)
          have hh_289 := hh_278.sub (L1 := [(H_208.size, 17, 1, .int qc_278), (H_208.size, 17, 0, .ref qa_278), (r1, 6, 7, .int pv), (r1, 6, 8, .int pu), (r1, 6, 0, .ref wk), (r1, 6, 1, .ref wi), (r1, 6, 2, .ref wz), (r1, 6, 3, .ref jnx), (r1, 6, 4, .ref jkf), (r1, 6, 5, .ref jks), (r1, 6, 6, .ref jun)]) [0, 1, 2, 3, 4, 5, 6, 7, 8, 9, 10] rfl (M1 := [(wk, 140, 1502, ca 1, fk), (wi, 141, 1502, ca 1, fi), (wz, 142, 1502, ca 1, fz), (jnx, 143, 1502, ca 1, fn), (jkf, 144, 1502, ca 1, fa), (jks, 145, 1502, ca 1, fs), (jun, 146, 3000, ca 1, fu)]) [0, 1, 2, 3, 4, 5, 6] rfl (I1 := []) [] rfl
          clear hh_278
          have hh_290 := hh_289.addI (jQD.ie hd_288)
          clear hh_289
          have hh_291 := hh_290.addIs hbE_278
          try simp only at hr_279
          obtain ⟨hr_279_0, hr_279_1⟩ := hr_279
          have hraw_292x := hbX_278.ke hraw_276.lt hne_277 hraw_276n
          have hraw_292 := hraw_276.kept hraw_292x.1
          have hnw9 : s.heap.size ≤ H_208.size := hsy_274
          refine lv_goto (tgt := 73) hx hb dX8_init_69 (by decide) ?_
          refine j7_putRF hx hb hown hK hh_291 hB hAp hraw_292 hraw_292x.2 hbr0 (C := RX8) (T := TX8) (N := 5) rfl (i := 0) (by decide) (Nat.le_of_ble_eq_true rfl) hly_10_0 rfl hin2 rfl hlk_29 (ty := (.object "ProofServer$Bytes")) (v := .ref H_208.size) (by decide +kernel) rfl rfl dX8_init_73 (fun H_293 locs_293 hraw_293 hr_293 hh_293 => ?_)
          have hraw_293 : va_at (dC, dI) vwCl (r0, .inr (10, [.ref H_208.size, .null, .int 0, .int 0, .int (-1)])) H_293 := hraw_293
          clear hh_291
          have hd_294 := jQD.typ (ca := ca) (n := 0) (hh_293.iv 1 rfl) hraw_292x.2 (jf.raw (C := RX8) (T := TX8) (N := 5) rfl hraw_293 (i := 2) (by decide)) (jf.raw (C := RX8) (T := TX8) (N := 5) rfl hraw_293 (i := 0) (by decide)) (jf.raw (C := RX8) (T := TX8) (N := 5) rfl hraw_293 (i := 1) (by decide))
          have hh_295 := hh_293.sub (L1 := [(H_208.size, 17, 1, .int qc_278), (H_208.size, 17, 0, .ref qa_278), (r1, 6, 7, .int pv), (r1, 6, 8, .int pu), (r1, 6, 0, .ref wk), (r1, 6, 1, .ref wi), (r1, 6, 2, .ref wz), (r1, 6, 3, .ref jnx), (r1, 6, 4, .ref jkf), (r1, 6, 5, .ref jks), (r1, 6, 6, .ref jun)]) [0, 1, 2, 3, 4, 5, 6, 7, 8, 9, 10] rfl (M1 := [(wk, 140, 1502, ca 1, fk), (wi, 141, 1502, ca 1, fi), (wz, 142, 1502, ca 1, fz), (jnx, 143, 1502, ca 1, fn), (jkf, 144, 1502, ca 1, fa), (jks, 145, 1502, ca 1, fs), (jun, 146, 3000, ca 1, fu)]) [0, 1, 2, 3, 4, 5, 6] rfl (I1 := [(jFib, jIB dC dI ca G_278 0 (jUf ib (H_208.size) []))]) [0] rfl
          clear hh_293
          have hle_296 : jLe G_278 (va_up G_278 r0 (some (10, 0))) := jLe.typ hraw_292x.2
          have hg_297 := hle_296 _ _ hg_280
          have hg_298 := hle_296 _ _ hgq_278_0
          have hg_299 := hle_296 _ _ hg_281
          have hg_300 := hle_296 _ _ hg_282
          have hg_301 := hle_296 _ _ hg_283
          have hg_302 := hle_296 _ _ hg_284
          have hg_303 := hle_296 _ _ hg_285
          have hg_304 := hle_296 _ _ hg_286
          have hg_305 := hle_296 _ _ hg_287
          have hg_306 := (jLe.rf).tr hle_296 _ _ hgc_278
          have hfa_296 : jRn (va_up G_278 r0 (some (10, 0))) 17 0 (.ref H_208.size) ∧ jRn (va_up G_278 r0 (some (10, 0))) 3 0 (.null) ∧ jIa (.int 0) ∧ jZb (.int 0) ∧ jIa (.int (-1)) ∧ True := ⟨Or.inr ⟨_, rfl, hg_306⟩, Or.inl rfl, ⟨_, rfl⟩, ⟨_, rfl, Or.inl rfl⟩, ⟨_, rfl⟩, trivial⟩
          have hh_296 := hh_295.typ (k := 10) (n := 0) hB hraw_292x.2 hbr0 hraw_293.lt (jOb.of (C := RX8) (T := TX8) (N := 5) (F := F10) hB10 rfl hraw_293 (show jFx (F10 0 (va_up G_278 r0 (some (10, 0)))) [.ref H_208.size, .null, .int 0, .int 0, .int (-1)] from hfa_296))
          have hgn_296 : (va_up G_278 r0 (some (10, 0))) r0 = some (10, 0) := jUp_self
          have hN_296 : (jNk [0, 1, 2, 3, 4, 5, 6, 7, 8, 9, 11, 12, 13, 14, 15, 16, 175]) G_278 (va_up G_278 r0 (some (10, 0))) := jNk.new (by decide)
          have hNn_296 : (jNk [0, 1, 2, 3, 4, 5, 6, 7, 8, 9, 11, 12, 13, 14, 15, 16, 175]) G0 (va_up G_278 r0 (some (10, 0))) := (hNn_278).tr hN_296
          have hh_307 := hh_296.addI (jQD.ie (ca := ca) hd_294)
          clear hh_296
          have hg_308 := (hle_296) _ _ hgc_278
          have hh_309 := hh_307.more (P1 := [(r0, 10, 0, .ref H_208.size), (r0, 10, 1, .null), (r0, 10, 2, .int 0), (r0, 10, 3, .int 0), (r0, 10, 4, .int (-1))]) (jP.cons hgn_296 (jf.raw (C := RX8) (T := TX8) (N := 5) rfl hraw_293 (i := 0) (by decide)) (jP.cons hgn_296 (jf.raw (C := RX8) (T := TX8) (N := 5) rfl hraw_293 (i := 1) (by decide)) (jP.cons hgn_296 (jf.raw (C := RX8) (T := TX8) (N := 5) rfl hraw_293 (i := 2) (by decide)) (jP.cons hgn_296 (jf.raw (C := RX8) (T := TX8) (N := 5) rfl hraw_293 (i := 3) (by decide)) (jP.cons hgn_296 (jf.raw (C := RX8) (T := TX8) (N := 5) rfl hraw_293 (i := 4) (by decide)) jP.nil)))))
          have hM_296 : jNk [1, 2, 11] G_278 (va_up G_278 r0 (some (10, 0))) := jNk.new (by decide)
          have hW_296 : jNk [0, 1, 2, 3, 4, 5, 6, 7, 8, 9, 11, 12, 13, 14, 15, 16, 17, 175] G_278 (va_up G_278 r0 (some (10, 0))) := jNk.new (by decide)
          have hd_311 := jIB.grow (r := 0) (hh_309.iv 1 rfl) hle_296 hW_296 (by decide)
          have hh_312 := hh_309.sub (L1 := [(r0, 10, 0, .ref H_208.size), (r0, 10, 1, .null), (r0, 10, 2, .int 0), (r0, 10, 3, .int 0), (r0, 10, 4, .int (-1)), (H_208.size, 17, 1, .int qc_278), (H_208.size, 17, 0, .ref qa_278), (r1, 6, 7, .int pv), (r1, 6, 8, .int pu), (r1, 6, 0, .ref wk), (r1, 6, 1, .ref wi), (r1, 6, 2, .ref wz), (r1, 6, 3, .ref jnx), (r1, 6, 4, .ref jkf), (r1, 6, 5, .ref jks), (r1, 6, 6, .ref jun)]) [0, 1, 2, 3, 4, 5, 6, 7, 8, 9, 10, 11, 12, 13, 14, 15] rfl (M1 := [(wk, 140, 1502, ca 1, fk), (wi, 141, 1502, ca 1, fi), (wz, 142, 1502, ca 1, fz), (jnx, 143, 1502, ca 1, fn), (jkf, 144, 1502, ca 1, fa), (jks, 145, 1502, ca 1, fs), (jun, 146, 3000, ca 1, fu)]) [0, 1, 2, 3, 4, 5, 6] rfl (I1 := [(jFqd, jQD dC dI ca (va_up G_278 r0 (some (10, 0))) none (qq.put r0 0 (.ref H_208.size) .null))]) [0] rfl
          clear hh_309
          have hh_313 := hh_312.addI (jIB.ie hd_311)
          clear hh_312
          refine lv_iload_n hx hb dX8_init_76 rfl (lv_at hl 1 rfl) ?_
          refine lv_if_eq (tgt := 95) hx hb dX8_init_77 (by decide) (fun c_314 => ?_) (fun c_314 => ?_)
          · skip
            exact absurd c_314 (by decide)
          · skip
            refine lv_aload_n hx hb dX8_init_80 rfl (lv_at hl 2 rfl) ?_
            refine j7_read hx hb hown hK (C := RX8) (T := TX8) (N := 5) rfl hly_10_0 hlk_29 (hh_313.at 0 rfl) dX8_init_81 ?_
            refine lv_aload_n hx hb dX8_init_84 rfl (lv_at hl 3 rfl) ?_
            refine lv_iload_n hx hb dX8_init_85 rfl (lv_at hl 4 rfl) ?_
            have hsz_315 := hh_313.2.2.2.2.2.1
            have htt_315 := hh_313.2.2.2.2.2.2.1
            refine W.room (fun hrc_315 hrs_315 => ?_)
            refine va_calli (A0 := jA base) (H0 := s.heap) (va_runV (As := [.int a2]) (rest := [.ref H_208.size]) ⟨hx, hb, hml, hown, hts⟩ (uX4_valueOfJ l dC dI ca base B hB hAp hB6 hB141 (va_up G_278 r0 (some (10, 0))) H_293 r1 a2 pv pu wk wi wz jnx jkf jks jun T9 fk fi fz fn fa fs fu) (cwV 1 hts (jgV (jWr_24 _ (List.mem_of_getElem? (i := 11) rfl)) (jWr_24 _ (List.mem_of_getElem? (i := 12) rfl)) (jWr_24 _ (List.mem_of_getElem? (i := 13) rfl)) (jWr_1 _ (List.mem_of_getElem? (i := 22) rfl)) (jWr_24 _ (List.mem_of_getElem? (i := 14) rfl))) rfl rfl rfl (by decide +kernel) ⟨by rw [← hR]; exact Nat.le_of_ble_eq_true rfl, by rw [← hR]; exact Nat.le_of_ble_eq_true rfl⟩) ⟨fun a U g mk q => by obtain ⟨q0, q1, q2, qK, q10, q11, q12, q13, q14, q15, q16, q17, q18, q19, q20⟩ := q; exact ⟨q0, q1, q2, jG.calling g mk a qK, q10, q11, q12, q13, q14, q15, q16, q17, q18, q19, q20⟩, hh_313.recv (C := RX4) (T := TX4) (N := 12) hB6 rfl (by decide) hg_297 hK, fun U hU hW => ⟨rfl, hU, hh_313.2.1, hG.step hW hU hh_313.1, hg_297, hg_299, hg_300, hg_301, hg_302, hg_303, hg_304, hg_305, (hh_313.2.2.1.sub (L1 := [(r1, 6, 7, .int pv), (r1, 6, 8, .int pu), (r1, 6, 0, .ref wk), (r1, 6, 1, .ref wi), (r1, 6, 2, .ref wz), (r1, 6, 3, .ref jnx), (r1, 6, 4, .ref jkf), (r1, 6, 5, .ref jks), (r1, 6, 6, .ref jun)]) [7, 8, 9, 10, 11, 12, 13, 14, 15] rfl), (hh_313.2.2.2.2.2.2.2.1.sub (L1 := [(wk, 140, 1502, ca 1, fk), (wi, 141, 1502, ca 1, fi), (wz, 142, 1502, ca 1, fz), (jnx, 143, 1502, ca 1, fn), (jkf, 144, 1502, ca 1, fa), (jks, 145, 1502, ca 1, fs), (jun, 146, 3000, ca 1, fu)]) [0, 1, 2, 3, 4, 5, 6] rfl), by first | omega | (refine ⟨?_, ?_, ?_, ?_, ?_⟩ <;> (first | omega | rfl | assumption | decide | exact Or.inl rfl | exact Or.inr rfl | (simp only; omega)))⟩⟩ rfl rfl hl.1 rfl (lv_room (Nat.le_of_ble_eq_true rfl)) dX8_init_86 ⟨by rw [hRc]; show _ + 0 ≤ _; omega, by rw [hRs]; show _ + 0 ≤ _; omega⟩) hh_313.1 (fun q _ h => h) (fun q h => h) (fun r_316 u_315 t_315 H_315 locs_315 ht_315 hvm_315 hr_316 hb_315 hz_315 hk_315 hS_315 => ?_)
            rw [ht_315] at hb_315
            obtain ⟨hb_315, hbF_315⟩ := hb_315
            obtain ⟨hb_3151, hb_3152, hb_3153, hb_3154, hb_3155⟩ := hb_315
            have hh_315 : jSt (dC, dI) B base G0 (va_up G_278 r0 (some (10, 0))) EX8_initI s.heap ((0 + 1) + (1)) ((0 + 2) + ((16 : Int).toNat)) [(r0, 10, 0, .ref H_208.size), (r0, 10, 1, .null), (r0, 10, 2, .int 0), (r0, 10, 3, .int 0), (r0, 10, 4, .int (-1)), (H_208.size, 17, 1, .int qc_278), (H_208.size, 17, 0, .ref qa_278), (r1, 6, 7, .int pv), (r1, 6, 8, .int pu), (r1, 6, 0, .ref wk), (r1, 6, 1, .ref wi), (r1, 6, 2, .ref wz), (r1, 6, 3, .ref jnx), (r1, 6, 4, .ref jkf), (r1, 6, 5, .ref jks), (r1, 6, 6, .ref jun)] [(wk, 140, 1502, ca 1, fk), (wi, 141, 1502, ca 1, fi), (wz, 142, 1502, ca 1, fz), (jnx, 143, 1502, ca 1, fn), (jkf, 144, 1502, ca 1, fa), (jks, 145, 1502, ca 1, fs), (jun, 146, 3000, ca 1, fu)] [(jFib, jIB dC dI ca (va_up G_278 r0 (some (10, 0))) 0 (jUf ib (H_208.size) [])), (jFqd, jQD dC dI ca (va_up G_278 r0 (some (10, 0))) none (qq.put r0 0 (.ref H_208.size) .null))] H_315 locs_315 := ((hh_313.call hb_3151 hb_3152 hb_3153 hb_3154 hS_315 rfl (L1 := [(r0, 10, 0, .ref H_208.size), (r0, 10, 1, .null), (r0, 10, 2, .int 0), (r0, 10, 3, .int 0), (r0, 10, 4, .int (-1)), (H_208.size, 17, 1, .int qc_278), (H_208.size, 17, 0, .ref qa_278), (r1, 6, 7, .int pv), (r1, 6, 8, .int pu), (r1, 6, 0, .ref wk), (r1, 6, 1, .ref wi), (r1, 6, 2, .ref wz), (r1, 6, 3, .ref jnx), (r1, 6, 4, .ref jkf), (r1, 6, 5, .ref jks), (r1, 6, 6, .ref jun)]) [0, 1, 2, 3, 4, 5, 6, 7, 8, 9, 10, 11, 12, 13, 14, 15] rfl rfl (M1 := [(wk, 140, 1502, ca 1, fk), (wi, 141, 1502, ca 1, fi), (wz, 142, 1502, ca 1, fz), (jnx, 143, 1502, ca 1, fn), (jkf, 144, 1502, ca 1, fa), (jks, 145, 1502, ca 1, fs), (jun, 146, 3000, ca 1, fu)]) [0, 1, 2, 3, 4, 5, 6] rfl rfl (I1 := [(jFib, jIB dC dI ca (va_up G_278 r0 (some (10, 0))) 0 (jUf ib (H_208.size) [])), (jFqd, jQD dC dI ca (va_up G_278 r0 (some (10, 0))) none (qq.put r0 0 (.ref H_208.size) .null))]) [0, 1] rfl rfl).more hb_3155)
            clear hh_313 ht_315 hvm_315 hz_315 hk_315 hS_315 hb_3151 hb_3152 hb_3153 hb_3154 hb_3155
            have hsz_317 := hh_315.2.2.2.2.2.1
            have htt_317 := hh_315.2.2.2.2.2.2.1
            refine W.room (fun hrc_317 hrs_317 => ?_)
            refine va_callv (A0 := jA base) (H0 := s.heap) (va_runV (As := [.int r_316]) (rest := []) ⟨hx, hb, hml, hown, hts⟩ (uX0_numberI l dC dI ca base B hB hAp hB2 hB17 hB196 hB199 (va_up G_278 r0 (some (10, 0))) H_315 H_208.size r_316 qc_278 qa_278 m_qa_278 (jUf ib (H_208.size) []) LC LS) (cwV 1 hts (jgV (jWr_24 _ (List.mem_of_getElem? (i := 15) rfl)) (jWr_24 _ (List.mem_of_getElem? (i := 16) rfl)) (jWr_24 _ (List.mem_of_getElem? (i := 17) rfl)) (jWr_1 _ (List.mem_of_getElem? (i := 14) rfl)) (jWr_24 _ (List.mem_of_getElem? (i := 18) rfl))) rfl rfl rfl (by decide +kernel) ⟨by rw [← hR]; exact Nat.le_of_ble_eq_true rfl, by rw [← hR]; exact Nat.le_of_ble_eq_true rfl⟩) ⟨fun a U g mk q => by obtain ⟨q0, q1, q2, qK, q10, q11, q12, q13, q14⟩ := q; exact ⟨q0, q1, q2, jG.calling g mk a qK, q10, q11, q12, q13, q14⟩, hh_315.recv (C := RX0) (T := TX0) (N := 2) hB17 rfl (by decide) hg_308 hK, fun U hU hW => ⟨rfl, hU, hh_315.2.1, hG.step hW hU hh_315.1, hg_308, hg_298, (hh_315.2.2.1.sub (L1 := [(H_208.size, 17, 1, .int qc_278), (H_208.size, 17, 0, .ref qa_278)]) [5, 6] rfl), (hh_315.2.2.2.2.2.2.2.2.sub (L1 := [(jFib, jIB dC dI ca (va_up G_278 r0 (some (10, 0))) 0 (jUf ib (H_208.size) []))]) [0] rfl), (by omega), (by omega), ⟨(by first | omega | rfl | assumption | exact jPw.z16.cg (by omega)), (by first | omega | rfl | assumption | exact jPw.z16.cg (by omega)), (by first | omega | rfl | assumption | exact jPw.z16.cg (by omega)), (by first | omega | rfl | assumption | exact jPw.z16.cg (by omega)), (by first | assumption | exact jPw.z16.cg (by omega) | omega), (by first | omega | rfl | assumption | exact jPw.z16.cg (by omega))⟩⟩⟩ rfl rfl hl.1 rfl (lv_room (Nat.le_of_ble_eq_true rfl)) dX8_init_89 ⟨by rw [hRc]; omega, by rw [hRs]; omega⟩) hh_315.1 (fun q _ h => h) (fun q h => h) (fun u_317 t_317 H_317 locs_317 ht_317 hvm_317 hr_318 hb_317 hz_317 hk_317 hS_317 => ?_)
            obtain ⟨qc_317, qa_317, m_qa_317, G_317⟩ := u_317
            rw [ht_317] at hb_317
            simp only at hb_317
            obtain ⟨⟨hb_3171, hb_3172, hb_3173, hb_3174, hb_3175, hb_3176⟩, hgq_317_0, hN_317, hbO_317, hbE_317⟩ := hb_317
            have hW_317 := hN_317
            have hN_317 : (jNk [0, 1, 2, 3, 4, 5, 6, 7, 8, 9, 11, 12, 13, 14, 15, 16, 175]) (va_up G_278 r0 (some (10, 0))) G_317 := hN_317.sub (by decide)
            have hh_317 : jSt (dC, dI) B base G0 G_317 EX8_initI s.heap (((0 + 1) + (1)) + ((m_qa_317 - m_qa_278) / 16)) (((0 + 2) + ((16 : Int).toNat)) + (2 * (m_qa_317 - m_qa_278))) [(H_208.size, 17, 1, .int qc_317), (H_208.size, 17, 0, .ref qa_317), (r0, 10, 0, .ref H_208.size), (r0, 10, 1, .null), (r0, 10, 2, .int 0), (r0, 10, 3, .int 0), (r0, 10, 4, .int (-1)), (r1, 6, 7, .int pv), (r1, 6, 8, .int pu), (r1, 6, 0, .ref wk), (r1, 6, 1, .ref wi), (r1, 6, 2, .ref wz), (r1, 6, 3, .ref jnx), (r1, 6, 4, .ref jkf), (r1, 6, 5, .ref jks), (r1, 6, 6, .ref jun)] [(wk, 140, 1502, ca 1, fk), (wi, 141, 1502, ca 1, fi), (wz, 142, 1502, ca 1, fz), (jnx, 143, 1502, ca 1, fn), (jkf, 144, 1502, ca 1, fa), (jks, 145, 1502, ca 1, fs), (jun, 146, 3000, ca 1, fu)] [(jFqd, jQD dC dI ca (va_up G_278 r0 (some (10, 0))) none (qq.put r0 0 (.ref H_208.size) .null))] H_317 locs_317 := (hh_315.callG hb_3171 hb_3172 hb_3173 hb_3174 hb_3175 hS_317 rfl (L1 := [(r0, 10, 0, .ref H_208.size), (r0, 10, 1, .null), (r0, 10, 2, .int 0), (r0, 10, 3, .int 0), (r0, 10, 4, .int (-1)), (r1, 6, 7, .int pv), (r1, 6, 8, .int pu), (r1, 6, 0, .ref wk), (r1, 6, 1, .ref wi), (r1, 6, 2, .ref wz), (r1, 6, 3, .ref jnx), (r1, 6, 4, .ref jkf), (r1, 6, 5, .ref jks), (r1, 6, 6, .ref jun)]) [0, 1, 2, 3, 4, 7, 8, 9, 10, 11, 12, 13, 14, 15] rfl rfl (M1 := [(wk, 140, 1502, ca 1, fk), (wi, 141, 1502, ca 1, fi), (wz, 142, 1502, ca 1, fz), (jnx, 143, 1502, ca 1, fn), (jkf, 144, 1502, ca 1, fa), (jks, 145, 1502, ca 1, fs), (jun, 146, 3000, ca 1, fu)]) [0, 1, 2, 3, 4, 5, 6] rfl rfl (I1 := [(jFqd, jQD dC dI ca (va_up G_278 r0 (some (10, 0))) none (qq.put r0 0 (.ref H_208.size) .null))]) [1] rfl rfl).more hb_3176
            have hNn_317 : (jNk [0, 1, 2, 3, 4, 5, 6, 7, 8, 9, 11, 12, 13, 14, 15, 16, 175]) G0 G_317 := (hNn_296).tr hN_317
            have hg_319 := hb_3172 _ _ hgn_296
            have hg_320 := hb_3172 _ _ hg_297
            have hg_321 := hb_3172 _ _ hg_308
            have hg_322 := hb_3172 _ _ hg_299
            have hg_323 := hb_3172 _ _ hg_300
            have hg_324 := hb_3172 _ _ hg_301
            have hg_325 := hb_3172 _ _ hg_302
            have hg_326 := hb_3172 _ _ hg_303
            have hg_327 := hb_3172 _ _ hg_304
            have hg_328 := hb_3172 _ _ hg_305
            have hd_329 := jQD.grow (ca := ca) (hh_317.iv 0 rfl) hb_3172 hW_317 (by decide)
            have hh_330 := hh_317.sub (L1 := [(H_208.size, 17, 1, .int qc_317), (H_208.size, 17, 0, .ref qa_317), (r0, 10, 0, .ref H_208.size), (r0, 10, 1, .null), (r0, 10, 2, .int 0), (r0, 10, 3, .int 0), (r0, 10, 4, .int (-1)), (r1, 6, 7, .int pv), (r1, 6, 8, .int pu), (r1, 6, 0, .ref wk), (r1, 6, 1, .ref wi), (r1, 6, 2, .ref wz), (r1, 6, 3, .ref jnx), (r1, 6, 4, .ref jkf), (r1, 6, 5, .ref jks), (r1, 6, 6, .ref jun)]) [0, 1, 2, 3, 4, 5, 6, 7, 8, 9, 10, 11, 12, 13, 14, 15] rfl (M1 := [(wk, 140, 1502, ca 1, fk), (wi, 141, 1502, ca 1, fi), (wz, 142, 1502, ca 1, fz), (jnx, 143, 1502, ca 1, fn), (jkf, 144, 1502, ca 1, fa), (jks, 145, 1502, ca 1, fs), (jun, 146, 3000, ca 1, fu)]) [0, 1, 2, 3, 4, 5, 6] rfl (I1 := []) [] rfl
            clear hh_317
            have hh_331 := hh_330.addI (jQD.ie hd_329)
            clear hh_330
            have hh_332 := hh_331.addIs hbE_317
            try simp only at hr_318
            obtain ⟨hr_318_0, hr_318_1, hr_318_2, hr_318_3, hr_318_4, hr_318_5⟩ := hr_318
            refine lv_goto (tgt := 120) hx hb dX8_init_92 (by decide) ?_
            have hsz_333 := hh_332.2.2.2.2.2.1
            have htt_333 := hh_332.2.2.2.2.2.2.1
            refine W.room (fun hrc_333 hrs_333 => ?_)
            refine W.widen (k := LC - s.heap.size) (n := LS - jTot s.heap) (by omega) (by omega) ?_
            rw [hQ]
            exact W.vret hx hb hr (fun t ht hW => ⟨⟨((qq.put r0 0 (.ref H_208.size) .null), (.ref H_208.size), (jUf (jUf ib (H_208.size) []) (H_208.size) ((jUf ib (H_208.size) []) (H_208.size) ++ jpN r_316.toInt)), G_317), rfl, by skip; (try dsimp only); exact ⟨rfl, jzRi.in (by rw [← hk14]; omega) hnw9 rfl hr_316⟩, ⟨hh_332.ra (by first | (simp only; omega) | omega) (by first | (simp only; omega) | omega) (M1 := []) [] rfl ht, hNn_317, hg_319, by rw [ht]; exact hh_332.2.2.2.2.2.2.2.2.sub (L1 := [(jFib, jIB dC dI ca G_317 0 (jUf (jUf ib (H_208.size) []) (H_208.size) ((jUf ib (H_208.size) []) (H_208.size) ++ jpN r_316.toInt))), (jFqd, jQD dC dI ca G_317 none (qq.put r0 0 (.ref H_208.size) .null))]) [0, 1] rfl⟩⟩, by rw [ht]; try exact hh_332.1.1, fun q h9 hq => by rw [ht]; try exact hh_332.1.2.1 q h9 hq⟩) hh_332.1.2.2 dX8_init_120
        · skip
          exact absurd c_273 (by decide)
end
