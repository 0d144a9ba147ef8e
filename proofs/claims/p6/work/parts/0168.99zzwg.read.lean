section
def EX4_readJ : List (Nat × Nat) := [(6, 7), (6, 8), (6, 9), (6, 10), (6, 11), (140, 0), (141, 0), (142, 0), (143, 0), (144, 0), (145, 0), (146, 0)]
set_option maxHeartbeats 4000000 in
set_option maxRecDepth 20000 in
theorem uX4_readJ (l : Launch) (dC : Nat → ClassId) (dI : Nat → Nat → Nat) (ca : Nat → ClassId) (base : Nat) (B : jF) (hB : jBok B) (hAp : jAp (dC, dI)) (hB6 : ∀ n G a H, B 6 n G a H ↔ jOb (dC, dI) 6 12 (F6 n G) a H) (hB100 : ∀ n G a H, B 100 n G a H ↔ jAr (dC, dI) (ca 0) (fun j z => True) n a H) (hB140 : ∀ n G a H, B 140 n G a H ↔ jAr (dC, dI) (ca 1) (fun j z => True) n a H) (hB141 : ∀ n G a H, B 141 n G a H ↔ jAr (dC, dI) (ca 1) (fun j z => True) n a H) (hB142 : ∀ n G a H, B 142 n G a H ↔ jAr (dC, dI) (ca 1) (fun j z => True) n a H) (hB143 : ∀ n G a H, B 143 n G a H ↔ jAr (dC, dI) (ca 1) (fun j z => True) n a H) (hB144 : ∀ n G a H, B 144 n G a H ↔ jAr (dC, dI) (ca 1) (fun j z => 0 ≤ z.toInt ∧ z.toInt ≤ 3000) n a H) (hB145 : ∀ n G a H, B 145 n G a H ↔ jAr (dC, dI) (ca 1) (fun j z => True) n a H) (hB146 : ∀ n G a H, B 146 n G a H ↔ jAr (dC, dI) (ca 1) (fun j z => True) n a H) (G0 : jT) (H0 : Heap) (r0 : Nat) (r1 : Nat) (a2 : Int32) (n1 : Nat) (wk : Nat) (wi : Nat) (wz : Nat) (jnx : Nat) (jkf : Nat) (jks : Nat) (jun : Nat) (fb : Nat → Int32) (fk : Nat → Int32) (fi : Nat → Int32) (fz : Nat → Int32) (fn : Nat → Int32) (fa : Nat → Int32) (fs : Nat → Int32) (fu : Nat → Int32) : Met l yX4_read (jw yX4_read cX4_read 4 (some .boolean)) ({ frames := 29, cells := 0, slots := 0, locals := 1823 }) (va_Pc [.ref r0, .ref r1, .int a2] (fun U => U.heap = H0 ∧ jX B base G0 [] H0 ∧ jG dC dI ca base U ∧ G0 r1 = some (100, n1) ∧ G0 r0 = some (6, 0) ∧ G0 wk = some (140, 1502) ∧ G0 wi = some (141, 1502) ∧ G0 wz = some (142, 1502) ∧ G0 jnx = some (143, 1502) ∧ G0 jkf = some (144, 1502) ∧ G0 jks = some (145, 1502) ∧ G0 jun = some (146, 3000) ∧ jP (dC, dI) G0 H0 [(r0, 6, 0, .ref wk), (r0, 6, 1, .ref wi), (r0, 6, 2, .ref wz), (r0, 6, 3, .ref jnx), (r0, 6, 4, .ref jkf), (r0, 6, 5, .ref jks), (r0, 6, 6, .ref jun)] ∧ jMc (dC, dI) G0 H0 [(r1, 100, n1, ca 0, fb), (wk, 140, 1502, ca 1, fk), (wi, 141, 1502, ca 1, fi), (wz, 142, 1502, ca 1, fz), (jnx, 143, 1502, ca 1, fn), (jkf, 144, 1502, ca 1, fa), (jks, 145, 1502, ca 1, fs), (jun, 146, 3000, ca 1, fu)] ∧ n1 ≤ 3000 ∧ 0 ≤ a2.toInt ∧ a2.toInt ≤ n1 ∧ jjFt fb a2.toInt)) (va_Qi (S := Int32 × Int32 × (Nat → Int32) × (Nat → Int32) × (Nat → Int32) × (Nat → Int32) × (Nat → Int32) × (Nat → Int32) × (Nat → Int32)) (fun r u => (r = 0 ∨ r = 1) ∧ (u.1.toInt ≤ 1502 ∧ u.2.1.toInt ≤ 3000 ∧ jJr (fk, fi, fz, fa, fs) 0 0 (u.2.2.1, u.2.2.2.1, u.2.2.2.2.1, u.2.2.2.2.2.2.1, u.2.2.2.2.2.2.2.1) u.1.toInt u.2.1.toInt ∧ (r.toInt = 0 ∨ (1 ≤ u.1.toInt ∧ u.2.1.toInt + jSb u.2.2.2.2.2.2.2.1 (u.1.toInt).toNat ≤ a2.toInt + 1)) ∧ jjQr (jjRd (jB8 fb) a2.toInt) r.toInt u.1.toInt u.2.1.toInt u.2.2.1 u.2.2.2.1 u.2.2.2.2.1 u.2.2.2.2.2.1 u.2.2.2.2.2.2.1 u.2.2.2.2.2.2.2.1 u.2.2.2.2.2.2.2.2)) (fun u t => jRt (dC, dI) B base G0 EX4_readJ H0 [(r0, 6, 7, .int u.1), (r0, 6, 8, .int u.2.1)] t.heap ∧ jMc (dC, dI) G0 t.heap [(wk, 140, 1502, ca 1, u.2.2.1), (wi, 141, 1502, ca 1, u.2.2.2.1), (wz, 142, 1502, ca 1, u.2.2.2.2.1), (jnx, 143, 1502, ca 1, u.2.2.2.2.2.1), (jkf, 144, 1502, ca 1, u.2.2.2.2.2.2.1), (jks, 145, 1502, ca 1, u.2.2.2.2.2.2.2.1), (jun, 146, 3000, ca 1, u.2.2.2.2.2.2.2.2)]) (jA base)) 0 0 (jA base) := by
  refine Met.ofW (cc := cX4_read) (maxL := 4) (ret := (some .boolean)) (by decide) rfl ?_
  intro p e s m args below meth c s₁ Bd hml hv
  obtain ⟨rfl, hH0, hX, hG, hg_r1, hg_r0, hg_wk, hg_wi, hg_wz, hg_jnx, hg_jkf, hg_jks, hg_jun, hP0, hM0, hp0, hp1, hp2, hp3⟩ := hv
  have hK := hG.1
  have hx := Bd.exec
  have hb := Bd.bytes
  have hr := Bd.returns
  have hts := atoms_spec (ws := (jw yX4_read cX4_read 4 (some .boolean))) Bd.pre
  have htw : ∀ w ∈ jWl, w.before _ s = true := fun w h => hts w (List.mem_cons_of_mem _ h)
  have hown : s.vm.findClass RX4 = some m.cls := findClass_of_methodNamed Bd.named
  have hlocks := Bd.notSynchronized
  obtain ⟨Q, hQ⟩ : ∃ Q, Q = MQ below (va_Qi (S := Int32 × Int32 × (Nat → Int32) × (Nat → Int32) × (Nat → Int32) × (Nat → Int32) × (Nat → Int32) × (Nat → Int32) × (Nat → Int32)) (fun r u => (r = 0 ∨ r = 1) ∧ (u.1.toInt ≤ 1502 ∧ u.2.1.toInt ≤ 3000 ∧ jJr (fk, fi, fz, fa, fs) 0 0 (u.2.2.1, u.2.2.2.1, u.2.2.2.2.1, u.2.2.2.2.2.2.1, u.2.2.2.2.2.2.2.1) u.1.toInt u.2.1.toInt ∧ (r.toInt = 0 ∨ (1 ≤ u.1.toInt ∧ u.2.1.toInt + jSb u.2.2.2.2.2.2.2.1 (u.1.toInt).toNat ≤ a2.toInt + 1)) ∧ jjQr (jjRd (jB8 fb) a2.toInt) r.toInt u.1.toInt u.2.1.toInt u.2.2.1 u.2.2.2.1 u.2.2.2.2.1 u.2.2.2.2.2.1 u.2.2.2.2.2.2.1 u.2.2.2.2.2.2.2.1 u.2.2.2.2.2.2.2.2)) (fun u t => jRt (dC, dI) B base G0 EX4_readJ H0 [(r0, 6, 7, .int u.1), (r0, 6, 8, .int u.2.1)] t.heap ∧ jMc (dC, dI) G0 t.heap [(wk, 140, 1502, ca 1, u.2.2.1), (wi, 141, 1502, ca 1, u.2.2.2.1), (wz, 142, 1502, ca 1, u.2.2.2.2.1), (jnx, 143, 1502, ca 1, u.2.2.2.2.2.1), (jkf, 144, 1502, ca 1, u.2.2.2.2.2.2.1), (jks, 145, 1502, ca 1, u.2.2.2.2.2.2.2.1), (jun, 146, 3000, ca 1, u.2.2.2.2.2.2.2.2)]) (jA base)) ([.ref r0, .ref r1, .int a2] : List Value).toArray s 0 0 (jA base) := ⟨_, rfl⟩
  rw [← hQ]
  have hl := lv_entry ([.ref r0, .ref r1, .int a2]) (n := 4) (Nat.le_of_ble_eq_true rfl)
  rw [lg_entry_eq]
  generalize (lg_sl ([.ref r0, .ref r1, .int a2]) ++ List.replicate (4 - (lg_sl ([.ref r0, .ref r1, .int a2])).length) Slot.unset).toArray = ls at hl ⊢
  have hl : lv_has ls 4 [(0, .ref r0), (1, .ref r1), (2, .int a2)] := hl
  generalize hR : (headSpec (jw yX4_read cX4_read 4 (some .boolean)) ({ frames := 29, cells := 0, slots := 0, locals := 1823 })).room = R
  subst hH0
  have hh : jSt (dC, dI) B base G0 G0 EX4_readJ s.heap 0 0 [(r0, 6, 0, .ref wk), (r0, 6, 1, .ref wi), (r0, 6, 2, .ref wz), (r0, 6, 3, .ref jnx), (r0, 6, 4, .ref jkf), (r0, 6, 5, .ref jks), (r0, 6, 6, .ref jun)] [(r1, 100, n1, ca 0, fb), (wk, 140, 1502, ca 1, fk), (wi, 141, 1502, ca 1, fi), (wz, 142, 1502, ca 1, fz), (jnx, 143, 1502, ca 1, fn), (jkf, 144, 1502, ca 1, fa), (jks, 145, 1502, ca 1, fs), (jun, 146, 3000, ca 1, fu)] [] s.heap [] := jSt.start hX hP0 hM0 jIs.nil
  clear hX hP0
  have hk0 : (0 : Int32).toInt = 0 := by decide
  have hk1 : (1 : Int32).toInt = 1 := by decide
  have hly_6_7 := htw (u_lay RX4 TX4 7) (jWc_wsX40 _ (u_in_lay (by decide)))
  have hly_6_8 := htw (u_lay RX4 TX4 8) (jWc_wsX40 _ (u_in_lay (by decide)))
  have hly_6_9 := htw (u_lay RX4 TX4 9) (jWc_wsX40 _ (u_in_lay (by decide)))
  have hly_6_10 := htw (u_lay RX4 TX4 10) (jWc_wsX40 _ (u_in_lay (by decide)))
  have hly_6_11 := htw (u_lay RX4 TX4 11) (jWc_wsX40 _ (u_in_lay (by decide)))
  have hlk_33 := (htw (.fieldLink RX4 33 "ProofServer$Json" "bytes" "[B") (jWr_4 _ (List.mem_of_getElem? (i := 4) rfl)))
  have hlk_43 := (htw (.fieldLink RX4 43 "ProofServer$Json" "end" "I") (jWr_19 _ (List.mem_of_getElem? (i := 11) rfl)))
  have hlk_47 := (htw (.fieldLink RX4 47 "ProofServer$Json" "at" "I") (jWr_19 _ (List.mem_of_getElem? (i := 12) rfl)))
  have hlk_50 := (htw (.fieldLink RX4 50 "ProofServer$Json" "values" "I") (jWr_19 _ (List.mem_of_getElem? (i := 13) rfl)))
  have hlk_53 := (htw (.fieldLink RX4 53 "ProofServer$Json" "unitCount" "I") (jWr_19 _ (List.mem_of_getElem? (i := 14) rfl)))
  have hrg_a2 := jb_rng a2
  refine lv_aload_n hx hb dX4_read_0 rfl (lv_at hl 0 rfl) ?_
  refine lv_aload_n hx hb dX4_read_1 rfl (lv_at hl 1 rfl) ?_
  refine j7_put hx hb hown hK hh hB hAp hB6 (C := RX4) (T := TX4) (N := 12) rfl (by decide) hg_r0 (i := 9) (by decide) hly_6_9 rfl hlk_33 rfl (ty := (.array .byte)) (v := .ref r1) (by decide +kernel) rfl rfl (⟨_, _, rfl, hg_r1, by omega⟩) rfl (L1 := [(r0, 6, 0, .ref wk), (r0, 6, 1, .ref wi), (r0, 6, 2, .ref wz), (r0, 6, 3, .ref jnx), (r0, 6, 4, .ref jkf), (r0, 6, 5, .ref jks), (r0, 6, 6, .ref jun)]) [0, 1, 2, 3, 4, 5, 6] rfl rfl rfl dX4_read_2 (fun H_1 locs_1 hh_1 => ?_)
  clear hh
  refine lv_aload_n hx hb dX4_read_5 rfl (lv_at hl 0 rfl) ?_
  refine lv_iload_n hx hb dX4_read_6 rfl (lv_at hl 2 rfl) ?_
  refine lv_aload_n hx hb dX4_read_7 rfl (lv_at hl 1 rfl) ?_
  refine j7_len hx hb hK hh_1 hB100 0 rfl (by decide) hg_r1 (by omega) dX4_read_8 (fun z_2 hz_2 => ?_)
  refine va_mmin hx hb (by rw [hml]; exact hl.1.symm) hown (htw (.methodLink RX4 37 Lib.Math.min.name) (jWr_19 _ (List.mem_of_getElem? (i := 10) rfl))) (htw (.static Lib.Math.min.name) (jWr_16 _ (List.mem_of_getElem? (i := 16) rfl))) (htw (.initialized "java/lang/Math") (jWr_3 _ (List.mem_of_getElem? (i := 7) rfl))) (htw (.code Lib.Math.min.name Lib.Math.min.code 2 (some .int)) (jWr_16 _ (List.mem_of_getElem? (i := 17) rfl))) (by rw [← hR]; exact Nat.le_of_ble_eq_true rfl) (by rw [← hR]; exact Nat.le_of_ble_eq_true rfl) (Nat.zero_le _) (Nat.zero_le _) dX4_read_9 ?_
  refine lv_topi (fun z_3 ez_3 => ?_)
  have hz_3 := jb_min ez_3
  refine j7_put hx hb hown hK hh_1 hB hAp hB6 (C := RX4) (T := TX4) (N := 12) rfl (by decide) hg_r0 (i := 10) (by decide) hly_6_10 rfl hlk_43 rfl (ty := .int) (v := .int z_3) (by decide +kernel) rfl rfl (⟨_, rfl, by omega, by omega⟩) rfl (L1 := [(r0, 6, 9, .ref r1), (r0, 6, 0, .ref wk), (r0, 6, 1, .ref wi), (r0, 6, 2, .ref wz), (r0, 6, 3, .ref jnx), (r0, 6, 4, .ref jkf), (r0, 6, 5, .ref jks), (r0, 6, 6, .ref jun)]) [0, 1, 2, 3, 4, 5, 6, 7] rfl rfl rfl dX4_read_12 (fun H_4 locs_4 hh_4 => ?_)
  clear hh_1
  have hmn : z_3.toInt = a2.toInt := by omega
  have hft9 : jjFt fb z_3.toInt := by rw [hmn]; exact hp3
  refine lv_aload_n hx hb dX4_read_15 rfl (lv_at hl 0 rfl) ?_
  refine lv_iconst (v := 0) hx hb dX4_read_16 (by decide) ?_
  refine j7_put hx hb hown hK hh_4 hB hAp hB6 (C := RX4) (T := TX4) (N := 12) rfl (by decide) hg_r0 (i := 11) (by decide) hly_6_11 rfl hlk_47 rfl (ty := .int) (v := .int 0) (by decide +kernel) rfl rfl (⟨_, rfl, by omega, by omega⟩) rfl (L1 := [(r0, 6, 10, .int z_3), (r0, 6, 9, .ref r1), (r0, 6, 0, .ref wk), (r0, 6, 1, .ref wi), (r0, 6, 2, .ref wz), (r0, 6, 3, .ref jnx), (r0, 6, 4, .ref jkf), (r0, 6, 5, .ref jks), (r0, 6, 6, .ref jun)]) [0, 1, 2, 3, 4, 5, 6, 7, 8] rfl rfl rfl dX4_read_17 (fun H_5 locs_5 hh_5 => ?_)
  clear hh_4
  refine lv_aload_n hx hb dX4_read_20 rfl (lv_at hl 0 rfl) ?_
  refine lv_iconst (v := 0) hx hb dX4_read_21 (by decide) ?_
  refine j7_put hx hb hown hK hh_5 hB hAp hB6 (C := RX4) (T := TX4) (N := 12) rfl (by decide) hg_r0 (i := 7) (by decide) hly_6_7 rfl hlk_50 rfl (ty := .int) (v := .int 0) (by decide +kernel) rfl rfl (⟨_, rfl, by omega, by omega⟩) rfl (L1 := [(r0, 6, 11, .int 0), (r0, 6, 10, .int z_3), (r0, 6, 9, .ref r1), (r0, 6, 0, .ref wk), (r0, 6, 1, .ref wi), (r0, 6, 2, .ref wz), (r0, 6, 3, .ref jnx), (r0, 6, 4, .ref jkf), (r0, 6, 5, .ref jks), (r0, 6, 6, .ref jun)]) [0, 1, 2, 3, 4, 5, 6, 7, 8, 9] rfl rfl rfl dX4_read_22 (fun H_6 locs_6 hh_6 => ?_)
  clear hh_5
  refine lv_aload_n hx hb dX4_read_25 rfl (lv_at hl 0 rfl) ?_
  refine lv_iconst (v := 0) hx hb dX4_read_26 (by decide) ?_
  refine j7_put hx hb hown hK hh_6 hB hAp hB6 (C := RX4) (T := TX4) (N := 12) rfl (by decide) hg_r0 (i := 8) (by decide) hly_6_8 rfl hlk_53 rfl (ty := .int) (v := .int 0) (by decide +kernel) rfl rfl (⟨_, rfl, by omega, by omega⟩) rfl (L1 := [(r0, 6, 7, .int 0), (r0, 6, 11, .int 0), (r0, 6, 10, .int z_3), (r0, 6, 9, .ref r1), (r0, 6, 0, .ref wk), (r0, 6, 1, .ref wi), (r0, 6, 2, .ref wz), (r0, 6, 3, .ref jnx), (r0, 6, 4, .ref jkf), (r0, 6, 5, .ref jks), (r0, 6, 6, .ref jun)]) [0, 1, 2, 3, 4, 5, 6, 7, 8, 9, 10] rfl rfl rfl dX4_read_27 (fun H_7 locs_7 hh_7 => ?_)
  clear hh_6
  refine lv_aload_n hx hb dX4_read_30 rfl (lv_at hl 0 rfl) ?_
  refine va_callv (A0 := jA base) (H0 := s.heap) (va_runV (As := []) (rest := []) ⟨hx, hb, hml, hown, hts⟩ (uX4_skipBlanksJ l dC dI ca base B hB hAp hB6 hB100 G0 H_7 r0 r1 n1 z_3 0 (z_3.toInt + 0) fb) (cwV 0 hts (jgV (jWr_19 _ (List.mem_of_getElem? (i := 15) rfl)) (jWr_19 _ (List.mem_of_getElem? (i := 16) rfl)) (jWr_19 _ (List.mem_of_getElem? (i := 17) rfl)) (jWr_1 _ (List.mem_of_getElem? (i := 22) rfl)) (jWr_19 _ (List.mem_of_getElem? (i := 18) rfl))) rfl rfl rfl (by decide +kernel) ⟨by rw [← hR]; exact Nat.le_of_ble_eq_true rfl, by rw [← hR]; exact Nat.le_of_ble_eq_true rfl⟩) ⟨fun a U g mk q => by obtain ⟨q0, q1, q2, qK, q10, q11, q12, q13, q14⟩ := q; exact ⟨q0, q1, q2, jG.calling g mk a qK, q10, q11, q12, q13, q14⟩, hh_7.recv (C := RX4) (T := TX4) (N := 12) hB6 rfl (by decide) hg_r0 hK, fun U hU hW => ⟨rfl, hU, hh_7.2.1, hG.step hW hU hh_7.1, hg_r0, hg_r1, (hh_7.2.2.1.sub (L1 := [(r0, 6, 9, .ref r1), (r0, 6, 10, .int z_3), (r0, 6, 11, .int 0)]) [4, 3, 2] rfl), (hh_7.2.2.2.2.2.2.2.1.sub (L1 := [(r1, 100, n1, ca 0, fb)]) [0] rfl), by first | omega | (refine ⟨?_, ?_, ?_, ?_, ?_, ?_, ?_, ?_⟩ <;> (first | omega | rfl | assumption | decide | exact Or.inl rfl | exact Or.inr rfl | (simp only; omega)))⟩⟩ rfl rfl hl.1 rfl (lv_room (Nat.le_of_ble_eq_true rfl)) dX4_read_31 ⟨Nat.zero_le _, Nat.zero_le _⟩) hh_7.1 (fun q _ h => h) (fun q h => h) (fun u_8 t_8 H_8 locs_8 ht_8 hvm_8 hr_9 hb_8 hz_8 hk_8 hS_8 => ?_)
  obtain ⟨qt_8, rfl⟩ : ∃ z, z = u_8 := ⟨_, rfl⟩
  rw [ht_8] at hb_8
  obtain ⟨hb_81, hb_82, hb_83, hb_84, hb_85⟩ := hb_8
  have hh_8 : jSt (dC, dI) B base G0 G0 EX4_readJ s.heap 0 0 [(r0, 6, 11, .int qt_8), (r0, 6, 8, .int 0), (r0, 6, 7, .int 0), (r0, 6, 10, .int z_3), (r0, 6, 9, .ref r1), (r0, 6, 0, .ref wk), (r0, 6, 1, .ref wi), (r0, 6, 2, .ref wz), (r0, 6, 3, .ref jnx), (r0, 6, 4, .ref jkf), (r0, 6, 5, .ref jks), (r0, 6, 6, .ref jun)] [(r1, 100, n1, ca 0, fb), (wk, 140, 1502, ca 1, fk), (wi, 141, 1502, ca 1, fi), (wz, 142, 1502, ca 1, fz), (jnx, 143, 1502, ca 1, fn), (jkf, 144, 1502, ca 1, fa), (jks, 145, 1502, ca 1, fs), (jun, 146, 3000, ca 1, fu)] [] H_8 locs_8 := ((hh_7.call hb_81 hb_82 hb_83 hb_84 hS_8 rfl (L1 := [(r0, 6, 8, .int 0), (r0, 6, 7, .int 0), (r0, 6, 10, .int z_3), (r0, 6, 9, .ref r1), (r0, 6, 0, .ref wk), (r0, 6, 1, .ref wi), (r0, 6, 2, .ref wz), (r0, 6, 3, .ref jnx), (r0, 6, 4, .ref jkf), (r0, 6, 5, .ref jks), (r0, 6, 6, .ref jun)]) [0, 1, 3, 4, 5, 6, 7, 8, 9, 10, 11] rfl rfl (M1 := [(r1, 100, n1, ca 0, fb), (wk, 140, 1502, ca 1, fk), (wi, 141, 1502, ca 1, fi), (wz, 142, 1502, ca 1, fz), (jnx, 143, 1502, ca 1, fn), (jkf, 144, 1502, ca 1, fa), (jks, 145, 1502, ca 1, fs), (jun, 146, 3000, ca 1, fu)]) [0, 1, 2, 3, 4, 5, 6, 7] rfl rfl (I1 := []) [] rfl rfl).more hb_85)
  clear hh_7 ht_8 hvm_8 hz_8 hk_8 hS_8 hb_81 hb_82 hb_83 hb_84 hb_85
  obtain ⟨hr_9_0, hr_9_1, hr_9_2⟩ := hr_9
  refine lv_aload_n hx hb dX4_read_34 rfl (lv_at hl 0 rfl) ?_
  refine lv_iconst (v := 0) hx hb dX4_read_35 (by decide) ?_
  refine va_calli (A0 := jA base) (H0 := s.heap) (va_runV (As := [.int 0]) (rest := []) ⟨hx, hb, hml, hown, hts⟩ ((aX4_valueHolderJ l dC dI ca base B hB hAp hB6 hB100 hB140 hB141 hB142 hB143 hB144 hB145 hB146 10).1 G0 H_8 r0 0 r1 n1 z_3 qt_8 0 0 wk wi wz jnx jkf jks jun (fun _ _ => 0) fb fk fi fz fn fa fs fu) (cwV 1 hts (jgV (jWr_20 _ (List.mem_of_getElem? (i := 1) rfl)) (jWr_20 _ (List.mem_of_getElem? (i := 2) rfl)) (jWr_20 _ (List.mem_of_getElem? (i := 3) rfl)) (jWr_1 _ (List.mem_of_getElem? (i := 22) rfl)) (jWr_20 _ (List.mem_of_getElem? (i := 4) rfl))) rfl rfl rfl (by decide +kernel) ⟨by rw [← hR]; exact Nat.le_of_ble_eq_true rfl, by rw [← hR]; exact Nat.le_of_ble_eq_true rfl⟩) ⟨fun a U g mk q => by obtain ⟨q0, q1, q2, qK, q10, q11, q12, q13, q14, q15, q16, q17, q18, q19, q20, q21⟩ := q; exact ⟨q0, q1, q2, jG.calling g mk a qK, q10, q11, q12, q13, q14, q15, q16, q17, q18, q19, q20, q21⟩, hh_8.recv (C := RX4) (T := TX4) (N := 12) hB6 rfl (by decide) hg_r0 hK, fun U hU hW => ⟨rfl, hU, hh_8.2.1, hG.step hW hU hh_8.1, hg_r0, hg_r1, hg_wk, hg_wi, hg_wz, hg_jnx, hg_jkf, hg_jks, hg_jun, (hh_8.2.2.1.sub (L1 := [(r0, 6, 9, .ref r1), (r0, 6, 10, .int z_3), (r0, 6, 11, .int qt_8), (r0, 6, 7, .int 0), (r0, 6, 8, .int 0), (r0, 6, 0, .ref wk), (r0, 6, 1, .ref wi), (r0, 6, 2, .ref wz), (r0, 6, 3, .ref jnx), (r0, 6, 4, .ref jkf), (r0, 6, 5, .ref jks), (r0, 6, 6, .ref jun)]) [4, 3, 0, 2, 1, 5, 6, 7, 8, 9, 10, 11] rfl), (hh_8.2.2.2.2.2.2.2.1.sub (L1 := [(r1, 100, n1, ca 0, fb), (wk, 140, 1502, ca 1, fk), (wi, 141, 1502, ca 1, fi), (wz, 142, 1502, ca 1, fz), (jnx, 143, 1502, ca 1, fn), (jkf, 144, 1502, ca 1, fa), (jks, 145, 1502, ca 1, fs), (jun, 146, 3000, ca 1, fu)]) [0, 1, 2, 3, 4, 5, 6, 7] rfl), ⟨(by first | omega | rfl | assumption | exact hft9 | exact jjTC.z hk0 hk0), (by first | omega | rfl | assumption | exact hft9 | exact jjTC.z hk0 hk0), (by first | omega | rfl | assumption | exact hft9 | exact jjTC.z hk0 hk0), (by first | omega | rfl | assumption | exact hft9 | exact jjTC.z hk0 hk0), (by first | omega | rfl | assumption | exact hft9 | exact jjTC.z hk0 hk0), (by first | omega | rfl | assumption | exact hft9 | exact jjTC.z hk0 hk0), (by first | assumption | exact hft9 | exact jjTC.z hk0 hk0 | omega), (by first | omega | rfl | assumption | exact hft9 | exact jjTC.z hk0 hk0), (by first | omega | rfl | assumption | exact hft9 | exact jjTC.z hk0 hk0), (by first | omega | rfl | assumption | exact hft9 | exact jjTC.z hk0 hk0), (by first | omega | rfl | assumption | exact hft9 | exact jjTC.z hk0 hk0), (by first | omega | rfl | assumption | exact hft9 | exact jjTC.z hk0 hk0), (by first | omega | rfl | assumption | exact hft9 | exact jjTC.z hk0 hk0), (by first | omega | rfl | assumption | exact hft9 | exact jjTC.z hk0 hk0), (by first | assumption | exact hft9 | exact jjTC.z hk0 hk0 | omega)⟩⟩⟩ rfl rfl hl.1 rfl (lv_room (Nat.le_of_ble_eq_true rfl)) dX4_read_36 ⟨Nat.zero_le _, Nat.zero_le _⟩) hh_8.1 (fun q _ h => h) (fun q h => h) (fun r_11 u_10 t_10 H_10 locs_10 ht_10 hvm_10 hr_11 hb_10 hz_10 hk_10 hS_10 => ?_)
  obtain ⟨qt_10, qv_10, qu_10, gk_10, gi_10, gz_10, gn_10, ga_10, gs_10, gu_10⟩ := u_10
  rw [ht_10] at hb_10
  obtain ⟨⟨hb_101, hb_102, hb_103, hb_104, hb_105⟩, hb_106⟩ := hb_10
  have hh_10 : jSt (dC, dI) B base G0 G0 EX4_readJ s.heap 0 0 [(r0, 6, 11, .int qt_10), (r0, 6, 7, .int qv_10), (r0, 6, 8, .int qu_10), (r0, 6, 10, .int z_3), (r0, 6, 9, .ref r1), (r0, 6, 0, .ref wk), (r0, 6, 1, .ref wi), (r0, 6, 2, .ref wz), (r0, 6, 3, .ref jnx), (r0, 6, 4, .ref jkf), (r0, 6, 5, .ref jks), (r0, 6, 6, .ref jun)] [(wk, 140, 1502, ca 1, gk_10), (wi, 141, 1502, ca 1, gi_10), (wz, 142, 1502, ca 1, gz_10), (jnx, 143, 1502, ca 1, gn_10), (jkf, 144, 1502, ca 1, ga_10), (jks, 145, 1502, ca 1, gs_10), (jun, 146, 3000, ca 1, gu_10), (r1, 100, n1, ca 0, fb)] [] H_10 locs_10 := ((hh_8.call hb_101 hb_102 hb_103 hb_104 hS_10 rfl (L1 := [(r0, 6, 10, .int z_3), (r0, 6, 9, .ref r1), (r0, 6, 0, .ref wk), (r0, 6, 1, .ref wi), (r0, 6, 2, .ref wz), (r0, 6, 3, .ref jnx), (r0, 6, 4, .ref jkf), (r0, 6, 5, .ref jks), (r0, 6, 6, .ref jun)]) [3, 4, 5, 6, 7, 8, 9, 10, 11] rfl rfl (M1 := [(r1, 100, n1, ca 0, fb)]) [0] rfl rfl (I1 := []) [] rfl rfl).more hb_105).moreM hb_106
  clear hh_8 ht_10 hvm_10 hz_10 hk_10 hS_10 hb_101 hb_102 hb_103 hb_104 hb_105
  clear hb_106
  try simp only at hr_11
  obtain ⟨hr_11_0, hr_11_1, hr_11_2, hr_11_3, hr_11_4, hr_11_5, hr_11_6, hr_11_7, hr_11_8⟩ := hr_11
  refine lv_istore_n (lv' := [(3, .int r_11), (0, .ref r0), (1, .ref r1), (2, .int a2)]) hx hb dX4_read_39 rfl hl (by decide) rfl (fun ls hl => ?_)
  refine lv_aload_n hx hb dX4_read_40 rfl (lv_at hl 1 rfl) ?_
  refine va_callv (A0 := jA base) (H0 := s.heap) (va_runV (As := []) (rest := []) ⟨hx, hb, hml, hown, hts⟩ (uX4_skipBlanksJ l dC dI ca base B hB hAp hB6 hB100 G0 H_10 r0 r1 n1 z_3 qt_10 (z_3.toInt + 4) fb) (cwV 0 hts (jgV (jWr_19 _ (List.mem_of_getElem? (i := 15) rfl)) (jWr_19 _ (List.mem_of_getElem? (i := 16) rfl)) (jWr_19 _ (List.mem_of_getElem? (i := 17) rfl)) (jWr_1 _ (List.mem_of_getElem? (i := 22) rfl)) (jWr_19 _ (List.mem_of_getElem? (i := 18) rfl))) rfl rfl rfl (by decide +kernel) ⟨by rw [← hR]; exact Nat.le_of_ble_eq_true rfl, by rw [← hR]; exact Nat.le_of_ble_eq_true rfl⟩) ⟨fun a U g mk q => by obtain ⟨q0, q1, q2, qK, q10, q11, q12, q13, q14⟩ := q; exact ⟨q0, q1, q2, jG.calling g mk a qK, q10, q11, q12, q13, q14⟩, hh_10.recv (C := RX4) (T := TX4) (N := 12) hB6 rfl (by decide) hg_r0 hK, fun U hU hW => ⟨rfl, hU, hh_10.2.1, hG.step hW hU hh_10.1, hg_r0, hg_r1, (hh_10.2.2.1.sub (L1 := [(r0, 6, 9, .ref r1), (r0, 6, 10, .int z_3), (r0, 6, 11, .int qt_10)]) [4, 3, 0] rfl), (hh_10.2.2.2.2.2.2.2.1.sub (L1 := [(r1, 100, n1, ca 0, fb)]) [7] rfl), by first | omega | (refine ⟨?_, ?_, ?_, ?_, ?_, ?_, ?_, ?_⟩ <;> (first | omega | rfl | assumption | decide | exact Or.inl rfl | exact Or.inr rfl | (simp only; omega)))⟩⟩ rfl rfl hl.1 rfl (lv_room (Nat.le_of_ble_eq_true rfl)) dX4_read_41 ⟨Nat.zero_le _, Nat.zero_le _⟩) hh_10.1 (fun q _ h => h) (fun q h => h) (fun u_12 t_12 H_12 locs_12 ht_12 hvm_12 hr_13 hb_12 hz_12 hk_12 hS_12 => ?_)
  obtain ⟨qt_12, rfl⟩ : ∃ z, z = u_12 := ⟨_, rfl⟩
  rw [ht_12] at hb_12
  obtain ⟨hb_121, hb_122, hb_123, hb_124, hb_125⟩ := hb_12
  have hh_12 : jSt (dC, dI) B base G0 G0 EX4_readJ s.heap 0 0 [(r0, 6, 11, .int qt_12), (r0, 6, 7, .int qv_10), (r0, 6, 8, .int qu_10), (r0, 6, 10, .int z_3), (r0, 6, 9, .ref r1), (r0, 6, 0, .ref wk), (r0, 6, 1, .ref wi), (r0, 6, 2, .ref wz), (r0, 6, 3, .ref jnx), (r0, 6, 4, .ref jkf), (r0, 6, 5, .ref jks), (r0, 6, 6, .ref jun)] [(wk, 140, 1502, ca 1, gk_10), (wi, 141, 1502, ca 1, gi_10), (wz, 142, 1502, ca 1, gz_10), (jnx, 143, 1502, ca 1, gn_10), (jkf, 144, 1502, ca 1, ga_10), (jks, 145, 1502, ca 1, gs_10), (jun, 146, 3000, ca 1, gu_10), (r1, 100, n1, ca 0, fb)] [] H_12 locs_12 := ((hh_10.call hb_121 hb_122 hb_123 hb_124 hS_12 rfl (L1 := [(r0, 6, 7, .int qv_10), (r0, 6, 8, .int qu_10), (r0, 6, 10, .int z_3), (r0, 6, 9, .ref r1), (r0, 6, 0, .ref wk), (r0, 6, 1, .ref wi), (r0, 6, 2, .ref wz), (r0, 6, 3, .ref jnx), (r0, 6, 4, .ref jkf), (r0, 6, 5, .ref jks), (r0, 6, 6, .ref jun)]) [1, 2, 3, 4, 5, 6, 7, 8, 9, 10, 11] rfl rfl (M1 := [(wk, 140, 1502, ca 1, gk_10), (wi, 141, 1502, ca 1, gi_10), (wz, 142, 1502, ca 1, gz_10), (jnx, 143, 1502, ca 1, gn_10), (jkf, 144, 1502, ca 1, ga_10), (jks, 145, 1502, ca 1, gs_10), (jun, 146, 3000, ca 1, gu_10), (r1, 100, n1, ca 0, fb)]) [0, 1, 2, 3, 4, 5, 6, 7] rfl rfl (I1 := []) [] rfl rfl).more hb_125)
  clear hh_10 ht_12 hvm_12 hz_12 hk_12 hS_12 hb_121 hb_122 hb_123 hb_124 hb_125
  obtain ⟨hr_13_0, hr_13_1, hr_13_2⟩ := hr_13
  refine lv_iload_n hx hb dX4_read_44 rfl (lv_at hl 0 rfl) ?_
  refine lv_if_ne (tgt := 63) hx hb dX4_read_45 (by decide) (fun c_14 => ?_) (fun c_14 => ?_)
  · skip
    have c_14' : r_11.toInt ≠ 0 := jb_ne (rfl) ((by decide)) c_14
    refine lv_iconst (v := 0) hx hb dX4_read_63 (by decide) ?_
    rw [hQ]
    exact W.zret (v := 0) hx hb hr (jb_nz (Or.inl rfl)) (fun t ht hW => ⟨⟨0, (qv_10, qu_10, gk_10, gi_10, gz_10, gn_10, ga_10, gs_10, gu_10), rfl, ⟨(Or.inl rfl), by (try dsimp only); refine ⟨by omega, by omega, hr_11_8.base hk0 hk0, Or.inl (by first | rfl | decide), ?_⟩; have h9 := jjQr.of (b := jB8 fb) (e := z_3.toInt) (hr_9_0.trans (by rw [hk0])) hr_11_0 hk0 hk0 rfl hk0 hr_13_0 (r := (0 : Int32).toInt) (by omega); rw [hmn] at h9; exact h9⟩, ⟨hh_12.rt (M1 := [(r0, 6, 7, .int qv_10), (r0, 6, 8, .int qu_10)]) [1, 2] rfl ht, by rw [ht]; exact hh_12.2.2.2.2.2.2.2.1.sub [0, 1, 2, 3, 4, 5, 6] rfl⟩⟩, by rw [ht]; try exact hh_12.1.1, fun q h9 hq => by rw [ht]; try exact hh_12.1.2.1 q h9 hq⟩) hh_12.1.2.2 dX4_read_64
  · skip
    have c_14' : r_11.toInt = 0 := jb_ne_n (rfl) ((by decide)) c_14
    first | (have hr_11_5q := hr_11_5.resolve_left (by omega); clear hr_11_5) | (have hr_11_5q := hr_11_5.resolve_right (by omega); clear hr_11_5) | skip
    refine lv_aload_n hx hb dX4_read_48 rfl (lv_at hl 1 rfl) ?_
    refine j7_read hx hb hown hK (C := RX4) (T := TX4) (N := 12) rfl hly_6_11 hlk_47 (hh_12.at 0 rfl) dX4_read_49 ?_
    refine lv_aload_n hx hb dX4_read_52 rfl (lv_at hl 1 rfl) ?_
    refine j7_read hx hb hown hK (C := RX4) (T := TX4) (N := 12) rfl hly_6_10 hlk_43 (hh_12.at 3 rfl) dX4_read_53 ?_
    refine lv_icmp_ne (tgt := 63) hx hb dX4_read_56 (by decide) (fun c_15 => ?_) (fun c_15 => ?_)
    · skip
      have c_15' : qt_12.toInt ≠ z_3.toInt := jb_ne (rfl) (rfl) c_15
      refine lv_iconst (v := 0) hx hb dX4_read_63 (by decide) ?_
      rw [hQ]
      exact W.zret (v := 0) hx hb hr (jb_nz (Or.inl rfl)) (fun t ht hW => ⟨⟨0, (qv_10, qu_10, gk_10, gi_10, gz_10, gn_10, ga_10, gs_10, gu_10), rfl, ⟨(Or.inl rfl), by (try dsimp only); refine ⟨by omega, by omega, hr_11_8.base hk0 hk0, Or.inl (by first | rfl | decide), ?_⟩; have h9 := jjQr.of (b := jB8 fb) (e := z_3.toInt) (hr_9_0.trans (by rw [hk0])) hr_11_0 hk0 hk0 rfl hk0 hr_13_0 (r := (0 : Int32).toInt) (by omega); rw [hmn] at h9; exact h9⟩, ⟨hh_12.rt (M1 := [(r0, 6, 7, .int qv_10), (r0, 6, 8, .int qu_10)]) [1, 2] rfl ht, by rw [ht]; exact hh_12.2.2.2.2.2.2.2.1.sub [0, 1, 2, 3, 4, 5, 6] rfl⟩⟩, by rw [ht]; try exact hh_12.1.1, fun q h9 hq => by rw [ht]; try exact hh_12.1.2.1 q h9 hq⟩) hh_12.1.2.2 dX4_read_64
    · skip
      have c_15' : qt_12.toInt = z_3.toInt := jb_ne_n (rfl) (rfl) c_15
      refine lv_iconst (v := 1) hx hb dX4_read_59 (by decide) ?_
      refine lv_goto (tgt := 64) hx hb dX4_read_60 (by decide) ?_
      rw [hQ]
      exact W.zret (v := 1) hx hb hr (jb_nz (Or.inr rfl)) (fun t ht hW => ⟨⟨1, (qv_10, qu_10, gk_10, gi_10, gz_10, gn_10, ga_10, gs_10, gu_10), rfl, ⟨(Or.inr rfl), by (try dsimp only); refine ⟨by omega, by omega, hr_11_8.base hk0 hk0, Or.inr (hr_11_8.root hk0 hk0 (by omega) (by omega) (by omega)), ?_⟩; have h9 := jjQr.of (b := jB8 fb) (e := z_3.toInt) (hr_9_0.trans (by rw [hk0])) hr_11_0 hk0 hk0 rfl hk0 hr_13_0 (r := (1 : Int32).toInt) (by omega); rw [hmn] at h9; exact h9⟩, ⟨hh_12.rt (M1 := [(r0, 6, 7, .int qv_10), (r0, 6, 8, .int qu_10)]) [1, 2] rfl ht, by rw [ht]; exact hh_12.2.2.2.2.2.2.2.1.sub [0, 1, 2, 3, 4, 5, 6] rfl⟩⟩, by rw [ht]; try exact hh_12.1.1, fun q h9 hq => by rw [ht]; try exact hh_12.1.2.1 q h9 hq⟩) hh_12.1.2.2 dX4_read_64
end
section
-- p9: what a message does
section
variable {T : Nat → Int → Int} {v p m : Int} {S S1 : Int × (Int → jdD)}
end
theorem jdSo {x : Nat} {o : Option Nat} (h : (Value.ref x) = va_rf o) : o = some x := jdAt h
section JR8
variable {dC : Nat → ClassId} {dI : Nat → Nat → Nat} {G : jT} {a nn yy : Nat} {P Q : Prop} {H : Heap}
end JR8
theorem jqK.ng {T : Nat → Int → Int} {v a : Int} (h : a < 0) : jqK T v a = 0 := if_neg (fun q => by omega)
end
section
-- p9: the state of a server as both sides tell it; what a byte does, what many do
section
variable {s : jdSt} {u r br qn qb pl to ke sg il dg sv fi a1 a2 a3 a4 a5 a6 a7 a8 : Int}
end
section JP9
variable {dC : Nat → ClassId} {dI : Nat → Nat → Nat} {ca : Nat → ClassId} {B : jF} {base : Nat} {G0 G : jT} {E : List (Nat × Nat)} {H0 H : Heap} {zc zs : Nat} {L : List jPin} {M : List jCt} {I : List jIv} {locs : List Loc} {a k n : Nat}
end JP9
theorem jfBd.cn {D : Int → Int} {f : Nat → Int32} (h : jfBd D f 3000) : jfBd D (jfCn D) 3000 := fun j h0 h1 => by
  have e : f j.toNat = jfCn D j.toNat := h.all j.toNat (by omega)
  have e1 : jSo (jfCn D) j = jSo f j := (congrArg Int32.toInt e).symm
  have h2 := h j h0 h1
  unfold jB8 at h2 ⊢
  rw [e1]
  exact h2
theorem jdBy.bd {s : jdSt} {u br pl to ke sg il dg sv fi : Int} {f : Nat → Int32} (hX : jfQ s.1 br pl to ke sg il dg sv fi) (hb : br = 0) (h : (pl = 6 ∧ jfBd (jfBu s.2.1 fi u) f 3000) ∨ (pl ≠ 6 ∧ jfBd s.2.1 f 3000)) : jfBd (jdBy s u) f 3000 := by
  rw [jdBy.of hX hb]
  rcases h with ⟨a, b⟩ | ⟨a, b⟩
  · rw [if_pos a]; exact b
  · rw [if_neg a]; exact b
end
section
-- p9: what unit answers
section
variable {t : jDtl} {w : jWl9} {tr : jDtr} {fd : Nat → Option Nat} {c d i : Int} {a : Nat}
theorem jdUn.cn (h0 : 0 ≤ d) (h1 : d < w.1) (he : w.2.1 d.toNat = some a) (hi : (t.ln a).toInt ≤ i) : jdUn (jdCs t w).1 (jdCs t w).2 d i = -1 := by
  have e : (jdCs t w).2 d = jdC1 t a := jdLi.at h0 h1 he
  exact if_pos (Or.inr (Or.inr (Or.inr (by rw [e]; exact hi))))
theorem jdUn.cy (h0 : 0 ≤ d) (h1 : d < w.1) (he : w.2.1 d.toNat = some a) (i0 : 0 ≤ i) (hi : i < (t.ln a).toInt) : jdUn (jdCs t w).1 (jdCs t w).2 d i = jSo (t.tx a) i := by
  have e : (jdCs t w).2 d = jdC1 t a := jdLi.at h0 h1 he
  unfold jdUn
  rw [if_neg (by rw [e]; show ¬ (d < 0 ∨ w.1 ≤ d ∨ i < 0 ∨ (t.ln a).toInt ≤ i); omega), e]
  exact jdKp.at i0 hi
end
end
section
def EX1_endedByT : List (Nat × Nat) := []
set_option maxHeartbeats 4000000 in
set_option maxRecDepth 20000 in
theorem uX1_endedByT (l : Launch) (dC : Nat → ClassId) (dI : Nat → Nat → Nat) (ca : Nat → ClassId) (base : Nat) (B : jF) (hB : jBok B) (hAp : jAp (dC, dI)) (hB3 : ∀ n G a H, B 3 n G a H ↔ jOb (dC, dI) 3 17 (F3 n G) a H) (hB172 : ∀ n G a H, B 172 n G a H ↔ jAr (dC, dI) (ca 1) (fun j z => 0 ≤ z.toInt ∧ z.toInt ≤ 1500) n a H) (G0 : jT) (H0 : Heap) (r0 : Nat) (a1 : Int32) (n0 : Nat) (ps : Int32) (sa_ : Nat) (ea_ : Nat) (tx_ : Nat) (nn : Int) (fb : Nat → Int32) (fe : Nat → Int32) (ft : Nat → Int32) : Met l yX1_endedBy (jw yX1_endedBy cX1_endedBy 3 (some .int)) ({ frames := 0, cells := 0, slots := 0, locals := 0 }) (va_Pc [.ref r0, .int a1] (fun U => U.heap = H0 ∧ jX B base G0 [] H0 ∧ jG dC dI ca base U ∧ G0 r0 = some (3, n0) ∧ G0 sa_ = some (171, 40) ∧ G0 ea_ = some (172, 40) ∧ G0 tx_ = some (173, 1500) ∧ jP (dC, dI) G0 H0 [(r0, 3, 4, .int ps), (r0, 3, 5, .ref sa_), (r0, 3, 6, .ref ea_), (r0, 3, 2, .ref tx_)] ∧ jMc (dC, dI) G0 H0 [(sa_, 171, 40, ca 1, fb), (ea_, 172, 40, ca 1, fe), (tx_, 173, 1500, ca 1, ft)] ∧ 0 ≤ ps.toInt ∧ ps.toInt ≤ 40 ∧ jcP ft nn fb fe ps.toInt)) (va_Qi (S := Unit) (fun r u => (r.toInt = jwNd ft nn ps.toInt a1.toInt 40 0)) (fun u t => jRt (dC, dI) B base G0 EX1_endedByT H0 [] t.heap) (jA base)) 0 0 (jA base) := by
  refine Met.ofW (cc := cX1_endedBy) (maxL := 3) (ret := (some .int)) (by decide) rfl ?_
  intro p e s m args below meth c s₁ Bd hml hv
  obtain ⟨rfl, hH0, hX, hG, hg_r0, hg_sa_, hg_ea_, hg_tx_, hP0, hM0, hp0, hp1, hp2⟩ := hv
  have hK := hG.1
  have hx := Bd.exec
  have hb := Bd.bytes
  have hr := Bd.returns
  have hts := atoms_spec (ws := (jw yX1_endedBy cX1_endedBy 3 (some .int))) Bd.pre
  have htw : ∀ w ∈ jWl, w.before _ s = true := fun w h => hts w (List.mem_cons_of_mem _ h)
  have hown : s.vm.findClass RX1 = some m.cls := findClass_of_methodNamed Bd.named
  have hlocks := Bd.notSynchronized
  obtain ⟨Q, hQ⟩ : ∃ Q, Q = MQ below (va_Qi (S := Unit) (fun r u => (r.toInt = jwNd ft nn ps.toInt a1.toInt 40 0)) (fun u t => jRt (dC, dI) B base G0 EX1_endedByT H0 [] t.heap) (jA base)) ([.ref r0, .int a1] : List Value).toArray s 0 0 (jA base) := ⟨_, rfl⟩
  rw [← hQ]
  have hl := lv_entry ([.ref r0, .int a1]) (n := 3) (Nat.le_of_ble_eq_true rfl)
  rw [lg_entry_eq]
  generalize (lg_sl ([.ref r0, .int a1]) ++ List.replicate (3 - (lg_sl ([.ref r0, .int a1])).length) Slot.unset).toArray = ls at hl ⊢
  have hl : lv_has ls 3 [(0, .ref r0), (1, .int a1)] := hl
  generalize hR : (headSpec (jw yX1_endedBy cX1_endedBy 3 (some .int)) ({ frames := 0, cells := 0, slots := 0, locals := 0 })).room = R
  subst hH0
  have hh : jSt (dC, dI) B base G0 G0 EX1_endedByT s.heap 0 0 [(r0, 3, 4, .int ps), (r0, 3, 5, .ref sa_), (r0, 3, 6, .ref ea_), (r0, 3, 2, .ref tx_)] [(sa_, 171, 40, ca 1, fb), (ea_, 172, 40, ca 1, fe), (tx_, 173, 1500, ca 1, ft)] [] s.heap [] := jSt.start hX hP0 hM0 jIs.nil
  clear hX hP0
  have hk0 : (0 : Int32).toInt = 0 := by decide
  have hk1 : (1 : Int32).toInt = 1 := by decide
  have hly_3_4 := htw (u_lay RX1 TX1 4) (jWc_wsX10 _ (u_in_lay (by decide)))
  have hly_3_6 := htw (u_lay RX1 TX1 6) (jWc_wsX10 _ (u_in_lay (by decide)))
  have hlk_69 := (htw (.fieldLink RX1 69 "ProofServer$Document" "sentences" "I") (jWr_29 _ (List.mem_of_getElem? (i := 14) rfl)))
  have hlk_21 := (htw (.fieldLink RX1 21 "ProofServer$Document" "ends" "[I") (jWr_10 _ (List.mem_of_getElem? (i := 8) rfl)))
  have hrg_a1 := jb_rng a1
  refine lv_iconst (v := 0) hx hb dX1_endedBy_0 (by decide) ?_
  refine lv_istore_n (lv' := [(2, .int 0), (0, .ref r0), (1, .int a1)]) hx hb dX1_endedBy_1 rfl hl (by decide) rfl (fun ls hl => ?_)
  have L2 : ∀ (N : Nat) (v2_1 : Int32) (H_1 : Heap) (locs_1 : List Loc), jSt (dC, dI) B base G0 G0 EX1_endedByT s.heap 0 0 [(r0, 3, 4, .int ps), (r0, 3, 5, .ref sa_), (r0, 3, 6, .ref ea_), (r0, 3, 2, .ref tx_)] [(sa_, 171, 40, ca 1, fb), (ea_, 172, 40, ca 1, fe), (tx_, 173, 1500, ca 1, ft)] [] H_1 locs_1 → (0 ≤ v2_1.toInt ∧ v2_1.toInt ≤ ps.toInt ∧ jwNd ft nn ps.toInt a1.toInt (40 - v2_1.toInt).toNat v2_1.toInt = jwNd ft nn ps.toInt a1.toInt 40 0) → (ps.toInt - v2_1.toInt : Int) < N → ∀ ls : Array Slot, lv_has ls 3 [(0, .ref r0), (1, .int a1), (2, .int v2_1)] → W p l e R s m ([.ref r0, .int a1] : List Value).toArray below meth c H_1 locs_1 0 0 Q (F0 m 2 ls []) := by
    intro N
    induction N with
    | zero => intro v2_1 H_1 locs_1 hh_1  hi_1 hm; exact absurd hm (by omega)
    | succ N L2 =>
      intro v2_1 H_1 locs_1 hh_1  hi_1 hm_1 ls hl
      obtain ⟨hi_1_0, hi_1_1, hi_1_2⟩ := hi_1
      refine lv_iload_n hx hb dX1_endedBy_2 rfl (lv_at hl 2 rfl) ?_
      refine lv_aload_n hx hb dX1_endedBy_3 rfl (lv_at hl 0 rfl) ?_
      refine j7_read hx hb hown hK (C := RX1) (T := TX1) (N := 17) rfl hly_3_4 hlk_69 (hh_1.at 0 rfl) dX1_endedBy_4 ?_
      refine lv_icmp_ge (tgt := 26) hx hb dX1_endedBy_7 (by decide) (fun c_2 => ?_) (fun c_2 => ?_)
      · skip
        have c_2' : v2_1.toInt ≥ ps.toInt := jb_ge (rfl) (rfl) c_2
        refine lv_iload_n hx hb dX1_endedBy_26 rfl (lv_at hl 2 rfl) ?_
        rw [hQ]
        exact W.iret (v := v2_1) hx hb hr (fun t ht hW => ⟨⟨v2_1, (), rfl, by have h9 := hi_1_2; rw [jwNd.e (fun q9 => by have q1 := q9.1; omega)] at h9; exact h9, hh_1.rt (M1 := []) [] rfl ht⟩, by rw [ht]; try exact hh_1.1.1, fun q h9 hq => by rw [ht]; try exact hh_1.1.2.1 q h9 hq⟩) hh_1.1.2.2 dX1_endedBy_27
      · skip
        have c_2' : v2_1.toInt < ps.toInt := jb_ge_n (rfl) (rfl) c_2
        obtain ⟨t1, t2, t3⟩ := hp2 v2_1.toInt.toNat (by omega)
        rw [show ((v2_1.toInt.toNat : Nat) : Int) = v2_1.toInt by omega] at t2
        refine lv_aload_n hx hb dX1_endedBy_10 rfl (lv_at hl 0 rfl) ?_
        refine j7_read hx hb hown hK (C := RX1) (T := TX1) (N := 17) rfl hly_3_6 hlk_21 (hh_1.at 2 rfl) dX1_endedBy_11 ?_
        refine lv_iload_n hx hb dX1_endedBy_14 rfl (lv_at hl 2 rfl) ?_
        refine j7_ialdM hx hb hK hh_1 hB172 1 rfl (by decide) hg_ea_ (x := v2_1.toInt) (rfl) (by omega) (j := 1) rfl dX1_endedBy_15 (fun z_3 ez_3 (hz_3 : 0 ≤ z_3.toInt ∧ z_3.toInt ≤ 1500) => ?_)
        have hqz_3 : z_3.toInt = jSo fe (v2_1.toInt) := by unfold jSo; rw [ez_3]
        refine lv_iload_n hx hb dX1_endedBy_16 rfl (lv_at hl 1 rfl) ?_
        refine lv_icmp_gt (tgt := 26) hx hb dX1_endedBy_17 (by decide) (fun c_4 => ?_) (fun c_4 => ?_)
        · skip
          have c_4' : z_3.toInt > a1.toInt := jb_gt (rfl) (rfl) c_4
          refine lv_iload_n hx hb dX1_endedBy_26 rfl (lv_at hl 2 rfl) ?_
          rw [hQ]
          exact W.iret (v := v2_1) hx hb hr (fun t ht hW => ⟨⟨v2_1, (), rfl, by have h9 := hi_1_2; rw [jwNd.e (fun q9 => by have q1 := q9.2; rw [← t2] at q1; have h9 := hqz_3; omega)] at h9; exact h9, hh_1.rt (M1 := []) [] rfl ht⟩, by rw [ht]; try exact hh_1.1.1, fun q h9 hq => by rw [ht]; try exact hh_1.1.2.1 q h9 hq⟩) hh_1.1.2.2 dX1_endedBy_27
        · skip
          have c_4' : z_3.toInt ≤ a1.toInt := jb_gt_n (rfl) (rfl) c_4
          obtain ⟨z_5, ez_5⟩ : ∃ y : Int32, y = v2_1 + 1 := ⟨_, rfl⟩
          refine lv_iinc (v := z_5) (lv' := [(2, .int z_5), (0, .ref r0), (1, .int a1)]) hx hb dX1_endedBy_20 hl (k := 2) rfl (by rw [ez_5]; rfl) (by decide) rfl (fun ls hl => ?_)
          have hz_5 : z_5.toInt = v2_1.toInt + 1 := by rw [ez_5]; exact jb_iadd2 (rfl) (by decide) (by omega)
          refine lv_goto (tgt := 2) hx hb dX1_endedBy_23 (by decide) ?_
          exact L2 z_5 _ _ hh_1 (⟨by omega, by omega, (jwNd.s (by omega) ⟨by omega, by rw [← t2]; have h9 := hqz_3; omega⟩ (by omega)).trans hi_1_2⟩) (by omega) _ (lv_sub hl [1, 2, 0] rfl)
  exact L2 (ps.toInt - (0 : Int32).toInt : Int).toNat.succ 0 _ _ hh (⟨by omega, by omega, by rw [hk0]; rfl⟩) (by omega) _ (lv_sub hl [1, 2, 0] rfl)
end
section
-- p8: the units of strings that are read have no half pairs
theorem jwUn.sl {T : Nat → Int → Int} {v i : Int} (hk : jqK T v i = 3) : ∀ (z : Nat) (j : Int), 0 ≤ j → j + z ≤ T 3 i → jwUn T v i z j = jsL T z (T 2 i + j)
  | 0, _, _, _ => rfl
  | z + 1, j, h0, h1 => by
    show jqA T v i j :: jwUn T v i z (j + 1) = T 7 (T 2 i + j) :: jsL T z (T 2 i + j + 1)
    rw [jwUn.sl hk z (j + 1) (by omega) (by omega), show T 2 i + (j + 1) = T 2 i + j + 1 by omega]
    unfold jqA
    rw [if_pos ⟨hk, h0, by omega⟩]
theorem jsW.tw {T : Nat → Int → Int} {v u : Int} (h : jsW T v u) : jdTw T v := fun i hk => by
  obtain ⟨p0, p1, p2⟩ := jqK.p (T := T) (v := v) (i := i) (by omega)
  obtain ⟨a1, a2, a3, a4⟩ := h i p0 p1 (by rw [← p2]; exact hk)
  rw [jwUn.sl hk _ 0 (by omega) (by omega), Int.add_zero]
  exact a4
theorem jsW.tu {T : Nat → Int → Int} {v u : Int} (h : jsW T v u) : jdTu T v := fun i j => by
  unfold jqA
  split
  · rename_i c
    obtain ⟨p0, p1, p2⟩ := jqK.p (T := T) (v := v) (i := i) (by omega)
    obtain ⟨a1, a2, a3, a4⟩ := h i p0 p1 (by rw [← p2]; exact c.1)
    exact (jpW.nn _ _ (Nat.le_refl _) a4 _ (jsL.at (T := T) (T 3 i).toNat (T 2 i) j c.2.1 (by omega))).1
  · exact Int.le_refl 0
end
section
-- p8: a request is aimed at a document
section J9AM
variable {G : jT} {s0 a : Nat} {t : jDtl} {q : jKg} {w : jWl9} {ho : Nat → Option Nat} {us rw : Nat → List Int} {qq q1 : jRqG} {ib : Nat → List Int} {S : Int × (Int → jdD)} {Z : jwSt} {T : Nat → Int → Int} {v x : Int} {r1 : Nat}
/-- the document that is addressed, by the machine's number -/
theorem jcZ.adn (h : jcZ G s0 t q w ho us rw qq ib S Z) (hv : Value.null = jdRf w (jdF T v (jdUr T v) (jdUl t w) (jdUx t w) w.1.toNat 0)) : jdWh T v S.1 S.2 < 0 := by
  have := jdWh.n h.1 hv
  rw [h.2.1] at this
  exact this
theorem jcZ.ady (h : jcZ G s0 t q w ho us rw qq ib S Z) (hv : Value.ref a = jdRf w (jdF T v (jdUr T v) (jdUl t w) (jdUx t w) w.1.toNat 0)) : 0 ≤ jdWh T v S.1 S.2 ∧ jdWh T v S.1 S.2 < w.1 ∧ w.2.1 (jdWh T v S.1 S.2).toNat = some a := by
  have := jdWh.y h.1 hv
  rw [h.2.1] at this
  exact this
theorem jzGo.n1 {r : Int} (hr : r = 0) (h : jdWh T v S.1 S.2 < 0) : jzGo T v S w qq qq r1 r := Or.inr ⟨hr, rfl, fun q9 => by omega⟩
theorem jzGo.n2 {p r : Int} (h : jcZ G s0 t q w ho us rw qq ib S Z) (hr : r = 0) (hx : 0 ≤ jdWh T v S.1 S.2 ∧ jdWh T v S.1 S.2 < w.1 ∧ w.2.1 (jdWh T v S.1 S.2).toNat = some a) (hx1 : x = jwPo T v) (hp : p = jdT T v (jSo (t.tx a)) (t.ln a).toInt x) (hp0 : p < 0) : jzGo T v S w qq qq r1 r := by
  obtain ⟨x0, x1, x2⟩ := hx
  have g := h.gp (T := T) (v := v) x0 x1 x2 hx1
  exact Or.inr ⟨hr, rfl, fun q9 => by have := q9.2; rw [g, ← hp] at this; omega⟩
end J9AM
end
section
-- p8: a request that was just made: it waits, or is answered
section J9AQ
variable {G : jT} {s0 r1 b : Nat} {t : jDtl} {q : jKg} {w w1 : jWl9} {ho : Nat → Option Nat} {us rw : Nat → List Int} {qq q1 : jRqG} {ib : Nat → List Int} {S : Int × (Int → jdD)} {Z : jwSt} {T : Nat → Int → Int} {v d nd p r : Int}
theorem jcZ.goal (h : jcZ G s0 t q w ho us rw qq ib S Z) (hA : jzAq qq ib w r1 (jwId T v (jdId T v))) (hG : jzGo T v S w qq q1 r1 r) (hW : (w1 = w ∧ (r = 0 ∨ jzRd q q1 r1 = true ∨ 12 ≤ w.2.2.1.length)) ∨ (w1 = w.s2 (w.2.2.1 ++ [r1]) ∧ r ≠ 0 ∧ ¬ jzRd q q1 r1 = true ∧ w.2.2.1.length < 12)) : jcZ G s0 t q w1 ho us rw q1 ib S (jwGo T v S Z (jdWh T v S.1 S.2)) := by
  rcases hG with ⟨e, b, b0, b1, b2, b3, b4⟩ | ⟨e, b0, b1⟩
  · rw [show jwGo T v S Z (jdWh T v S.1 S.2) = jwAsk T v (jdWh T v S.1 S.2) (jwNd (jwF S (jdWh T v S.1 S.2)) (jwL S (jdWh T v S.1 S.2)) (jwS S (jdWh T v S.1 S.2)) (jwGp T v S (jdWh T v S.1 S.2)) 40 0) Z from if_pos ⟨b0, b3⟩]
    refine h.ask hA b0 b1 b2 b4 ?_
    rcases hW with ⟨c1, c2⟩ | ⟨c1, -, c2⟩
    · exact Or.inl ⟨c1, c2.resolve_left (by omega)⟩
    · exact Or.inr ⟨c1, c2⟩
  · rw [show jwGo T v S Z (jdWh T v S.1 S.2) = Z from if_neg b1, b0]
    rcases hW with ⟨c1, -⟩ | ⟨-, c1, -⟩
    · rw [c1]; exact h
    · exact absurd e c1
theorem jcZ.stat (h : jcZ G s0 t q w ho us rw qq ib S Z) (hA : jzAq qq ib w r1 (jwId T v (jdId T v))) (hG : jzGn T v S w qq q1 r1 r) (hW : (w1 = w ∧ (r = 0 ∨ jzRd q q1 r1 = true ∨ 12 ≤ w.2.2.1.length)) ∨ (w1 = w.s2 (w.2.2.1 ++ [r1]) ∧ r ≠ 0 ∧ ¬ jzRd q q1 r1 = true ∧ w.2.2.1.length < 12)) : jcZ G s0 t q w1 ho us rw q1 ib S (jwSt1 T v S Z (jdWh T v S.1 S.2)) := by
  rcases hG with ⟨e, b, b0, b1, b2, b3, b4⟩ | ⟨e, b0, b1⟩
  · rw [jwSt1.y b0 b3]
    refine h.ask hA b0 b1 b2 b4 ?_
    rcases hW with ⟨c1, c2⟩ | ⟨c1, -, c2⟩
    · exact Or.inl ⟨c1, c2.resolve_left (by omega)⟩
    · exact Or.inr ⟨c1, c2⟩
  · rw [show jwSt1 T v S Z (jdWh T v S.1 S.2) = Z from if_neg b1, b0]
    rcases hW with ⟨c1, -⟩ | ⟨-, c1, -⟩
    · rw [c1]; exact h
    · exact absurd e c1
theorem jwRq.z1 {m : Int} (hm : m = jdMe T v) (h : p ≠ 1) : jwRq T v p S Z = Z := jwRq.zz hm (Or.inl h)
theorem jwRq.z2 {m : Int} (hm : m = jdMe T v) (h : jqI T v (jChT jdIn) 10 m = 1) : jwRq T v p S Z = Z := jwRq.zz hm (Or.inr (Or.inl h))
theorem jwRq.z3 {m : Int} (hm : m = jdMe T v) (h : jqI T v (jChT "shutdown") 8 m = 1) : jwRq T v p S Z = Z := jwRq.zz hm (Or.inr (Or.inr (Or.inl h)))
theorem jwRq.z4 {m : Int} (hm : m = jdMe T v) (h : jqI T v (jChT "proof/goals") 11 m ≠ 1) (h1 : jqI T v (jChT "proof/statement") 15 m ≠ 1) : jwRq T v p S Z = Z := jwRq.zz hm (Or.inr (Or.inr (Or.inr ⟨h, h1⟩)))
theorem jwRq.go {m : Int} (hm : m = jdMe T v) (hp : p = 1) (h1 : jqI T v (jChT jdIn) 10 m ≠ 1) (h2 : jqI T v (jChT "shutdown") 8 m ≠ 1) (h3 : jqI T v (jChT "proof/goals") 11 m = 1) : jwRq T v p S Z = jwGo T v S Z (jdWh T v S.1 S.2) := by
  subst hm
  unfold jwRq
  rw [if_pos ⟨hp, h1, h2⟩, if_pos h3]
theorem jwRq.sta {m : Int} (hm : m = jdMe T v) (hp : p = 1) (h1 : jqI T v (jChT jdIn) 10 m ≠ 1) (h2 : jqI T v (jChT "shutdown") 8 m ≠ 1) (h3 : jqI T v (jChT "proof/goals") 11 m ≠ 1) (h4 : jqI T v (jChT "proof/statement") 15 m = 1) : jwRq T v p S Z = jwSt1 T v S Z (jdWh T v S.1 S.2) := by
  subst hm
  unfold jwRq
  rw [if_pos ⟨hp, h1, h2⟩, if_neg h3, if_pos h4]
end J9AQ
end
section
-- p8: what holds of the machine stays, from message to message
section J9OM
variable {T : Nat → Int → Int} {v p : Int} {S S1 : Int × (Int → jdD)} {Z : jwSt} {d e : Int}
theorem jsW.t3 {u : Int} (h : jsW T v u) : ∀ x, jqK T v x = 3 → 0 ≤ T 3 x := fun x hx => by
  obtain ⟨p0, p1, p2⟩ := jqK.p (T := T) (v := v) (i := x) (by omega)
  exact (h x p0 p1 (by rw [← p2]; exact hx)).2.1
theorem jwOq.ms {D : Int → Int} {z : Int} (h : jwOq S Z) : jwOq (jdMs D z p S).2.2 (jwMs D z p S Z) := by
  unfold jdMs jwMs
  by_cases c : (jjRd (jB8 (jfCn D)) z).1 = 1
  · rw [if_pos c, if_pos c]
    exact h.mg (jjRd.w (b := jB8 (jfCn D)) (e := z) (Prod.ext c rfl)).t3
  · rw [if_neg c, if_neg c]; exact h
theorem jwOq.by {s : jdSt} {c : Int} (h : jwOq s.2.2.2 Z) : jwOq (jdStep s c).2.2.2 (jwByte s Z c) := by
  unfold jdStep jwByte
  by_cases c0 : s.1 0 = 1
  · rw [if_pos c0, if_pos c0]; exact h
  · rw [if_neg c0, if_neg c0]
    by_cases c1 : (jfAc s.1 c).2.1 = 1
    · rw [if_pos c1, if_pos c1]; exact h.ms
    · rw [if_neg c1, if_neg c1]; exact h
theorem jwOq.fd {b : Int → Int} {s : jdSt} (h : jwOq s.2.2.2 Z) : ∀ k : Nat, jwOq (jdFd b s k).2.2.2 (jwFd b s Z k)
  | 0 => h
  | k + 1 => (jwOq.fd (b := b) h k).by
end J9OM
end
section
-- p8: a message is understood: the request that is made of it
def jjTo (fk fi fz fn fa fs fu : Nat → Int32) : Nat → Int → Int := fun t j => jSo (if t = 1 then fk else if t = 2 then fi else if t = 3 then fz else if t = 4 then fn else if t = 5 then fa else if t = 6 then fs else fu) j
theorem jjTo.tc {v u : Int} {fk fi fz fn fa fs fu : Nat → Int32} : jjTC (jjTo fk fi fz fn fa fs fu) v u fk fi fz fn fa fs fu := ⟨fun _ _ _ => rfl, fun _ _ _ => rfl, fun _ _ _ => rfl, fun _ _ _ => rfl, fun _ _ _ => rfl, fun _ _ _ => rfl, fun _ _ _ => rfl⟩
section J9US
variable {G G1 : jT} {s0 x N y : Nat} {t : jDtl} {q : jKg} {w : jWl9} {ho : Nat → Option Nat} {us rw : Nat → List Int} {qq gQ : jRqG} {ib iB : Nat → List Int} {S : Int × (Int → jdD)} {Z : jwSt} {iV : Value} {T : Nat → Int → Int} {v u m : Int} {fk fi fz fn fa fs fu : Nat → Int32} {P : Prop} {l : List Int}
theorem jcZ.usd (h : jcZ G s0 t q w ho us rw qq ib S Z) (hle : jLe G G1) (hU : jzUs G qq gQ ib iB) (hw : ∀ z ∈ w.2.2.1, G z = some (10, 0)) (hi : ∀ z i, G z = some (10, 0) → qq.iv z = .ref i → G i = some (17, 0)) : jcZ G1 s0 t q w ho us rw gQ iB S Z := by
  obtain ⟨x, N, iV, P, l, hg, hx, hN, hR⟩ := hU
  rw [hg]
  exact h.newq hle hN hx hw hi hR
theorem jzUx.no : jzUx G gQ iB T v none := fun x h => by cases h
theorem jzUx.nl (hx : ∀ a t, G a = some t → a ≠ x) (hg : gQ = qq.put x 0 iV .null) (hR : jzRi ib iB N iV (jqK T v m = 4 ∨ (jqK T v m = 3 ∧ jqZ T v m ≤ 20)) (jpI (jwId T v m))) (hm : m = jdId T v) (h0 : m < 0) : jzUx G gQ iB T v (some x) := fun z hz => by
  cases hz
  refine ⟨hx, Or.inr ⟨by omega, ?_⟩⟩
  rw [jRqG.pi hg]
  rcases hR with ⟨p, -⟩ | ⟨-, e, -⟩
  · rw [jqK.ng h0] at p
    omega
  · exact e
theorem jzUx.nt (h : jzUx G gQ iB T v (some x)) (hi : gQ.iv x = .null) : jdId T v < 0 := by
  obtain ⟨hx, c⟩ := h x rfl
  rcases c with ⟨-, ⟨i, c1, -⟩, -⟩ | ⟨c0, -⟩
  · rw [hi] at c1; cases c1
  · exact c0
end J9US
end
section
-- p8: a byte, on the class's side
section J9GV
variable {s : jdSt} {u r br qn qb pl to ke sg il dg sv fi a1 a2 a3 a4 a5 a6 a7 a8 p z : Int} {D : Int → Int} {S : Int × (Int → jdD)} {Z : jwSt}
theorem jwByte.cn (hX : jfQ s.1 br pl to ke sg il dg sv fi) (hb : br = 0) (hA : jfA (jfV 0 pl to ke sg il dg sv fi) u r qn qb a1 a2 a3 a4 a5 a6 a7 a8) (hr : r = 0) : jwByte s Z u = Z := by
  obtain ⟨Y, z, h1, h2, -⟩ := hA
  have e0 := hX.v hb
  have e1 : jfAc s.1 u = (Y, r, z) := by rw [e0]; exact h1
  unfold jwByte
  rw [e1, if_neg (by rw [e0]; show ¬ (0 : Int) = 1; omega), if_neg (by show ¬ r = 1; omega)]
theorem jwByte.cy (hX : jfQ s.1 br pl to ke sg il dg sv fi) (hb : br = 0) (hA : jfA (jfV 0 pl to ke sg il dg sv fi) u r qn qb a1 a2 a3 a4 a5 a6 a7 a8) (hr : r = 1) (hD : D = jdBy s u) (hp : s.2.2.1 = z) (hS : s.2.2.2 = S) : jwByte s Z u = jwMs D qn z S Z := by
  subst hD hp hS
  obtain ⟨Y, z, h1, h2, h3⟩ := hA
  have e0 := hX.v hb
  have e1 : jfAc s.1 u = (Y, r, z) := by rw [e0]; exact h1
  have ez := h3 hr
  subst ez
  unfold jwByte
  rw [e1, if_neg (by rw [e0]; show ¬ (0 : Int) = 1; omega), if_pos (by show r = 1; exact hr)]
end J9GV
end
section
theorem dX11_understood_0 : decode cX11_understood 0 = .ok (.aload_n 0, 1) := by decide +kernel
theorem dX11_understood_1 : decode cX11_understood 1 = .ok (.getfield 28, 3) := by decide +kernel
theorem dX11_understood_4 : decode cX11_understood 4 = .ok (.aload_n 0, 1) := by decide +kernel
theorem dX11_understood_5 : decode cX11_understood 5 = .ok (.getfield 21, 3) := by decide +kernel
theorem dX11_understood_8 : decode cX11_understood 8 = .ok (.getfield 253, 3) := by decide +kernel
theorem dX11_understood_11 : decode cX11_understood 11 = .ok (.aload_n 0, 1) := by decide +kernel
theorem dX11_understood_12 : decode cX11_understood 12 = .ok (.getfield 21, 3) := by decide +kernel
theorem dX11_understood_15 : decode cX11_understood 15 = .ok (.getfield 255, 3) := by decide +kernel
theorem dX11_understood_18 : decode cX11_understood 18 = .ok (.invokevirtual 256, 3) := by decide +kernel
theorem dX11_understood_21 : decode cX11_understood 21 = .ok (.istore_n 1, 1) := by decide +kernel
theorem dX11_understood_22 : decode cX11_understood 22 = .ok (.iload_n 1, 1) := by decide +kernel
theorem dX11_understood_23 : decode cX11_understood 23 = .ok (.ifCond .eq 17, 3) := by decide +kernel
theorem dX11_understood_26 : decode cX11_understood 26 = .ok (.aload_n 0, 1) := by decide +kernel
theorem dX11_understood_27 : decode cX11_understood 27 = .ok (.getfield 28, 3) := by decide +kernel
theorem dX11_understood_30 : decode cX11_understood 30 = .ok (.iconst 0, 1) := by decide +kernel
theorem dX11_understood_31 : decode cX11_understood 31 = .ok (.ldc_w 259, 3) := by decide +kernel
theorem dX11_understood_34 : decode cX11_understood 34 = .ok (.invokevirtual 260, 3) := by decide +kernel
theorem dX11_understood_37 : decode cX11_understood 37 = .ok (.goto 4, 3) := by decide +kernel
theorem dX11_understood_40 : decode cX11_understood 40 = .ok (.iconst (-1), 1) := by decide +kernel
theorem dX11_understood_41 : decode cX11_understood 41 = .ok (.istore_n 2, 1) := by decide +kernel
theorem dX11_understood_42 : decode cX11_understood 42 = .ok (.new 115, 3) := by decide +kernel
theorem dX11_understood_45 : decode cX11_understood 45 = .ok (.dup, 1) := by decide +kernel
theorem dX11_understood_46 : decode cX11_understood 46 = .ok (.aload_n 0, 1) := by decide +kernel
theorem dX11_understood_47 : decode cX11_understood 47 = .ok (.getfield 28, 3) := by decide +kernel
theorem dX11_understood_50 : decode cX11_understood 50 = .ok (.iload_n 2, 1) := by decide +kernel
theorem dX11_understood_51 : decode cX11_understood 51 = .ok (.invokespecial 264, 3) := by decide +kernel
theorem dX11_understood_54 : decode cX11_understood 54 = .ok (.astore_n 3, 1) := by decide +kernel
theorem dX11_understood_55 : decode cX11_understood 55 = .ok (.iload_n 1, 1) := by decide +kernel
theorem dX11_understood_56 : decode cX11_understood 56 = .ok (.ifCond .ne 13, 3) := by decide +kernel
theorem dX11_understood_59 : decode cX11_understood 59 = .ok (.aload_n 0, 1) := by decide +kernel
theorem dX11_understood_60 : decode cX11_understood 60 = .ok (.aload_n 3, 1) := by decide +kernel
theorem dX11_understood_61 : decode cX11_understood 61 = .ok (.sipush (-32700), 3) := by decide +kernel
theorem dX11_understood_64 : decode cX11_understood 64 = .ok (.invokevirtual 267, 3) := by decide +kernel
theorem dX11_understood_67 : decode cX11_understood 67 = .ok (.aconst_null, 1) := by decide +kernel
theorem dX11_understood_68 : decode cX11_understood 68 = .ok (.areturn, 1) := by decide +kernel
theorem dX11_understood_69 : decode cX11_understood 69 = .ok (.aload_n 0, 1) := by decide +kernel
theorem dX11_understood_70 : decode cX11_understood 70 = .ok (.getfield 28, 3) := by decide +kernel
theorem dX11_understood_73 : decode cX11_understood 73 = .ok (.iconst 0, 1) := by decide +kernel
theorem dX11_understood_74 : decode cX11_understood 74 = .ok (.ldc_w 271, 3) := by decide +kernel
theorem dX11_understood_77 : decode cX11_understood 77 = .ok (.invokevirtual 260, 3) := by decide +kernel
theorem dX11_understood_80 : decode cX11_understood 80 = .ok (.istore 4, 2) := by decide +kernel
theorem dX11_understood_82 : decode cX11_understood 82 = .ok (.aload_n 0, 1) := by decide +kernel
theorem dX11_understood_83 : decode cX11_understood 83 = .ok (.getfield 28, 3) := by decide +kernel
theorem dX11_understood_86 : decode cX11_understood 86 = .ok (.aload_n 0, 1) := by decide +kernel
theorem dX11_understood_87 : decode cX11_understood 87 = .ok (.getfield 28, 3) := by decide +kernel
theorem dX11_understood_90 : decode cX11_understood 90 = .ok (.iconst 0, 1) := by decide +kernel
theorem dX11_understood_91 : decode cX11_understood 91 = .ok (.ldc_w 273, 3) := by decide +kernel
theorem dX11_understood_94 : decode cX11_understood 94 = .ok (.invokevirtual 260, 3) := by decide +kernel
theorem dX11_understood_97 : decode cX11_understood 97 = .ok (.ldc_w 275, 3) := by decide +kernel
theorem dX11_understood_100 : decode cX11_understood 100 = .ok (.invokevirtual 277, 3) := by decide +kernel
theorem dX11_understood_103 : decode cX11_understood 103 = .ok (.ifCond .eq 58, 3) := by decide +kernel
theorem dX11_understood_106 : decode cX11_understood 106 = .ok (.aload_n 0, 1) := by decide +kernel
theorem dX11_understood_107 : decode cX11_understood 107 = .ok (.getfield 28, 3) := by decide +kernel
theorem dX11_understood_110 : decode cX11_understood 110 = .ok (.aload_n 0, 1) := by decide +kernel
theorem dX11_understood_111 : decode cX11_understood 111 = .ok (.getfield 28, 3) := by decide +kernel
theorem dX11_understood_114 : decode cX11_understood 114 = .ok (.iconst 0, 1) := by decide +kernel
theorem dX11_understood_115 : decode cX11_understood 115 = .ok (.ldc_w 281, 3) := by decide +kernel
theorem dX11_understood_118 : decode cX11_understood 118 = .ok (.invokevirtual 260, 3) := by decide +kernel
theorem dX11_understood_121 : decode cX11_understood 121 = .ok (.invokevirtual 283, 3) := by decide +kernel
theorem dX11_understood_124 : decode cX11_understood 124 = .ok (.iconst 3, 1) := by decide +kernel
theorem dX11_understood_125 : decode cX11_understood 125 = .ok (.if_icmp .ne 36, 3) := by decide +kernel
theorem dX11_understood_128 : decode cX11_understood 128 = .ok (.iload 4, 2) := by decide +kernel
theorem dX11_understood_130 : decode cX11_understood 130 = .ok (.ifCond .lt 16, 3) := by decide +kernel
theorem dX11_understood_133 : decode cX11_understood 133 = .ok (.aload_n 0, 1) := by decide +kernel
theorem dX11_understood_134 : decode cX11_understood 134 = .ok (.getfield 28, 3) := by decide +kernel
theorem dX11_understood_137 : decode cX11_understood 137 = .ok (.iload 4, 2) := by decide +kernel
theorem dX11_understood_139 : decode cX11_understood 139 = .ok (.invokevirtual 283, 3) := by decide +kernel
theorem dX11_understood_142 : decode cX11_understood 142 = .ok (.iconst 1, 1) := by decide +kernel
theorem dX11_understood_143 : decode cX11_understood 143 = .ok (.if_icmp .ne 18, 3) := by decide +kernel
theorem dX11_understood_146 : decode cX11_understood 146 = .ok (.iload_n 2, 1) := by decide +kernel
theorem dX11_understood_147 : decode cX11_understood 147 = .ok (.ifCond .lt 10, 3) := by decide +kernel
theorem dX11_understood_150 : decode cX11_understood 150 = .ok (.aload_n 3, 1) := by decide +kernel
theorem dX11_understood_151 : decode cX11_understood 151 = .ok (.getfield 114, 3) := by decide +kernel
theorem dX11_understood_154 : decode cX11_understood 154 = .ok (.ifnull 7, 3) := by decide +kernel
theorem dX11_understood_157 : decode cX11_understood 157 = .ok (.iconst 1, 1) := by decide +kernel
theorem dX11_understood_158 : decode cX11_understood 158 = .ok (.goto 4, 3) := by decide +kernel
theorem dX11_understood_161 : decode cX11_understood 161 = .ok (.iconst 0, 1) := by decide +kernel
theorem dX11_understood_162 : decode cX11_understood 162 = .ok (.istore 5, 2) := by decide +kernel
theorem dX11_understood_164 : decode cX11_understood 164 = .ok (.iload 5, 2) := by decide +kernel
theorem dX11_understood_166 : decode cX11_understood 166 = .ok (.ifCond .ne 13, 3) := by decide +kernel
theorem dX11_understood_169 : decode cX11_understood 169 = .ok (.aload_n 0, 1) := by decide +kernel
theorem dX11_understood_170 : decode cX11_understood 170 = .ok (.aload_n 3, 1) := by decide +kernel
theorem dX11_understood_171 : decode cX11_understood 171 = .ok (.sipush (-32600), 3) := by decide +kernel
theorem dX11_understood_174 : decode cX11_understood 174 = .ok (.invokevirtual 267, 3) := by decide +kernel
theorem dX11_understood_177 : decode cX11_understood 177 = .ok (.aconst_null, 1) := by decide +kernel
theorem dX11_understood_178 : decode cX11_understood 178 = .ok (.areturn, 1) := by decide +kernel
theorem dX11_understood_179 : decode cX11_understood 179 = .ok (.aload_n 3, 1) := by decide +kernel
theorem dX11_understood_180 : decode cX11_understood 180 = .ok (.areturn, 1) := by decide +kernel
end
section
theorem dX11_request_0 : decode cX11_request 0 = .ok (.aload_n 0, 1) := by decide +kernel
theorem dX11_request_1 : decode cX11_request 1 = .ok (.getfield 28, 3) := by decide +kernel
theorem dX11_request_4 : decode cX11_request 4 = .ok (.iconst 0, 1) := by decide +kernel
theorem dX11_request_5 : decode cX11_request 5 = .ok (.ldc_w 281, 3) := by decide +kernel
theorem dX11_request_8 : decode cX11_request 8 = .ok (.invokevirtual 260, 3) := by decide +kernel
theorem dX11_request_11 : decode cX11_request 11 = .ok (.istore_n 2, 1) := by decide +kernel
theorem dX11_request_12 : decode cX11_request 12 = .ok (.aload_n 0, 1) := by decide +kernel
theorem dX11_request_13 : decode cX11_request 13 = .ok (.getfield 28, 3) := by decide +kernel
theorem dX11_request_16 : decode cX11_request 16 = .ok (.iload_n 2, 1) := by decide +kernel
theorem dX11_request_17 : decode cX11_request 17 = .ok (.ldc_w 287, 3) := by decide +kernel
theorem dX11_request_20 : decode cX11_request 20 = .ok (.invokevirtual 277, 3) := by decide +kernel
theorem dX11_request_23 : decode cX11_request 23 = .ok (.istore_n 3, 1) := by decide +kernel
theorem dX11_request_24 : decode cX11_request 24 = .ok (.aload_n 0, 1) := by decide +kernel
theorem dX11_request_25 : decode cX11_request 25 = .ok (.getfield 77, 3) := by decide +kernel
theorem dX11_request_28 : decode cX11_request 28 = .ok (.ifCond .ne 37, 3) := by decide +kernel
theorem dX11_request_31 : decode cX11_request 31 = .ok (.iload_n 3, 1) := by decide +kernel
theorem dX11_request_32 : decode cX11_request 32 = .ok (.ifCond .eq 33, 3) := by decide +kernel
theorem dX11_request_35 : decode cX11_request 35 = .ok (.aload_n 0, 1) := by decide +kernel
theorem dX11_request_36 : decode cX11_request 36 = .ok (.iconst 1, 1) := by decide +kernel
theorem dX11_request_37 : decode cX11_request 37 = .ok (.putfield 77, 3) := by decide +kernel
theorem dX11_request_40 : decode cX11_request 40 = .ok (.aload_n 0, 1) := by decide +kernel
theorem dX11_request_41 : decode cX11_request 41 = .ok (.aload_n 1, 1) := by decide +kernel
theorem dX11_request_42 : decode cX11_request 42 = .ok (.ldc_w 289, 3) := by decide +kernel
theorem dX11_request_45 : decode cX11_request 45 = .ok (.invokevirtual 291, 3) := by decide +kernel
theorem dX11_request_48 : decode cX11_request 48 = .ok (.aload_n 0, 1) := by decide +kernel
theorem dX11_request_49 : decode cX11_request 49 = .ok (.getfield 35, 3) := by decide +kernel
theorem dX11_request_52 : decode cX11_request 52 = .ok (.ldc_w 295, 3) := by decide +kernel
theorem dX11_request_55 : decode cX11_request 55 = .ok (.invokevirtual 297, 3) := by decide +kernel
theorem dX11_request_58 : decode cX11_request 58 = .ok (.aload_n 0, 1) := by decide +kernel
theorem dX11_request_59 : decode cX11_request 59 = .ok (.invokevirtual 300, 3) := by decide +kernel
theorem dX11_request_62 : decode cX11_request 62 = .ok (.goto 150, 3) := by decide +kernel
theorem dX11_request_65 : decode cX11_request 65 = .ok (.aload_n 0, 1) := by decide +kernel
theorem dX11_request_66 : decode cX11_request 66 = .ok (.getfield 77, 3) := by decide +kernel
theorem dX11_request_69 : decode cX11_request 69 = .ok (.ifCond .ne 14, 3) := by decide +kernel
theorem dX11_request_72 : decode cX11_request 72 = .ok (.aload_n 0, 1) := by decide +kernel
theorem dX11_request_73 : decode cX11_request 73 = .ok (.aload_n 1, 1) := by decide +kernel
theorem dX11_request_74 : decode cX11_request 74 = .ok (.sipush (-32002), 3) := by decide +kernel
theorem dX11_request_77 : decode cX11_request 77 = .ok (.invokevirtual 267, 3) := by decide +kernel
theorem dX11_request_80 : decode cX11_request 80 = .ok (.goto 132, 3) := by decide +kernel
theorem dX11_request_83 : decode cX11_request 83 = .ok (.aload_n 0, 1) := by decide +kernel
theorem dX11_request_84 : decode cX11_request 84 = .ok (.getfield 77, 3) := by decide +kernel
theorem dX11_request_87 : decode cX11_request 87 = .ok (.iconst 2, 1) := by decide +kernel
theorem dX11_request_88 : decode cX11_request 88 = .ok (.if_icmp .eq 7, 3) := by decide +kernel
theorem dX11_request_91 : decode cX11_request 91 = .ok (.iload_n 3, 1) := by decide +kernel
theorem dX11_request_92 : decode cX11_request 92 = .ok (.ifCond .eq 14, 3) := by decide +kernel
theorem dX11_request_95 : decode cX11_request 95 = .ok (.aload_n 0, 1) := by decide +kernel
theorem dX11_request_96 : decode cX11_request 96 = .ok (.aload_n 1, 1) := by decide +kernel
theorem dX11_request_97 : decode cX11_request 97 = .ok (.sipush (-32600), 3) := by decide +kernel
theorem dX11_request_100 : decode cX11_request 100 = .ok (.invokevirtual 267, 3) := by decide +kernel
theorem dX11_request_103 : decode cX11_request 103 = .ok (.goto 109, 3) := by decide +kernel
theorem dX11_request_106 : decode cX11_request 106 = .ok (.aload_n 0, 1) := by decide +kernel
theorem dX11_request_107 : decode cX11_request 107 = .ok (.getfield 28, 3) := by decide +kernel
theorem dX11_request_110 : decode cX11_request 110 = .ok (.iload_n 2, 1) := by decide +kernel
theorem dX11_request_111 : decode cX11_request 111 = .ok (.ldc_w 303, 3) := by decide +kernel
theorem dX11_request_114 : decode cX11_request 114 = .ok (.invokevirtual 277, 3) := by decide +kernel
theorem dX11_request_117 : decode cX11_request 117 = .ok (.ifCond .eq 33, 3) := by decide +kernel
theorem dX11_request_120 : decode cX11_request 120 = .ok (.aload_n 0, 1) := by decide +kernel
theorem dX11_request_121 : decode cX11_request 121 = .ok (.iconst 2, 1) := by decide +kernel
theorem dX11_request_122 : decode cX11_request 122 = .ok (.putfield 77, 3) := by decide +kernel
theorem dX11_request_125 : decode cX11_request 125 = .ok (.aload_n 0, 1) := by decide +kernel
theorem dX11_request_126 : decode cX11_request 126 = .ok (.aload_n 1, 1) := by decide +kernel
theorem dX11_request_127 : decode cX11_request 127 = .ok (.ldc_w 289, 3) := by decide +kernel
theorem dX11_request_130 : decode cX11_request 130 = .ok (.invokevirtual 291, 3) := by decide +kernel
theorem dX11_request_133 : decode cX11_request 133 = .ok (.aload_n 0, 1) := by decide +kernel
theorem dX11_request_134 : decode cX11_request 134 = .ok (.getfield 35, 3) := by decide +kernel
theorem dX11_request_137 : decode cX11_request 137 = .ok (.ldc_w 305, 3) := by decide +kernel
theorem dX11_request_140 : decode cX11_request 140 = .ok (.invokevirtual 297, 3) := by decide +kernel
theorem dX11_request_143 : decode cX11_request 143 = .ok (.aload_n 0, 1) := by decide +kernel
theorem dX11_request_144 : decode cX11_request 144 = .ok (.invokevirtual 300, 3) := by decide +kernel
theorem dX11_request_147 : decode cX11_request 147 = .ok (.goto 65, 3) := by decide +kernel
theorem dX11_request_150 : decode cX11_request 150 = .ok (.aload_n 0, 1) := by decide +kernel
theorem dX11_request_151 : decode cX11_request 151 = .ok (.getfield 28, 3) := by decide +kernel
theorem dX11_request_154 : decode cX11_request 154 = .ok (.iload_n 2, 1) := by decide +kernel
theorem dX11_request_155 : decode cX11_request 155 = .ok (.ldc_w 307, 3) := by decide +kernel
theorem dX11_request_158 : decode cX11_request 158 = .ok (.invokevirtual 277, 3) := by decide +kernel
theorem dX11_request_161 : decode cX11_request 161 = .ok (.ifCond .eq 16, 3) := by decide +kernel
theorem dX11_request_164 : decode cX11_request 164 = .ok (.aload_n 0, 1) := by decide +kernel
theorem dX11_request_165 : decode cX11_request 165 = .ok (.aload_n 1, 1) := by decide +kernel
theorem dX11_request_166 : decode cX11_request 166 = .ok (.aload_n 0, 1) := by decide +kernel
theorem dX11_request_167 : decode cX11_request 167 = .ok (.aload_n 1, 1) := by decide +kernel
theorem dX11_request_168 : decode cX11_request 168 = .ok (.invokevirtual 309, 3) := by decide +kernel
theorem dX11_request_171 : decode cX11_request 171 = .ok (.invokevirtual 313, 3) := by decide +kernel
theorem dX11_request_174 : decode cX11_request 174 = .ok (.goto 38, 3) := by decide +kernel
theorem dX11_request_177 : decode cX11_request 177 = .ok (.aload_n 0, 1) := by decide +kernel
theorem dX11_request_178 : decode cX11_request 178 = .ok (.getfield 28, 3) := by decide +kernel
theorem dX11_request_181 : decode cX11_request 181 = .ok (.iload_n 2, 1) := by decide +kernel
theorem dX11_request_182 : decode cX11_request 182 = .ok (.ldc_w 317, 3) := by decide +kernel
theorem dX11_request_185 : decode cX11_request 185 = .ok (.invokevirtual 277, 3) := by decide +kernel
theorem dX11_request_188 : decode cX11_request 188 = .ok (.ifCond .eq 16, 3) := by decide +kernel
theorem dX11_request_191 : decode cX11_request 191 = .ok (.aload_n 0, 1) := by decide +kernel
theorem dX11_request_192 : decode cX11_request 192 = .ok (.aload_n 1, 1) := by decide +kernel
theorem dX11_request_193 : decode cX11_request 193 = .ok (.aload_n 0, 1) := by decide +kernel
theorem dX11_request_194 : decode cX11_request 194 = .ok (.aload_n 1, 1) := by decide +kernel
theorem dX11_request_195 : decode cX11_request 195 = .ok (.invokevirtual 319, 3) := by decide +kernel
theorem dX11_request_198 : decode cX11_request 198 = .ok (.invokevirtual 313, 3) := by decide +kernel
theorem dX11_request_201 : decode cX11_request 201 = .ok (.goto 11, 3) := by decide +kernel
theorem dX11_request_204 : decode cX11_request 204 = .ok (.aload_n 0, 1) := by decide +kernel
theorem dX11_request_205 : decode cX11_request 205 = .ok (.aload_n 1, 1) := by decide +kernel
theorem dX11_request_206 : decode cX11_request 206 = .ok (.sipush (-32601), 3) := by decide +kernel
theorem dX11_request_209 : decode cX11_request 209 = .ok (.invokevirtual 267, 3) := by decide +kernel
theorem dX11_request_212 : decode cX11_request 212 = .ok (.return_, 1) := by decide +kernel
def qtx865 : String := match tables_1[865]? with | some (Jvm.Cond.stringRef _ _ t) => t | _ => ""
end
section
-- how long a message is at least that opens or changes a document
theorem jMg.q {D : jC} {pv pu n z : Int} (h : jMg D pv pu n z) (hq : pu ≤ 3000) : jJq D.1 D.2.1 D.2.2.1 pv := h.1.elim (fun _ g => g.p hq)
theorem jMg.u {D : jC} {pv pu n z : Int} (h : jMg D pv pu n z) : jJu D.1 D.2.2.1 pv pu := h.1.elim (fun _ g => g.u)
theorem jMh.q {fk fi fz fa fs : Nat → Int32} {pv pu n : Int} (h : jMh (fk, fi, fz, fa, fs) pv pu n) (hq : pu ≤ 3000) : jJq fk fi fz pv := h.1.elim (fun _ g => g.p hq)
theorem jMh.u {fk fi fz fa fs : Nat → Int32} {pv pu n : Int} (h : jMh (fk, fi, fz, fa, fs) pv pu n) : jJu fk fz pv pu := h.1.elim (fun _ g => g.u)
theorem jMh.pu {D : jC} {pv pu n : Int} (h : jMh D pv pu n) : pu ≤ n + 1 := by
  have h1 := h.2.1
  have h2 := jSb.lo D.2.2.2.2 pv.toNat
  omega
end
