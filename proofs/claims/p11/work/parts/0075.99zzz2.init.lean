section
def EX1_initE : List (Nat × Nat) := []
set_option maxHeartbeats 4000000 in
set_option maxRecDepth 20000 in
theorem uX1_initE (l : Launch) (dC : Nat → ClassId) (dI : Nat → Nat → Nat) (ca : Nat → ClassId) (base : Nat) (B : jF) (hB : jBok B) (hAp : jAp (dC, dI)) (hB3 : ∀ n G a H, B 3 n G a H ↔ jOb (dC, dI) 3 17 (F3 n G) a H) (hB11 : ∀ n G a H, B 11 n G a H ↔ jOb (dC, dI) 11 9 (F11 n G) a H) (hB101 : ∀ n G a H, B 101 n G a H ↔ jAr (dC, dI) (ca 1) (fun j z => True) n a H) (hB171 : ∀ n G a H, B 171 n G a H ↔ jAr (dC, dI) (ca 1) (fun j z => 0 ≤ z.toInt ∧ z.toInt ≤ 1500) n a H) (hB172 : ∀ n G a H, B 172 n G a H ↔ jAr (dC, dI) (ca 1) (fun j z => 0 ≤ z.toInt ∧ z.toInt ≤ 1500) n a H) (hB210 : ∀ n G a H, B 210 n G a H ↔ jAq (dC, dI) (ca 6) (jQn 11 0) n G a H) (G0 : jT) (H0 : Heap) (r0 : Nat) (kn : Nat) (ph : Nat) (LC LS : Nat) : Met l yX1_init (jw yX1_init cX1_init 1 none) ({ frames := 1, cells := LC - H0.size, slots := LS - jTot H0, locals := 31 }) (va_Pc [.ref r0] (fun U => U.heap = H0 ∧ jX B base G0 [] H0 ∧ jG dC dI ca base U ∧ jK2 dC dI ca U ∧ jK6 U ∧ va_at (dC, dI) vwCl (r0, .inr (3, [.null, .int 0, .null, .int 0, .int 0, .null, .null, .null, .null, .null, .int 0, .null, .null, .int 0, .int 0, .int 0, .int 0])) H0 ∧ (∀ t, G0 r0 ≠ some t) ∧ base ≤ r0 ∧ jP (dC, dI) G0 H0 [] ∧ jIs (dC, dI) G0 H0 [(jFdo, jDcc dC dI ca G0 none ph)] ∧ H0.size + 7 ≤ LC ∧ jTot H0 + 1700 ≤ LS ∧ True)) (va_Qv (S := Int32 × Int32 × Int32 × jT) (fun u => u.1.toInt = 0 ∧ u.2.1.toInt = 0 ∧ u.2.2.1.toInt = 0) (fun u t => jRa (dC, dI) B base G0 u.2.2.2 EX1_initE H0 (7) (1700) [(r0, 3, 10, .int u.1), (r0, 3, 4, .int u.2.1), (r0, 3, 3, .int u.2.2.1)] t.heap ∧ (jNk [0, 1, 2, 4, 5, 6, 7, 8, 9, 10, 11, 12, 13, 14, 15, 16]) G0 u.2.2.2 ∧ u.2.2.2 r0 = some (3, kn) ∧ jKx r0 G0 u.2.2.2 H0 t.heap ∧ jIs (dC, dI) u.2.2.2 t.heap [(jFdo, jDcc dC dI ca u.2.2.2 none (ph + 1500))]) (jA base)) (LC - H0.size) (LS - jTot H0) (jA base) := by
  refine Met.ofW (cc := cX1_init) (maxL := 1) (ret := none) (by decide) rfl ?_
  intro p e s m args below meth c s₁ Bd hml hv
  obtain ⟨rfl, hH0, hX, hG, hK2, hK6, hraw0, hnr0, hbr0, hP0, hI0, hLC0, hLS0, hp0⟩ := hv
  have hK := hG.1
  have hx := Bd.exec
  have hb := Bd.bytes
  have hr := Bd.returns
  have hts := atoms_spec (ws := (jw yX1_init cX1_init 1 none)) Bd.pre
  have htw : ∀ w ∈ jWl, w.before _ s = true := fun w h => hts w (List.mem_cons_of_mem _ h)
  have hown : s.vm.findClass RX1 = some m.cls := findClass_of_methodNamed Bd.named
  have hlocks := Bd.notSynchronized
  obtain ⟨Q, hQ⟩ : ∃ Q, Q = MQ below (va_Qv (S := Int32 × Int32 × Int32 × jT) (fun u => u.1.toInt = 0 ∧ u.2.1.toInt = 0 ∧ u.2.2.1.toInt = 0) (fun u t => jRa (dC, dI) B base G0 u.2.2.2 EX1_initE H0 (7) (1700) [(r0, 3, 10, .int u.1), (r0, 3, 4, .int u.2.1), (r0, 3, 3, .int u.2.2.1)] t.heap ∧ (jNk [0, 1, 2, 4, 5, 6, 7, 8, 9, 10, 11, 12, 13, 14, 15, 16]) G0 u.2.2.2 ∧ u.2.2.2 r0 = some (3, kn) ∧ jKx r0 G0 u.2.2.2 H0 t.heap ∧ jIs (dC, dI) u.2.2.2 t.heap [(jFdo, jDcc dC dI ca u.2.2.2 none (ph + 1500))]) (jA base)) ([.ref r0] : List Value).toArray s (LC - H0.size) (LS - jTot H0) (jA base) := ⟨_, rfl⟩
  rw [← hQ]
  have hl := lv_entry ([.ref r0]) (n := 1) (Nat.le_of_ble_eq_true rfl)
  rw [lg_entry_eq]
  generalize (lg_sl ([.ref r0]) ++ List.replicate (1 - (lg_sl ([.ref r0])).length) Slot.unset).toArray = ls at hl ⊢
  have hl : lv_has ls 1 [(0, .ref r0)] := hl
  generalize hR : (headSpec (jw yX1_init cX1_init 1 none) ({ frames := 1, cells := LC - H0.size, slots := LS - jTot H0, locals := 31 })).room = R
  subst hH0
  have hh : jSt (dC, dI) B base G0 G0 EX1_initE s.heap 0 0 [] [] [(jFdo, jDcc dC dI ca G0 none ph)] s.heap [] := jSt.start hX hP0 jMc.nil hI0
  clear hX hP0
  have hk0 : (0 : Int32).toInt = 0 := by decide
  have hk1 : (1 : Int32).toInt = 1 := by decide
  have hk40 : (40 : Int32).toInt = 40 := by decide
  have hk1500 : (1500 : Int32).toInt = 1500 := by decide
  have hly_3_0 := htw (u_lay RX1 TX1 0) (jWc_wsX10 _ (u_in_lay (by decide)))
  have hly_3_2 := htw (u_lay RX1 TX1 2) (jWc_wsX10 _ (u_in_lay (by decide)))
  have hly_3_5 := htw (u_lay RX1 TX1 5) (jWc_wsX10 _ (u_in_lay (by decide)))
  have hly_3_6 := htw (u_lay RX1 TX1 6) (jWc_wsX10 _ (u_in_lay (by decide)))
  have hly_3_7 := htw (u_lay RX1 TX1 7) (jWc_wsX10 _ (u_in_lay (by decide)))
  have hly_3_8 := htw (u_lay RX1 TX1 8) (jWc_wsX10 _ (u_in_lay (by decide)))
  have hly_3_9 := htw (u_lay RX1 TX1 9) (jWc_wsX10 _ (u_in_lay (by decide)))
  have hlk_9 := (htw (.fieldLink RX1 9 "ProofServer$Document" "uri" "[I") (jWr_10 _ (List.mem_of_getElem? (i := 5) rfl)))
  have hlk_15 := (htw (.fieldLink RX1 15 "ProofServer$Document" "text" "[I") (jWr_10 _ (List.mem_of_getElem? (i := 6) rfl)))
  have hlk_18 := (htw (.fieldLink RX1 18 "ProofServer$Document" "starts" "[I") (jWr_10 _ (List.mem_of_getElem? (i := 7) rfl)))
  have hlk_21 := (htw (.fieldLink RX1 21 "ProofServer$Document" "ends" "[I") (jWr_10 _ (List.mem_of_getElem? (i := 8) rfl)))
  have hlk_24 := (htw (.fieldLink RX1 24 "ProofServer$Document" "costs" "[I") (jWr_10 _ (List.mem_of_getElem? (i := 9) rfl)))
  have hlk_27 := (htw (.fieldLink RX1 27 "ProofServer$Document" "early" "[I") (jWr_10 _ (List.mem_of_getElem? (i := 10) rfl)))
  have hlk_32 := (htw (.fieldLink RX1 32 "ProofServer$Document" "behind" "[LProofServer$State;") (jWr_10 _ (List.mem_of_getElem? (i := 12) rfl)))
  have hbs : base ≤ s.heap.size := Nat.le_of_lt (Nat.lt_of_le_of_lt hbr0 hraw0.lt)
  have hRc : R.cells = LC - s.heap.size := by rw [← hR]; rfl
  have hRs : R.slots = LS - jTot s.heap := by rw [← hR]; rfl
  have hE0 := hh.iv 0 rfl
  have hab0 : ∀ {a : Nat} {t : Nat × Nat}, G0 a = some t → a < s.heap.size := fun ht => (hh.ab ht).2
  have hin2 : meth.name = "<init>" := (name_of_methodNamed Bd.named Bd.method).1
  have hkp : jKx r0 G0 G0 s.heap s.heap := jKx.rf
  refine lv_aload_n hx hb dX1_init_0 rfl (lv_at hl 0 rfl) ?_
  refine W.objInit hx hb hown (htw (.methodLink RX1 3 objectInit) (jWr_10 _ (List.mem_of_getElem? (i := 4) rfl))) (htw (.instanceMethod objectInit) (jWr_1 _ (List.mem_of_getElem? (i := 10) rfl))) (htw (.code objectInit ⟨#[0xb1]⟩ 1 none) (jWr_1 _ (List.mem_of_getElem? (i := 11) rfl))) rfl (by rw [hml]; exact hl.1) rfl dX1_init_1 (by rw [← hR]; exact Nat.le_of_ble_eq_true rfl) (by rw [← hR]; exact Nat.le_of_ble_eq_true rfl) ?_
  refine W.eq (g2 := F0 m 4 ls []) rfl ?_
  refine lv_aload_n hx hb dX1_init_4 rfl (lv_at hl 0 rfl) ?_
  refine lv_iconst (v := 0) hx hb dX1_init_5 (by decide) ?_
  have hsz_1 := hh.2.2.2.2.2.1
  have htt_1 := hh.2.2.2.2.2.2.1
  refine j7_newiK hx hb hK hh hB (atype := .int) (ty := .int) (htw (.arrayClass .int) (jWr_3 _ (List.mem_of_getElem? (i := 20) rfl))) rfl rfl (fun _ h => h) hB101 1 rfl (by decide) (by decide) hbs (x := 0) (by decide) (by omega) (fun j => by first | trivial | decide | rfl | exact Or.inl rfl | (refine ⟨?_, ?_⟩ <;> decide)) (by rw [hRc]; omega) (by rw [hRs]; omega) dX1_init_6 (fun H_1 hfr_1 hh_1 => ?_)
  have hh_1 : jSt (dC, dI) B base G0 (va_up G0 s.heap.size (some (101, 0))) EX1_initE s.heap (0 + 1) (0 + 0) [] [] [(jFdo, jDcc dC dI ca G0 none ph)] H_1 [] := hh_1
  have hM_1 : jNk [1, 2, 3, 11] G0 (va_up G0 s.heap.size (some (101, 0))) := jNk.new (by decide)
  have hN_1 : (jNk [0, 1, 2, 4, 5, 6, 7, 8, 9, 10, 11, 12, 13, 14, 15, 16]) G0 (va_up G0 s.heap.size (some (101, 0))) := jNk.new (by decide)
  have hgn_1 : (va_up G0 s.heap.size (some (101, 0))) s.heap.size = some (101, 0) := jUp_self
  have hle_1 : jLe G0 (va_up G0 s.heap.size (some (101, 0))) := jLe.new hh.2.1.fresh
  have hke_1 : jKe G0 (va_up G0 s.heap.size (some (101, 0))) s.heap H_1 := jKe.new hfr_1
  have hsy_1 : s.heap.size ≤ s.heap.size := hh.1.1
  generalize (va_up G0 s.heap.size (some (101, 0))) = G_1 at hN_1 hgn_1 hle_1 hke_1 hh_1 hM_1
  clear hh
  have hNn_1 : (jNk [0, 1, 2, 4, 5, 6, 7, 8, 9, 10, 11, 12, 13, 14, 15, 16]) G0 G_1 := (jNk.rf).tr hN_1
  have hkp_2 := hkp.tr hke_1
  have hraw_3n := hke_1.nr hraw0.lt hnr0
  have hraw_3 := hraw0.kept (hke_1.1 _ hraw0.lt)
  have hn3_1 : jNk [3] G0 G_1 := (jNk.rf).tr (hM_1.sub (by decide))
  have hd_4 := jDcc.grow (hh_1.iv 0 rfl) hle_1 hM_1 (by decide)
  have hh_5 := hh_1.sub (L1 := []) [] rfl (M1 := []) [] rfl (I1 := []) [] rfl
  clear hh_1
  have hh_6 := hh_5.addI (jDcc.ie hd_4)
  clear hh_5
  refine j7_putR hx hb hown hK hh_6 hB hAp hraw_3 hraw_3n hbr0 (C := RX1) (T := TX1) (N := 17) rfl (i := 0) (by decide) (Nat.le_of_ble_eq_true rfl) hly_3_0 rfl hlk_9 (ty := (.array .int)) (v := .ref s.heap.size) (by decide +kernel) rfl rfl dX1_init_8 (fun H_7 locs_7 hraw_7 hr_7 hh_7 => ?_)
  have hraw_7 : va_at (dC, dI) vwCl (r0, .inr (3, [.ref s.heap.size, .int 0, .null, .int 0, .int 0, .null, .null, .null, .null, .null, .int 0, .null, .null, .int 0, .int 0, .int 0, .int 0])) H_7 := hraw_7
  have hkp_8 := hkp_2.put hr_7
  clear hh_6
  refine lv_aload_n hx hb dX1_init_11 rfl (lv_at hl 0 rfl) ?_
  refine lv_sipush (v := 1500) hx hb dX1_init_12 (by decide) ?_
  have hsz_9 := hh_7.2.2.2.2.2.1
  have htt_9 := hh_7.2.2.2.2.2.2.1
  refine j7_newiK hx hb hK hh_7 hB (atype := .int) (ty := .int) (htw (.arrayClass .int) (jWr_3 _ (List.mem_of_getElem? (i := 20) rfl))) rfl rfl (fun _ h => h) hB101 1 rfl (by decide) (by decide) hbs (x := 1500) (by decide) (by omega) (fun j => by first | trivial | decide | rfl | exact Or.inl rfl | (refine ⟨?_, ?_⟩ <;> decide)) (by rw [hRc]; omega) (by rw [hRs]; omega) dX1_init_15 (fun H_9 hfr_9 hh_9 => ?_)
  have hh_9 : jSt (dC, dI) B base G0 (va_up G_1 H_7.size (some (101, 1500))) EX1_initE s.heap ((0 + 1) + 1) ((0 + 0) + 1500) [] [] [(jFdo, jDcc dC dI ca G_1 none ph)] H_9 locs_7 := hh_9
  have hM_9 : jNk [1, 2, 3, 11] G_1 (va_up G_1 H_7.size (some (101, 1500))) := jNk.new (by decide)
  have hN_9 : (jNk [0, 1, 2, 4, 5, 6, 7, 8, 9, 10, 11, 12, 13, 14, 15, 16]) G_1 (va_up G_1 H_7.size (some (101, 1500))) := jNk.new (by decide)
  have hgn_9 : (va_up G_1 H_7.size (some (101, 1500))) H_7.size = some (101, 1500) := jUp_self
  have hle_9 : jLe G_1 (va_up G_1 H_7.size (some (101, 1500))) := jLe.new hh_7.2.1.fresh
  have hke_9 : jKe G_1 (va_up G_1 H_7.size (some (101, 1500))) H_7 H_9 := jKe.new hfr_9
  have hsy_9 : s.heap.size ≤ H_7.size := hh_7.1.1
  generalize (va_up G_1 H_7.size (some (101, 1500))) = G_9 at hN_9 hgn_9 hle_9 hke_9 hh_9 hM_9
  clear hh_7
  have hNn_9 : (jNk [0, 1, 2, 4, 5, 6, 7, 8, 9, 10, 11, 12, 13, 14, 15, 16]) G0 G_9 := (hNn_1).tr hN_9
  have hkp_10 := hkp_8.tr hke_9
  have hraw_11n := hke_9.nr hraw_7.lt hraw_3n
  have hraw_11 := hraw_7.kept (hke_9.1 _ hraw_7.lt)
  have hn3_9 : jNk [3] G0 G_9 := (hn3_1).tr (hM_9.sub (by decide))
  have hd_12 := jDcc.grow (hh_9.iv 0 rfl) hle_9 hM_9 (by decide)
  have hh_13 := hh_9.sub (L1 := []) [] rfl (M1 := []) [] rfl (I1 := []) [] rfl
  clear hh_9
  have hh_14 := hh_13.addI (jDcc.ie hd_12)
  clear hh_13
  refine j7_putRF hx hb hown hK hh_14 hB hAp hraw_11 hraw_11n hbr0 (C := RX1) (T := TX1) (N := 17) rfl (i := 2) (by decide) (Nat.le_of_ble_eq_true rfl) hly_3_2 rfl hin2 rfl hlk_15 (ty := (.array .int)) (v := .ref H_7.size) (by decide +kernel) rfl rfl dX1_init_17 (fun H_15 locs_15 hraw_15 hr_15 hh_15 => ?_)
  have hraw_15 : va_at (dC, dI) vwCl (r0, .inr (3, [.ref s.heap.size, .int 0, .ref H_7.size, .int 0, .int 0, .null, .null, .null, .null, .null, .int 0, .null, .null, .int 0, .int 0, .int 0, .int 0])) H_15 := hraw_15
  have hkp_16 := hkp_10.put hr_15
  clear hh_14
  refine lv_aload_n hx hb dX1_init_20 rfl (lv_at hl 0 rfl) ?_
  refine lv_bipush (v := 40) hx hb dX1_init_21 (by decide) ?_
  have hsz_17 := hh_15.2.2.2.2.2.1
  have htt_17 := hh_15.2.2.2.2.2.2.1
  refine j7_newiK hx hb hK hh_15 hB (atype := .int) (ty := .int) (htw (.arrayClass .int) (jWr_3 _ (List.mem_of_getElem? (i := 20) rfl))) rfl rfl (fun _ h => h) hB171 1 rfl (by decide) (by decide) hbs (x := 40) (by decide) (by omega) (fun j => by first | trivial | decide | rfl | exact Or.inl rfl | (refine ⟨?_, ?_⟩ <;> decide)) (by rw [hRc]; omega) (by rw [hRs]; omega) dX1_init_23 (fun H_17 hfr_17 hh_17 => ?_)
  have hh_17 : jSt (dC, dI) B base G0 (va_up G_9 H_15.size (some (171, 40))) EX1_initE s.heap (((0 + 1) + 1) + 1) (((0 + 0) + 1500) + 40) [] [] [(jFdo, jDcc dC dI ca G_9 none ph)] H_17 locs_15 := hh_17
  have hM_17 : jNk [1, 2, 3, 11] G_9 (va_up G_9 H_15.size (some (171, 40))) := jNk.new (by decide)
  have hN_17 : (jNk [0, 1, 2, 4, 5, 6, 7, 8, 9, 10, 11, 12, 13, 14, 15, 16]) G_9 (va_up G_9 H_15.size (some (171, 40))) := jNk.new (by decide)
  have hgn_17 : (va_up G_9 H_15.size (some (171, 40))) H_15.size = some (171, 40) := jUp_self
  have hle_17 : jLe G_9 (va_up G_9 H_15.size (some (171, 40))) := jLe.new hh_15.2.1.fresh
  have hke_17 : jKe G_9 (va_up G_9 H_15.size (some (171, 40))) H_15 H_17 := jKe.new hfr_17
  have hsy_17 : s.heap.size ≤ H_15.size := hh_15.1.1
  generalize (va_up G_9 H_15.size (some (171, 40))) = G_17 at hN_17 hgn_17 hle_17 hke_17 hh_17 hM_17
  clear hh_15
  have hNn_17 : (jNk [0, 1, 2, 4, 5, 6, 7, 8, 9, 10, 11, 12, 13, 14, 15, 16]) G0 G_17 := (hNn_9).tr hN_17
  have hkp_18 := hkp_16.tr hke_17
  have hraw_19n := hke_17.nr hraw_15.lt hraw_11n
  have hraw_19 := hraw_15.kept (hke_17.1 _ hraw_15.lt)
  have hn3_17 : jNk [3] G0 G_17 := (hn3_9).tr (hM_17.sub (by decide))
  have hd_20 := jDcc.grow (hh_17.iv 0 rfl) hle_17 hM_17 (by decide)
  have hh_21 := hh_17.sub (L1 := []) [] rfl (M1 := []) [] rfl (I1 := []) [] rfl
  clear hh_17
  have hh_22 := hh_21.addI (jDcc.ie hd_20)
  clear hh_21
  refine j7_putRF hx hb hown hK hh_22 hB hAp hraw_19 hraw_19n hbr0 (C := RX1) (T := TX1) (N := 17) rfl (i := 5) (by decide) (Nat.le_of_ble_eq_true rfl) hly_3_5 rfl hin2 rfl hlk_18 (ty := (.array .int)) (v := .ref H_15.size) (by decide +kernel) rfl rfl dX1_init_25 (fun H_23 locs_23 hraw_23 hr_23 hh_23 => ?_)
  have hraw_23 : va_at (dC, dI) vwCl (r0, .inr (3, [.ref s.heap.size, .int 0, .ref H_7.size, .int 0, .int 0, .ref H_15.size, .null, .null, .null, .null, .int 0, .null, .null, .int 0, .int 0, .int 0, .int 0])) H_23 := hraw_23
  have hkp_24 := hkp_18.put hr_23
  clear hh_22
  refine lv_aload_n hx hb dX1_init_28 rfl (lv_at hl 0 rfl) ?_
  refine lv_bipush (v := 40) hx hb dX1_init_29 (by decide) ?_
  have hsz_25 := hh_23.2.2.2.2.2.1
  have htt_25 := hh_23.2.2.2.2.2.2.1
  refine j7_newiK hx hb hK hh_23 hB (atype := .int) (ty := .int) (htw (.arrayClass .int) (jWr_3 _ (List.mem_of_getElem? (i := 20) rfl))) rfl rfl (fun _ h => h) hB172 1 rfl (by decide) (by decide) hbs (x := 40) (by decide) (by omega) (fun j => by first | trivial | decide | rfl | exact Or.inl rfl | (refine ⟨?_, ?_⟩ <;> decide)) (by rw [hRc]; omega) (by rw [hRs]; omega) dX1_init_31 (fun H_25 hfr_25 hh_25 => ?_)
  have hh_25 : jSt (dC, dI) B base G0 (va_up G_17 H_23.size (some (172, 40))) EX1_initE s.heap ((((0 + 1) + 1) + 1) + 1) ((((0 + 0) + 1500) + 40) + 40) [] [] [(jFdo, jDcc dC dI ca G_17 none ph)] H_25 locs_23 := hh_25
  have hM_25 : jNk [1, 2, 3, 11] G_17 (va_up G_17 H_23.size (some (172, 40))) := jNk.new (by decide)
  have hN_25 : (jNk [0, 1, 2, 4, 5, 6, 7, 8, 9, 10, 11, 12, 13, 14, 15, 16]) G_17 (va_up G_17 H_23.size (some (172, 40))) := jNk.new (by decide)
  have hgn_25 : (va_up G_17 H_23.size (some (172, 40))) H_23.size = some (172, 40) := jUp_self
  have hle_25 : jLe G_17 (va_up G_17 H_23.size (some (172, 40))) := jLe.new hh_23.2.1.fresh
  have hke_25 : jKe G_17 (va_up G_17 H_23.size (some (172, 40))) H_23 H_25 := jKe.new hfr_25
  have hsy_25 : s.heap.size ≤ H_23.size := hh_23.1.1
  generalize (va_up G_17 H_23.size (some (172, 40))) = G_25 at hN_25 hgn_25 hle_25 hke_25 hh_25 hM_25
  clear hh_23
  have hNn_25 : (jNk [0, 1, 2, 4, 5, 6, 7, 8, 9, 10, 11, 12, 13, 14, 15, 16]) G0 G_25 := (hNn_17).tr hN_25
  have hkp_26 := hkp_24.tr hke_25
  have hraw_27n := hke_25.nr hraw_23.lt hraw_19n
  have hraw_27 := hraw_23.kept (hke_25.1 _ hraw_23.lt)
  have hn3_25 : jNk [3] G0 G_25 := (hn3_17).tr (hM_25.sub (by decide))
  have hd_28 := jDcc.grow (hh_25.iv 0 rfl) hle_25 hM_25 (by decide)
  have hh_29 := hh_25.sub (L1 := []) [] rfl (M1 := []) [] rfl (I1 := []) [] rfl
  clear hh_25
  have hh_30 := hh_29.addI (jDcc.ie hd_28)
  clear hh_29
  refine j7_putRF hx hb hown hK hh_30 hB hAp hraw_27 hraw_27n hbr0 (C := RX1) (T := TX1) (N := 17) rfl (i := 6) (by decide) (Nat.le_of_ble_eq_true rfl) hly_3_6 rfl hin2 rfl hlk_21 (ty := (.array .int)) (v := .ref H_23.size) (by decide +kernel) rfl rfl dX1_init_33 (fun H_31 locs_31 hraw_31 hr_31 hh_31 => ?_)
  have hraw_31 : va_at (dC, dI) vwCl (r0, .inr (3, [.ref s.heap.size, .int 0, .ref H_7.size, .int 0, .int 0, .ref H_15.size, .ref H_23.size, .null, .null, .null, .int 0, .null, .null, .int 0, .int 0, .int 0, .int 0])) H_31 := hraw_31
  have hkp_32 := hkp_26.put hr_31
  clear hh_30
  refine lv_aload_n hx hb dX1_init_36 rfl (lv_at hl 0 rfl) ?_
  refine lv_bipush (v := 40) hx hb dX1_init_37 (by decide) ?_
  have hsz_33 := hh_31.2.2.2.2.2.1
  have htt_33 := hh_31.2.2.2.2.2.2.1
  refine j7_newiK hx hb hK hh_31 hB (atype := .int) (ty := .int) (htw (.arrayClass .int) (jWr_3 _ (List.mem_of_getElem? (i := 20) rfl))) rfl rfl (fun _ h => h) hB101 1 rfl (by decide) (by decide) hbs (x := 40) (by decide) (by omega) (fun j => by first | trivial | decide | rfl | exact Or.inl rfl | (refine ⟨?_, ?_⟩ <;> decide)) (by rw [hRc]; omega) (by rw [hRs]; omega) dX1_init_39 (fun H_33 hfr_33 hh_33 => ?_)
  have hh_33 : jSt (dC, dI) B base G0 (va_up G_25 H_31.size (some (101, 40))) EX1_initE s.heap (((((0 + 1) + 1) + 1) + 1) + 1) (((((0 + 0) + 1500) + 40) + 40) + 40) [] [] [(jFdo, jDcc dC dI ca G_25 none ph)] H_33 locs_31 := hh_33
  have hM_33 : jNk [1, 2, 3, 11] G_25 (va_up G_25 H_31.size (some (101, 40))) := jNk.new (by decide)
  have hN_33 : (jNk [0, 1, 2, 4, 5, 6, 7, 8, 9, 10, 11, 12, 13, 14, 15, 16]) G_25 (va_up G_25 H_31.size (some (101, 40))) := jNk.new (by decide)
  have hgn_33 : (va_up G_25 H_31.size (some (101, 40))) H_31.size = some (101, 40) := jUp_self
  have hle_33 : jLe G_25 (va_up G_25 H_31.size (some (101, 40))) := jLe.new hh_31.2.1.fresh
  have hke_33 : jKe G_25 (va_up G_25 H_31.size (some (101, 40))) H_31 H_33 := jKe.new hfr_33
  have hsy_33 : s.heap.size ≤ H_31.size := hh_31.1.1
  generalize (va_up G_25 H_31.size (some (101, 40))) = G_33 at hN_33 hgn_33 hle_33 hke_33 hh_33 hM_33
  clear hh_31
  have hNn_33 : (jNk [0, 1, 2, 4, 5, 6, 7, 8, 9, 10, 11, 12, 13, 14, 15, 16]) G0 G_33 := (hNn_25).tr hN_33
  have hkp_34 := hkp_32.tr hke_33
  have hraw_35n := hke_33.nr hraw_31.lt hraw_27n
  have hraw_35 := hraw_31.kept (hke_33.1 _ hraw_31.lt)
  have hn3_33 : jNk [3] G0 G_33 := (hn3_25).tr (hM_33.sub (by decide))
  have hd_36 := jDcc.grow (hh_33.iv 0 rfl) hle_33 hM_33 (by decide)
  have hh_37 := hh_33.sub (L1 := []) [] rfl (M1 := []) [] rfl (I1 := []) [] rfl
  clear hh_33
  have hh_38 := hh_37.addI (jDcc.ie hd_36)
  clear hh_37
  refine j7_putRF hx hb hown hK hh_38 hB hAp hraw_35 hraw_35n hbr0 (C := RX1) (T := TX1) (N := 17) rfl (i := 7) (by decide) (Nat.le_of_ble_eq_true rfl) hly_3_7 rfl hin2 rfl hlk_24 (ty := (.array .int)) (v := .ref H_31.size) (by decide +kernel) rfl rfl dX1_init_41 (fun H_39 locs_39 hraw_39 hr_39 hh_39 => ?_)
  have hraw_39 : va_at (dC, dI) vwCl (r0, .inr (3, [.ref s.heap.size, .int 0, .ref H_7.size, .int 0, .int 0, .ref H_15.size, .ref H_23.size, .ref H_31.size, .null, .null, .int 0, .null, .null, .int 0, .int 0, .int 0, .int 0])) H_39 := hraw_39
  have hkp_40 := hkp_34.put hr_39
  clear hh_38
  refine lv_aload_n hx hb dX1_init_44 rfl (lv_at hl 0 rfl) ?_
  refine lv_bipush (v := 40) hx hb dX1_init_45 (by decide) ?_
  have hsz_41 := hh_39.2.2.2.2.2.1
  have htt_41 := hh_39.2.2.2.2.2.2.1
  refine j7_newiK hx hb hK hh_39 hB (atype := .int) (ty := .int) (htw (.arrayClass .int) (jWr_3 _ (List.mem_of_getElem? (i := 20) rfl))) rfl rfl (fun _ h => h) hB101 1 rfl (by decide) (by decide) hbs (x := 40) (by decide) (by omega) (fun j => by first | trivial | decide | rfl | exact Or.inl rfl | (refine ⟨?_, ?_⟩ <;> decide)) (by rw [hRc]; omega) (by rw [hRs]; omega) dX1_init_47 (fun H_41 hfr_41 hh_41 => ?_)
  have hh_41 : jSt (dC, dI) B base G0 (va_up G_33 H_39.size (some (101, 40))) EX1_initE s.heap ((((((0 + 1) + 1) + 1) + 1) + 1) + 1) ((((((0 + 0) + 1500) + 40) + 40) + 40) + 40) [] [] [(jFdo, jDcc dC dI ca G_33 none ph)] H_41 locs_39 := hh_41
  have hM_41 : jNk [1, 2, 3, 11] G_33 (va_up G_33 H_39.size (some (101, 40))) := jNk.new (by decide)
  have hN_41 : (jNk [0, 1, 2, 4, 5, 6, 7, 8, 9, 10, 11, 12, 13, 14, 15, 16]) G_33 (va_up G_33 H_39.size (some (101, 40))) := jNk.new (by decide)
  have hgn_41 : (va_up G_33 H_39.size (some (101, 40))) H_39.size = some (101, 40) := jUp_self
  have hle_41 : jLe G_33 (va_up G_33 H_39.size (some (101, 40))) := jLe.new hh_39.2.1.fresh
  have hke_41 : jKe G_33 (va_up G_33 H_39.size (some (101, 40))) H_39 H_41 := jKe.new hfr_41
  have hsy_41 : s.heap.size ≤ H_39.size := hh_39.1.1
  generalize (va_up G_33 H_39.size (some (101, 40))) = G_41 at hN_41 hgn_41 hle_41 hke_41 hh_41 hM_41
  clear hh_39
  have hNn_41 : (jNk [0, 1, 2, 4, 5, 6, 7, 8, 9, 10, 11, 12, 13, 14, 15, 16]) G0 G_41 := (hNn_33).tr hN_41
  have hkp_42 := hkp_40.tr hke_41
  have hraw_43n := hke_41.nr hraw_39.lt hraw_35n
  have hraw_43 := hraw_39.kept (hke_41.1 _ hraw_39.lt)
  have hn3_41 : jNk [3] G0 G_41 := (hn3_33).tr (hM_41.sub (by decide))
  have hd_44 := jDcc.grow (hh_41.iv 0 rfl) hle_41 hM_41 (by decide)
  have hh_45 := hh_41.sub (L1 := []) [] rfl (M1 := []) [] rfl (I1 := []) [] rfl
  clear hh_41
  have hh_46 := hh_45.addI (jDcc.ie hd_44)
  clear hh_45
  refine j7_putRF hx hb hown hK hh_46 hB hAp hraw_43 hraw_43n hbr0 (C := RX1) (T := TX1) (N := 17) rfl (i := 8) (by decide) (Nat.le_of_ble_eq_true rfl) hly_3_8 rfl hin2 rfl hlk_27 (ty := (.array .int)) (v := .ref H_39.size) (by decide +kernel) rfl rfl dX1_init_49 (fun H_47 locs_47 hraw_47 hr_47 hh_47 => ?_)
  have hraw_47 : va_at (dC, dI) vwCl (r0, .inr (3, [.ref s.heap.size, .int 0, .ref H_7.size, .int 0, .int 0, .ref H_15.size, .ref H_23.size, .ref H_31.size, .ref H_39.size, .null, .int 0, .null, .null, .int 0, .int 0, .int 0, .int 0])) H_47 := hraw_47
  have hkp_48 := hkp_42.put hr_47
  clear hh_46
  refine lv_aload_n hx hb dX1_init_52 rfl (lv_at hl 0 rfl) ?_
  refine lv_bipush (v := 40) hx hb dX1_init_53 (by decide) ?_
  have hsz_49 := hh_47.2.2.2.2.2.1
  have htt_49 := hh_47.2.2.2.2.2.2.1
  have hsy_49 : s.heap.size ≤ H_47.size := hh_47.1.1
  refine j7_newqK hx hb hown (htw (.classLink RX1 30 RX9) (jWr_10 _ (List.mem_of_getElem? (i := 11) rfl))) hK6.2.2.1 hK2 hh_47 hB hB210 2 rfl (by decide) hbs (x := 40) (by decide) (by omega) (fun _ => Or.inl rfl) (by rw [hRc]; omega) (by rw [hRs]; omega) dX1_init_55 (fun H_49 hfr_49 hh_49 hqn_49 => ?_)
  have hh_49 : jSt (dC, dI) B base G0 (va_up G_41 H_47.size (some (210, 40))) EX1_initE s.heap (((((((0 + 1) + 1) + 1) + 1) + 1) + 1) + 1) (((((((0 + 0) + 1500) + 40) + 40) + 40) + 40) + 40) [] [] [(jFdo, jDcc dC dI ca G_41 none ph)] H_49 locs_47 := hh_49
  have hM_49 : jNk [1, 2, 3, 11] G_41 (va_up G_41 H_47.size (some (210, 40))) := jNk.new (by decide)
  have hN_49 : (jNk [0, 1, 2, 4, 5, 6, 7, 8, 9, 10, 11, 12, 13, 14, 15, 16]) G_41 (va_up G_41 H_47.size (some (210, 40))) := jNk.new (by decide)
  have hgn_49 : (va_up G_41 H_47.size (some (210, 40))) H_47.size = some (210, 40) := jUp_self
  have hle_49 : jLe G_41 (va_up G_41 H_47.size (some (210, 40))) := jLe.new hh_47.2.1.fresh
  have hke_49 : jKe G_41 (va_up G_41 H_47.size (some (210, 40))) H_47 H_49 := jKe.new hfr_49
  have hsy_49 : s.heap.size ≤ H_47.size := hh_47.1.1
  generalize (va_up G_41 H_47.size (some (210, 40))) = G_49 at hN_49 hgn_49 hle_49 hke_49 hh_49 hM_49
  clear hh_47
  have hNn_49 : (jNk [0, 1, 2, 4, 5, 6, 7, 8, 9, 10, 11, 12, 13, 14, 15, 16]) G0 G_49 := (hNn_41).tr hN_49
  have hkp_50 := hkp_48.tr hke_49
  have hraw_51n := hke_49.nr hraw_47.lt hraw_43n
  have hraw_51 := hraw_47.kept (hke_49.1 _ hraw_47.lt)
  have hn3_49 : jNk [3] G0 G_49 := (hn3_41).tr (hM_49.sub (by decide))
  have hd_52 := jDcc.grow (hh_49.iv 0 rfl) hle_49 hM_49 (by decide)
  have hh_53 := hh_49.sub (L1 := []) [] rfl (M1 := []) [] rfl (I1 := []) [] rfl
  clear hh_49
  have hh_54 := hh_53.addI (jDcc.ie hd_52)
  clear hh_53
  refine j7_putRF hx hb hown hK hh_54 hB hAp hraw_51 hraw_51n hbr0 (C := RX1) (T := TX1) (N := 17) rfl (i := 9) (by decide) (Nat.le_of_ble_eq_true rfl) hly_3_9 rfl hin2 rfl hlk_32 (ty := (.array (.object "ProofServer$State"))) (v := .ref H_47.size) (by decide +kernel) rfl rfl dX1_init_58 (fun H_55 locs_55 hraw_55 hr_55 hh_55 => ?_)
  have hraw_55 : va_at (dC, dI) vwCl (r0, .inr (3, [.ref s.heap.size, .int 0, .ref H_7.size, .int 0, .int 0, .ref H_15.size, .ref H_23.size, .ref H_31.size, .ref H_39.size, .ref H_47.size, .int 0, .null, .null, .int 0, .int 0, .int 0, .int 0])) H_55 := hraw_55
  have hkp_56 := hkp_50.put hr_55
  clear hh_54
  have hsz_57 := hh_55.2.2.2.2.2.1
  have htt_57 := hh_55.2.2.2.2.2.2.1
  refine W.room (fun hrc_57 hrs_57 => ?_)
  refine W.widen (k := LC - s.heap.size) (n := LS - jTot s.heap) (by omega) (by omega) ?_
  rw [hQ]
  have hg_58 := ((((hle_25).tr hle_33).tr hle_41).tr hle_49) _ _ hgn_17
  have hg_59 := (((hle_33).tr hle_41).tr hle_49) _ _ hgn_25
  obtain ⟨fb9, hh_60⟩ := hh_55.cpin hB171 (by decide) (by decide) hg_58
  obtain ⟨fe9, hh_61⟩ := hh_60.cpin hB172 (by decide) (by decide) hg_59
  have hd_62 := jDcc.typ (n := kn) (ph1 := ph + 1500) (hh_61.iv 0 rfl) hraw_51n (jf.raw (C := RX1) (T := TX1) (N := 17) rfl hraw_55 (i := 4) (by decide)) (jf.raw (C := RX1) (T := TX1) (N := 17) rfl hraw_55 (i := 10) (by decide)) (jf.raw (C := RX1) (T := TX1) (N := 17) rfl hraw_55 (i := 11) (by decide)) (jf.raw (C := RX1) (T := TX1) (N := 17) rfl hraw_55 (i := 5) (by decide)) (jf.raw (C := RX1) (T := TX1) (N := 17) rfl hraw_55 (i := 6) (by decide)) hg_58 hg_59 (hh_61.2.2.2.2.2.2.2.1.sub (L1 := [(H_15.size, 171, 40, ca 1, fb9), (H_23.size, 172, 40, ca 1, fe9)]) [1, 0] rfl) (jDcc.fresh hE0 (fun a t ht => hab0 ht) hnr0 hn3_49 hkp_56 hsy_17 hsy_25) (by omega) (fun _ => by omega)
  have hh_63 := hh_61.sub (L1 := []) [] rfl (M1 := [(H_23.size, 172, 40, ca 1, fe9), (H_15.size, 171, 40, ca 1, fb9)]) [0, 1] rfl (I1 := []) [] rfl
  clear hh_61
  have hle_64 : jLe G_49 (va_up G_49 r0 (some (3, kn))) := jLe.typ hraw_51n
  have hg_65 := ((((((hle_9).tr hle_17).tr hle_25).tr hle_33).tr hle_41).tr hle_49).tr hle_64 _ _ hgn_1
  have hg_66 := (((((hle_17).tr hle_25).tr hle_33).tr hle_41).tr hle_49).tr hle_64 _ _ hgn_9
  have hg_67 := ((((hle_25).tr hle_33).tr hle_41).tr hle_49).tr hle_64 _ _ hgn_17
  have hg_68 := (((hle_33).tr hle_41).tr hle_49).tr hle_64 _ _ hgn_25
  have hg_69 := ((hle_41).tr hle_49).tr hle_64 _ _ hgn_33
  have hg_70 := (hle_49).tr hle_64 _ _ hgn_41
  have hg_71 := (jLe.rf).tr hle_64 _ _ hgn_49
  have hfa_64 : jRk (va_up G_49 r0 (some (3, kn))) 101 3000 (.ref s.heap.size) ∧ jIa (.int 0) ∧ jRf (va_up G_49 r0 (some (3, kn))) 101 1500 (.ref H_7.size) ∧ jI 0 1500 (.int 0) ∧ jI 0 40 (.int 0) ∧ jRf (va_up G_49 r0 (some (3, kn))) 171 40 (.ref H_15.size) ∧ jRf (va_up G_49 r0 (some (3, kn))) 172 40 (.ref H_23.size) ∧ jRf (va_up G_49 r0 (some (3, kn))) 101 40 (.ref H_31.size) ∧ jRf (va_up G_49 r0 (some (3, kn))) 101 40 (.ref H_39.size) ∧ jRf (va_up G_49 r0 (some (3, kn))) 210 40 (.ref H_47.size) ∧ jI 0 40 (.int 0) ∧ jRm (va_up G_49 r0 (some (3, kn))) 101 1500 (.null) ∧ jRn (va_up G_49 r0 (some (3, kn))) 11 0 (.null) ∧ jIa (.int 0) ∧ jIa (.int 0) ∧ jIa (.int 0) ∧ jI 0 1500 (.int 0) ∧ True := ⟨⟨_, _, rfl, hg_65, by omega⟩, ⟨_, rfl⟩, ⟨_, rfl, hg_66⟩, ⟨_, rfl, by omega, by omega⟩, ⟨_, rfl, by omega, by omega⟩, ⟨_, rfl, hg_67⟩, ⟨_, rfl, hg_68⟩, ⟨_, rfl, hg_69⟩, ⟨_, rfl, hg_70⟩, ⟨_, rfl, hg_71⟩, ⟨_, rfl, by omega, by omega⟩, Or.inl rfl, Or.inl rfl, ⟨_, rfl⟩, ⟨_, rfl⟩, ⟨_, rfl⟩, ⟨_, rfl, by omega, by omega⟩, trivial⟩
  have hh_64 := hh_63.typ (k := 3) (n := kn) hB hraw_51n hbr0 hraw_55.lt (jOb.of (C := RX1) (T := TX1) (N := 17) (F := F3) hB3 rfl hraw_55 (show jFx (F3 kn (va_up G_49 r0 (some (3, kn)))) [.ref s.heap.size, .int 0, .ref H_7.size, .int 0, .int 0, .ref H_15.size, .ref H_23.size, .ref H_31.size, .ref H_39.size, .ref H_47.size, .int 0, .null, .null, .int 0, .int 0, .int 0, .int 0] from hfa_64))
  have hgn_64 : (va_up G_49 r0 (some (3, kn))) r0 = some (3, kn) := jUp_self
  have hN_64 : (jNk [0, 1, 2, 4, 5, 6, 7, 8, 9, 10, 11, 12, 13, 14, 15, 16]) G_49 (va_up G_49 r0 (some (3, kn))) := jNk.new (by decide)
  have hNn_64 : (jNk [0, 1, 2, 4, 5, 6, 7, 8, 9, 10, 11, 12, 13, 14, 15, 16]) G0 (va_up G_49 r0 (some (3, kn))) := (hNn_49).tr hN_64
  have hkp_72 := hkp_56.typ (t := some (3, kn))
  have hh_73 := hh_64.more (P1 := [(r0, 3, 10, .int 0), (r0, 3, 4, .int 0), (r0, 3, 3, .int 0)]) (jP.cons hgn_64 (jf.raw (C := RX1) (T := TX1) (N := 17) rfl hraw_55 (i := 10) (by decide)) (jP.cons hgn_64 (jf.raw (C := RX1) (T := TX1) (N := 17) rfl hraw_55 (i := 4) (by decide)) (jP.cons hgn_64 (jf.raw (C := RX1) (T := TX1) (N := 17) rfl hraw_55 (i := 3) (by decide)) jP.nil)))
  have hh_74 := hh_73.addI (jDcc.ie hd_62)
  clear hh_73
  exact W.vret hx hb hr (fun t ht hW => ⟨⟨(0, 0, 0, (va_up G_49 r0 (some (3, kn)))), rfl, by (try dsimp only); exact ⟨(by first | omega | rfl | assumption | fail), (by first | omega | rfl | assumption | fail), (by first | omega | rfl | assumption | fail)⟩, ⟨hh_74.ra (by first | omega | (simp only; omega)) (by first | omega | (simp only; omega)) (M1 := [(r0, 3, 10, .int 0), (r0, 3, 4, .int 0), (r0, 3, 3, .int 0)]) [0, 1, 2] rfl ht, hNn_64, hgn_64, by rw [ht]; exact hkp_72, by rw [ht]; exact hh_74.2.2.2.2.2.2.2.2.sub (L1 := [(jFdo, jDcc dC dI ca (va_up G_49 r0 (some (3, kn))) none (ph + 1500))]) [0] rfl⟩⟩, by rw [ht]; try exact hh_74.1.1, fun q h9 hq => by rw [ht]; try exact hh_74.1.2.1 q h9 hq⟩) hh_74.1.2.2 dX1_init_61
end
section
-- how long a message is at least that opens or changes a document
theorem jEd.z {fe : Nat → Int32} {k : Int} (h : k ≤ 0) : jEd fe k = 0 := by
  unfold jEd
  rw [if_pos h]
theorem jOr.or {p q : Prop} (h : jOr p q) : p ∨ q := h
end
section
def EX1_replaceQ : List (Nat × Nat) := [(3, 3), (101, 0)]
set_option maxHeartbeats 4000000 in
set_option maxRecDepth 20000 in
theorem uX1_replaceQ (l : Launch) (dC : Nat → ClassId) (dI : Nat → Nat → Nat) (ca : Nat → ClassId) (base : Nat) (B : jF) (hB : jBok B) (hAp : jAp (dC, dI)) (hB3 : ∀ n G a H, B 3 n G a H ↔ jOb (dC, dI) 3 17 (F3 n G) a H) (hB6 : ∀ n G a H, B 6 n G a H ↔ jOb (dC, dI) 6 12 (F6 n G) a H) (hB101 : ∀ n G a H, B 101 n G a H ↔ jAr (dC, dI) (ca 1) (fun j z => True) n a H) (hB140 : ∀ n G a H, B 140 n G a H ↔ jAr (dC, dI) (ca 1) (fun j z => True) n a H) (hB141 : ∀ n G a H, B 141 n G a H ↔ jAr (dC, dI) (ca 1) (fun j z => True) n a H) (hB142 : ∀ n G a H, B 142 n G a H ↔ jAr (dC, dI) (ca 1) (fun j z => True) n a H) (hB146 : ∀ n G a H, B 146 n G a H ↔ jAr (dC, dI) (ca 1) (fun j z => True) n a H) (G0 : jT) (H0 : Heap) (r0 : Nat) (a1 : Int32) (a2 : Int32) (r3 : Nat) (a4 : Int32) (pl : Int32) (pv : Int32) (wk : Nat) (wi : Nat) (wz : Nat) (fk : Nat → Int32) (fi : Nat → Int32) (fz : Nat → Int32) : Met l yX1_replace (jw yX1_replace cX1_replace 8 (some .boolean)) ({ frames := 2, cells := 0, slots := 0, locals := 61 }) (va_Pc [.ref r0, .int a1, .int a2, .ref r3, .int a4] (fun U => U.heap = H0 ∧ jX B base G0 [] H0 ∧ jG dC dI ca base U ∧ G0 r0 = some (3, 0) ∧ G0 r3 = some (6, 0) ∧ G0 wk = some (140, 1502) ∧ G0 wi = some (141, 1502) ∧ G0 wz = some (142, 1502) ∧ jP (dC, dI) G0 H0 [(r0, 3, 3, .int pl), (r3, 6, 7, .int pv), (r3, 6, 0, .ref wk), (r3, 6, 1, .ref wi), (r3, 6, 2, .ref wz)] ∧ jMc (dC, dI) G0 H0 [(wk, 140, 1502, ca 1, fk), (wi, 141, 1502, ca 1, fi), (wz, 142, 1502, ca 1, fz)] ∧ a1.toInt = 0 ∧ a2.toInt = 0 ∧ pl.toInt = 0 ∧ 0 ≤ a4.toInt ∧ a4.toInt < pv.toInt ∧ pv.toInt ≤ 1502)) (va_Qi (S := Int32) (fun r u => (r = 0 ∨ r = 1) ∧ (0 ≤ u.toInt ∧ u.toInt ≤ 1500 ∧ (u.toInt = 0 ∨ u.toInt = jSo fz a4.toInt))) (fun u t => jRt (dC, dI) B base G0 EX1_replaceQ H0 [(r0, 3, 3, .int u)] t.heap) (jA base)) 0 0 (jA base) := by
  refine Met.ofW (cc := cX1_replace) (maxL := 8) (ret := (some .boolean)) (by decide) rfl ?_
  intro p e s m args below meth c s₁ Bd hml hv
  obtain ⟨rfl, hH0, hX, hG, hg_r0, hg_r3, hg_wk, hg_wi, hg_wz, hP0, hM0, hp0, hp1, hp2, hp3, hp4, hp5⟩ := hv
  have hK := hG.1
  have hx := Bd.exec
  have hb := Bd.bytes
  have hr := Bd.returns
  have hts := atoms_spec (ws := (jw yX1_replace cX1_replace 8 (some .boolean))) Bd.pre
  have htw : ∀ w ∈ jWl, w.before _ s = true := fun w h => hts w (List.mem_cons_of_mem _ h)
  have hown : s.vm.findClass RX1 = some m.cls := findClass_of_methodNamed Bd.named
  have hlocks := Bd.notSynchronized
  obtain ⟨Q, hQ⟩ : ∃ Q, Q = MQ below (va_Qi (S := Int32) (fun r u => (r = 0 ∨ r = 1) ∧ (0 ≤ u.toInt ∧ u.toInt ≤ 1500 ∧ (u.toInt = 0 ∨ u.toInt = jSo fz a4.toInt))) (fun u t => jRt (dC, dI) B base G0 EX1_replaceQ H0 [(r0, 3, 3, .int u)] t.heap) (jA base)) ([.ref r0, .int a1, .int a2, .ref r3, .int a4] : List Value).toArray s 0 0 (jA base) := ⟨_, rfl⟩
  rw [← hQ]
  have hl := lv_entry ([.ref r0, .int a1, .int a2, .ref r3, .int a4]) (n := 8) (Nat.le_of_ble_eq_true rfl)
  rw [lg_entry_eq]
  generalize (lg_sl ([.ref r0, .int a1, .int a2, .ref r3, .int a4]) ++ List.replicate (8 - (lg_sl ([.ref r0, .int a1, .int a2, .ref r3, .int a4])).length) Slot.unset).toArray = ls at hl ⊢
  have hl : lv_has ls 8 [(0, .ref r0), (1, .int a1), (2, .int a2), (3, .ref r3), (4, .int a4)] := hl
  generalize hR : (headSpec (jw yX1_replace cX1_replace 8 (some .boolean)) ({ frames := 2, cells := 0, slots := 0, locals := 61 })).room = R
  subst hH0
  have hh : jSt (dC, dI) B base G0 G0 EX1_replaceQ s.heap 0 0 [(r0, 3, 3, .int pl), (r3, 6, 7, .int pv), (r3, 6, 0, .ref wk), (r3, 6, 1, .ref wi), (r3, 6, 2, .ref wz)] [(wk, 140, 1502, ca 1, fk), (wi, 141, 1502, ca 1, fi), (wz, 142, 1502, ca 1, fz)] [] s.heap [] := jSt.start hX hP0 hM0 jIs.nil
  clear hX hP0
  have hk0 : (0 : Int32).toInt = 0 := by decide
  have hk1 : (1 : Int32).toInt = 1 := by decide
  have hk1500 : (1500 : Int32).toInt = 1500 := by decide
  have hly_3_2 := htw (u_lay RX1 TX1 2) (jWc_wsX10 _ (u_in_lay (by decide)))
  have hly_3_3 := htw (u_lay RX1 TX1 3) (jWc_wsX10 _ (u_in_lay (by decide)))
  have hlk_42 := (htw (.fieldLink RX1 42 "ProofServer$Document" "length" "I") (jWr_29 _ (List.mem_of_getElem? (i := 5) rfl)))
  have hlk_15 := (htw (.fieldLink RX1 15 "ProofServer$Document" "text" "[I") (jWr_10 _ (List.mem_of_getElem? (i := 6) rfl)))
  have hrg_a1 := jb_rng a1
  have hrg_a2 := jb_rng a2
  have hrg_a4 := jb_rng a4
  refine lv_aload_n hx hb dX1_replace_0 rfl (lv_at hl 3 rfl) ?_
  refine lv_iload hx hb dX1_replace_1 (lv_at hl 4 rfl) ?_
  refine va_calli (A0 := jA base) (H0 := s.heap) (va_runV (As := [.int a4]) (rest := []) ⟨hx, hb, hml, hown, hts⟩ (uX4_sizeOfW l dC dI ca base B hB hAp hB6 hB142 G0 s.heap r3 a4 pv wk wi wz fk fi fz) (cwV 1 hts (jgV (jWr_36 _ (List.mem_of_getElem? (i := 0) rfl)) (jWr_24 _ (List.mem_of_getElem? (i := 7) rfl)) (jWr_24 _ (List.mem_of_getElem? (i := 8) rfl)) (jWr_1 _ (List.mem_of_getElem? (i := 22) rfl)) (jWr_24 _ (List.mem_of_getElem? (i := 9) rfl))) rfl rfl rfl (by decide +kernel) ⟨by rw [← hR]; exact Nat.le_of_ble_eq_true rfl, by rw [← hR]; exact Nat.le_of_ble_eq_true rfl⟩) ⟨fun a U g mk q => by obtain ⟨q0, q1, q2, qK, q10, q11, q12, q13, q14, q15, q16⟩ := q; exact ⟨q0, q1, q2, jG.calling g mk a qK, q10, q11, q12, q13, q14, q15, q16⟩, hh.recv (C := RX4) (T := TX4) (N := 12) hB6 rfl (by decide) hg_r3 hK, fun U hU hW => ⟨rfl, hU, hh.2.1, hG.step hW hU hh.1, hg_r3, hg_wk, hg_wi, hg_wz, (hh.2.2.1.sub (L1 := [(r3, 6, 7, .int pv), (r3, 6, 0, .ref wk), (r3, 6, 1, .ref wi), (r3, 6, 2, .ref wz)]) [1, 2, 3, 4] rfl), (hh.2.2.2.2.2.2.2.1.sub (L1 := [(wk, 140, 1502, ca 1, fk), (wi, 141, 1502, ca 1, fi), (wz, 142, 1502, ca 1, fz)]) [0, 1, 2] rfl), by first | omega | (refine ⟨?_, ?_⟩ <;> (first | omega | rfl | assumption | decide | exact Or.inl rfl | exact Or.inr rfl | (simp only; omega)))⟩⟩ rfl rfl hl.1 rfl (lv_room (Nat.le_of_ble_eq_true rfl)) dX1_replace_3 ⟨Nat.zero_le _, Nat.zero_le _⟩) hh.1 (fun q _ h => h) (fun q h => h) (fun r_2 u_1 t_1 H_1 locs_1 ht_1 hvm_1 hr_2 hb_1 hz_1 hk_1 hS_1 => ?_)
  rw [ht_1] at hb_1
  obtain ⟨hb_1, hbF_1⟩ := hb_1
  obtain ⟨hb_11, hb_12, hb_13, hb_14, hb_15⟩ := hb_1
  have hh_1 : jSt (dC, dI) B base G0 G0 EX1_replaceQ s.heap 0 0 [(r0, 3, 3, .int pl), (r3, 6, 7, .int pv), (r3, 6, 0, .ref wk), (r3, 6, 1, .ref wi), (r3, 6, 2, .ref wz)] [(wk, 140, 1502, ca 1, fk), (wi, 141, 1502, ca 1, fi), (wz, 142, 1502, ca 1, fz)] [] H_1 locs_1 := ((hh.call hb_11 hb_12 hb_13 hb_14 hS_1 rfl (L1 := [(r0, 3, 3, .int pl), (r3, 6, 7, .int pv), (r3, 6, 0, .ref wk), (r3, 6, 1, .ref wi), (r3, 6, 2, .ref wz)]) [0, 1, 2, 3, 4] rfl rfl (M1 := [(wk, 140, 1502, ca 1, fk), (wi, 141, 1502, ca 1, fi), (wz, 142, 1502, ca 1, fz)]) [0, 1, 2] rfl rfl (I1 := []) [] rfl rfl).more hb_15)
  clear hh ht_1 hvm_1 hz_1 hk_1 hS_1 hb_11 hb_12 hb_13 hb_14 hb_15
  refine lv_istore (lv' := [(5, .int r_2), (0, .ref r0), (1, .int a1), (2, .int a2), (3, .ref r3), (4, .int a4)]) hx hb dX1_replace_6 hl (by decide) rfl (fun ls hl => ?_)
  refine lv_aload_n hx hb dX1_replace_8 rfl (lv_at hl 1 rfl) ?_
  refine j7_read hx hb hown hK (C := RX1) (T := TX1) (N := 17) rfl hly_3_3 hlk_42 (hh_1.at 0 rfl) dX1_replace_9 ?_
  refine lv_iload_n hx hb dX1_replace_12 rfl (lv_at hl 3 rfl) ?_
  refine lv_isub hx hb dX1_replace_13 ?_
  refine lv_topi (fun z_3 ez_3 => ?_)
  have hz_3 : z_3.toInt = pl.toInt - a2.toInt := by rw [ez_3]; exact jb_isub2 (rfl) (rfl) (by omega)
  refine lv_istore (lv' := [(6, .int z_3), (5, .int r_2), (0, .ref r0), (1, .int a1), (2, .int a2), (3, .ref r3), (4, .int a4)]) hx hb dX1_replace_14 hl (by decide) rfl (fun ls hl => ?_)
  refine lv_iload_n hx hb dX1_replace_16 rfl (lv_at hl 3 rfl) ?_
  refine lv_if_lt (tgt := 56) hx hb dX1_replace_17 (by decide) (fun c_4 => ?_) (fun c_4 => ?_)
  · skip
    have c_4' : a1.toInt < 0 := jb_lt (rfl) ((by decide)) c_4
    refine lv_iconst (v := 0) hx hb dX1_replace_56 (by decide) ?_
    rw [hQ]
    exact W.zret (v := 0) hx hb hr (jb_nz (Or.inl rfl)) (fun t ht hW => ⟨⟨0, pl, rfl, ⟨(Or.inl rfl), by (try dsimp only); first | omega | (refine ⟨?_, ?_, ?_⟩ <;> (first | omega | rfl | assumption | decide | exact Or.inl rfl | exact Or.inr rfl | (simp only; omega)))⟩, hh_1.rt (M1 := [(r0, 3, 3, .int pl)]) [0] rfl ht⟩, by rw [ht]; try exact hh_1.1.1, fun q h9 hq => by rw [ht]; try exact hh_1.1.2.1 q h9 hq⟩) hh_1.1.2.2 dX1_replace_57
  · skip
    have c_4' : a1.toInt ≥ 0 := jb_lt_n (rfl) ((by decide)) c_4
    refine lv_iload_n hx hb dX1_replace_20 rfl (lv_at hl 4 rfl) ?_
    refine lv_iload_n hx hb dX1_replace_21 rfl (lv_at hl 3 rfl) ?_
    refine lv_icmp_lt (tgt := 56) hx hb dX1_replace_22 (by decide) (fun c_5 => ?_) (fun c_5 => ?_)
    · skip
      have c_5' : a2.toInt < a1.toInt := jb_lt (rfl) (rfl) c_5
      refine lv_iconst (v := 0) hx hb dX1_replace_56 (by decide) ?_
      rw [hQ]
      exact W.zret (v := 0) hx hb hr (jb_nz (Or.inl rfl)) (fun t ht hW => ⟨⟨0, pl, rfl, ⟨(Or.inl rfl), by (try dsimp only); first | omega | (refine ⟨?_, ?_, ?_⟩ <;> (first | omega | rfl | assumption | decide | exact Or.inl rfl | exact Or.inr rfl | (simp only; omega)))⟩, hh_1.rt (M1 := [(r0, 3, 3, .int pl)]) [0] rfl ht⟩, by rw [ht]; try exact hh_1.1.1, fun q h9 hq => by rw [ht]; try exact hh_1.1.2.1 q h9 hq⟩) hh_1.1.2.2 dX1_replace_57
    · skip
      have c_5' : a2.toInt ≥ a1.toInt := jb_lt_n (rfl) (rfl) c_5
      refine lv_iload hx hb dX1_replace_25 (lv_at hl 0 rfl) ?_
      refine lv_if_lt (tgt := 56) hx hb dX1_replace_27 (by decide) (fun c_6 => ?_) (fun c_6 => ?_)
      · skip
        have c_6' : z_3.toInt < 0 := jb_lt (rfl) ((by decide)) c_6
        refine lv_iconst (v := 0) hx hb dX1_replace_56 (by decide) ?_
        rw [hQ]
        exact W.zret (v := 0) hx hb hr (jb_nz (Or.inl rfl)) (fun t ht hW => ⟨⟨0, pl, rfl, ⟨(Or.inl rfl), by (try dsimp only); first | omega | (refine ⟨?_, ?_, ?_⟩ <;> (first | omega | rfl | assumption | decide | exact Or.inl rfl | exact Or.inr rfl | (simp only; omega)))⟩, hh_1.rt (M1 := [(r0, 3, 3, .int pl)]) [0] rfl ht⟩, by rw [ht]; try exact hh_1.1.1, fun q h9 hq => by rw [ht]; try exact hh_1.1.2.1 q h9 hq⟩) hh_1.1.2.2 dX1_replace_57
      · skip
        have c_6' : z_3.toInt ≥ 0 := jb_lt_n (rfl) ((by decide)) c_6
        refine lv_iload hx hb dX1_replace_30 (lv_at hl 1 rfl) ?_
        refine lv_if_lt (tgt := 56) hx hb dX1_replace_32 (by decide) (fun c_7 => ?_) (fun c_7 => ?_)
        · skip
          have c_7' : r_2.toInt < 0 := jb_lt (rfl) ((by decide)) c_7
          first | (have hr_2q := hr_2.resolve_left (by omega); clear hr_2) | (have hr_2q := hr_2.resolve_right (by omega); clear hr_2) | skip
          refine lv_iconst (v := 0) hx hb dX1_replace_56 (by decide) ?_
          rw [hQ]
          exact W.zret (v := 0) hx hb hr (jb_nz (Or.inl rfl)) (fun t ht hW => ⟨⟨0, pl, rfl, ⟨(Or.inl rfl), by (try dsimp only); first | omega | (refine ⟨?_, ?_, ?_⟩ <;> (first | omega | rfl | assumption | decide | exact Or.inl rfl | exact Or.inr rfl | (simp only; omega)))⟩, hh_1.rt (M1 := [(r0, 3, 3, .int pl)]) [0] rfl ht⟩, by rw [ht]; try exact hh_1.1.1, fun q h9 hq => by rw [ht]; try exact hh_1.1.2.1 q h9 hq⟩) hh_1.1.2.2 dX1_replace_57
        · skip
          have c_7' : r_2.toInt ≥ 0 := jb_lt_n (rfl) ((by decide)) c_7
          first | (have hr_2q := hr_2.resolve_left (by omega); clear hr_2) | (have hr_2q := hr_2.resolve_right (by omega); clear hr_2) | skip
          refine lv_iload hx hb dX1_replace_35 (lv_at hl 1 rfl) ?_
          refine lv_sipush (v := 1500) hx hb dX1_replace_37 (by decide) ?_
          refine lv_icmp_gt (tgt := 56) hx hb dX1_replace_40 (by decide) (fun c_8 => ?_) (fun c_8 => ?_)
          · skip
            have c_8' : r_2.toInt > 1500 := jb_gt (rfl) ((by decide)) c_8
            first | (have hr_2q := hr_2.resolve_left (by omega); clear hr_2) | (have hr_2q := hr_2.resolve_right (by omega); clear hr_2) | skip
            refine lv_iconst (v := 0) hx hb dX1_replace_56 (by decide) ?_
            rw [hQ]
            exact W.zret (v := 0) hx hb hr (jb_nz (Or.inl rfl)) (fun t ht hW => ⟨⟨0, pl, rfl, ⟨(Or.inl rfl), by (try dsimp only); first | omega | (refine ⟨?_, ?_, ?_⟩ <;> (first | omega | rfl | assumption | decide | exact Or.inl rfl | exact Or.inr rfl | (simp only; omega)))⟩, hh_1.rt (M1 := [(r0, 3, 3, .int pl)]) [0] rfl ht⟩, by rw [ht]; try exact hh_1.1.1, fun q h9 hq => by rw [ht]; try exact hh_1.1.2.1 q h9 hq⟩) hh_1.1.2.2 dX1_replace_57
          · skip
            have c_8' : r_2.toInt ≤ 1500 := jb_gt_n (rfl) ((by decide)) c_8
            first | (have hr_2q := hr_2.resolve_left (by omega); clear hr_2) | (have hr_2q := hr_2.resolve_right (by omega); clear hr_2) | skip
            refine lv_iload_n hx hb dX1_replace_43 rfl (lv_at hl 3 rfl) ?_
            refine lv_iload hx hb dX1_replace_44 (lv_at hl 1 rfl) ?_
            refine lv_iadd hx hb dX1_replace_46 ?_
            refine lv_topi (fun z_9 ez_9 => ?_)
            have hz_9 : z_9.toInt = a1.toInt + r_2.toInt := by rw [ez_9]; exact jb_iadd2 (rfl) (rfl) (by omega)
            refine lv_iload hx hb dX1_replace_47 (lv_at hl 0 rfl) ?_
            refine lv_iadd hx hb dX1_replace_49 ?_
            refine lv_topi (fun z_10 ez_10 => ?_)
            have hz_10 : z_10.toInt = z_9.toInt + z_3.toInt := by rw [ez_10]; exact jb_iadd2 (rfl) (rfl) (by omega)
            refine lv_sipush (v := 1500) hx hb dX1_replace_50 (by decide) ?_
            refine lv_icmp_le (tgt := 58) hx hb dX1_replace_53 (by decide) (fun c_11 => ?_) (fun c_11 => ?_)
            · skip
              have c_11' : z_10.toInt ≤ 1500 := jb_le (rfl) ((by decide)) c_11
              refine lv_aload_n hx hb dX1_replace_58 rfl (lv_at hl 2 rfl) ?_
              obtain ⟨v_12, hv_12, hh_13⟩ := hh_1.pin (C := RX1) (T := TX1) (N := 17) hB3 rfl (by decide) hg_r0 (i := 2) (by decide) rfl
              clear hh_1
              obtain ⟨text_14, rfl, hg_text_14⟩ := hv_12
              refine j7_read hx hb hown hK (C := RX1) (T := TX1) (N := 17) rfl hly_3_2 hlk_15 (hh_13.at 0 rfl) dX1_replace_59 ?_
              refine lv_iload_n hx hb dX1_replace_62 rfl (lv_at hl 4 rfl) ?_
              refine lv_aload_n hx hb dX1_replace_63 rfl (lv_at hl 2 rfl) ?_
              refine j7_read hx hb hown hK (C := RX1) (T := TX1) (N := 17) rfl hly_3_2 hlk_15 (hh_13.at 0 rfl) dX1_replace_64 ?_
              refine lv_iload_n hx hb dX1_replace_67 rfl (lv_at hl 3 rfl) ?_
              refine lv_iload hx hb dX1_replace_68 (lv_at hl 1 rfl) ?_
              refine lv_iadd hx hb dX1_replace_70 ?_
              refine lv_topi (fun z_15 ez_15 => ?_)
              have hz_15 : z_15.toInt = a1.toInt + r_2.toInt := by rw [ez_15]; exact jb_iadd2 (rfl) (rfl) (by omega)
              refine lv_iload hx hb dX1_replace_71 (lv_at hl 0 rfl) ?_
              refine j7_acopyi hx hb (by rw [hml]; exact hl.1.symm) hown (htw (.methodLink RX1 36 arraycopyName) (jWr_35 _ (List.mem_of_getElem? (i := 23) rfl))) (htw (.native arraycopyName) (jWr_16 _ (List.mem_of_getElem? (i := 19) rfl))) (htw (.static arraycopyName) (jWr_16 _ (List.mem_of_getElem? (i := 20) rfl))) (htw (.initialized "java/lang/System") (jWr_16 _ (List.mem_of_getElem? (i := 21) rfl))) hK hh_13 hB hB101 hB101 1 rfl (by decide) (by decide) (by decide) rfl rfl rfl hg_text_14 hg_text_14 (x := a2.toInt) (y := z_15.toInt) (z := z_3.toInt) rfl rfl rfl (by omega) (fun _ _ _ => trivial) (by rw [← hR]; exact Nat.le_of_ble_eq_true rfl) (by rw [← hR]; exact Nat.le_of_ble_eq_true rfl) dX1_replace_73 (fun H_16 locs_16 hr_16 hh_16 => ?_)
              clear hr_16
              clear hh_13
              refine lv_iconst (v := 0) hx hb dX1_replace_76 (by decide) ?_
              refine lv_istore (lv' := [(7, .int 0), (6, .int z_3), (5, .int r_2), (0, .ref r0), (1, .int a1), (2, .int a2), (3, .ref r3), (4, .int a4)]) hx hb dX1_replace_77 hl (by decide) rfl (fun ls hl => ?_)
              have L79 : ∀ (N : Nat) (v7_17 : Int32) (H_17 : Heap) (locs_17 : List Loc), jSt (dC, dI) B base G0 G0 EX1_replaceQ s.heap 0 0 [(r0, 3, 2, .ref text_14), (r0, 3, 3, .int pl), (r3, 6, 7, .int pv), (r3, 6, 0, .ref wk), (r3, 6, 1, .ref wi), (r3, 6, 2, .ref wz)] [(wk, 140, 1502, ca 1, fk), (wi, 141, 1502, ca 1, fi), (wz, 142, 1502, ca 1, fz)] [] H_17 locs_17 → (0 ≤ v7_17.toInt ∧ v7_17.toInt ≤ r_2.toInt) → (r_2.toInt - v7_17.toInt : Int) < N → ∀ ls : Array Slot, lv_has ls 8 [(0, .ref r0), (1, .int a1), (2, .int a2), (3, .ref r3), (4, .int a4), (5, .int r_2), (6, .int z_3), (7, .int v7_17)] → W p l e R s m ([.ref r0, .int a1, .int a2, .ref r3, .int a4] : List Value).toArray below meth c H_17 locs_17 0 0 Q (F0 m 79 ls []) := by
                intro N
                induction N with
                | zero => intro v7_17 H_17 locs_17 hh_17  hi_17 hm; exact absurd hm (by omega)
                | succ N L79 =>
                  intro v7_17 H_17 locs_17 hh_17  hi_17 hm_17 ls hl
                  obtain ⟨hi_17_0, hi_17_1⟩ := hi_17
                  try clear hr_2
                  refine lv_iload hx hb dX1_replace_79 (lv_at hl 7 rfl) ?_
                  refine lv_iload hx hb dX1_replace_81 (lv_at hl 5 rfl) ?_
                  refine lv_icmp_ge (tgt := 109) hx hb dX1_replace_83 (by decide) (fun c_18 => ?_) (fun c_18 => ?_)
                  · skip
                    have c_18' : v7_17.toInt ≥ r_2.toInt := jb_ge (rfl) (rfl) c_18
                    refine lv_aload_n hx hb dX1_replace_109 rfl (lv_at hl 0 rfl) ?_
                    refine lv_iload_n hx hb dX1_replace_110 rfl (lv_at hl 1 rfl) ?_
                    refine lv_iload hx hb dX1_replace_111 (lv_at hl 5 rfl) ?_
                    refine lv_iadd hx hb dX1_replace_113 ?_
                    refine lv_topi (fun z_19 ez_19 => ?_)
                    have hz_19 : z_19.toInt = a1.toInt + r_2.toInt := by rw [ez_19]; exact jb_iadd2 (rfl) (rfl) (by omega)
                    refine lv_iload hx hb dX1_replace_114 (lv_at hl 6 rfl) ?_
                    refine lv_iadd hx hb dX1_replace_116 ?_
                    refine lv_topi (fun z_20 ez_20 => ?_)
                    have hz_20 : z_20.toInt = z_19.toInt + z_3.toInt := by rw [ez_20]; exact jb_iadd2 (rfl) (rfl) (by omega)
                    refine j7_put hx hb hown hK hh_17 hB hAp hB3 (C := RX1) (T := TX1) (N := 17) rfl (by decide) hg_r0 (i := 3) (by decide) hly_3_3 rfl hlk_42 rfl (ty := .int) (v := .int z_20) (by decide +kernel) rfl rfl (⟨_, rfl, by omega, by omega⟩) rfl (L1 := [(r0, 3, 2, .ref text_14), (r3, 6, 7, .int pv), (r3, 6, 0, .ref wk), (r3, 6, 1, .ref wi), (r3, 6, 2, .ref wz)]) [0, 2, 3, 4, 5] rfl rfl rfl dX1_replace_117 (fun H_21 locs_21 hh_21 => ?_)
                    clear hh_17
                    refine lv_iconst (v := 1) hx hb dX1_replace_120 (by decide) ?_
                    rw [hQ]
                    exact W.zret (v := 1) hx hb hr (jb_nz (Or.inr rfl)) (fun t ht hW => ⟨⟨1, z_20, rfl, ⟨(Or.inr rfl), by (try dsimp only); first | omega | (refine ⟨?_, ?_, ?_⟩ <;> (first | omega | rfl | assumption | decide | exact Or.inl rfl | exact Or.inr rfl | (simp only; omega)))⟩, hh_21.rt (M1 := [(r0, 3, 3, .int z_20)]) [0] rfl ht⟩, by rw [ht]; try exact hh_21.1.1, fun q h9 hq => by rw [ht]; try exact hh_21.1.2.1 q h9 hq⟩) hh_21.1.2.2 dX1_replace_121
                  · skip
                    have c_18' : v7_17.toInt < r_2.toInt := jb_ge_n (rfl) (rfl) c_18
                    refine lv_aload_n hx hb dX1_replace_86 rfl (lv_at hl 0 rfl) ?_
                    refine j7_read hx hb hown hK (C := RX1) (T := TX1) (N := 17) rfl hly_3_2 hlk_15 (hh_17.at 0 rfl) dX1_replace_87 ?_
                    refine lv_iload_n hx hb dX1_replace_90 rfl (lv_at hl 1 rfl) ?_
                    refine lv_iload hx hb dX1_replace_91 (lv_at hl 7 rfl) ?_
                    refine lv_iadd hx hb dX1_replace_93 ?_
                    refine lv_topi (fun z_22 ez_22 => ?_)
                    have hz_22 : z_22.toInt = a1.toInt + v7_17.toInt := by rw [ez_22]; exact jb_iadd2 (rfl) (rfl) (by omega)
                    refine lv_aload_n hx hb dX1_replace_94 rfl (lv_at hl 3 rfl) ?_
                    refine lv_iload hx hb dX1_replace_95 (lv_at hl 4 rfl) ?_
                    refine lv_iload hx hb dX1_replace_97 (lv_at hl 7 rfl) ?_
                    refine va_calli (A0 := jA base) (H0 := s.heap) (va_runV (As := [.int a4, .int v7_17]) (rest := [.int z_22, .ref text_14]) ⟨hx, hb, hml, hown, hts⟩ (uX4_unitAt l dC dI ca base B hB hAp hB6 hB140 hB141 hB142 hB146 G0 H_17 r3 a4 v7_17) (cwV 2 hts (jgV (jWr_36 _ (List.mem_of_getElem? (i := 1) rfl)) (jWr_25 _ (List.mem_of_getElem? (i := 5) rfl)) (jWr_25 _ (List.mem_of_getElem? (i := 6) rfl)) (jWr_1 _ (List.mem_of_getElem? (i := 22) rfl)) (jWr_25 _ (List.mem_of_getElem? (i := 7) rfl))) rfl rfl rfl (by decide +kernel) ⟨by rw [← hR]; exact Nat.le_of_ble_eq_true rfl, by rw [← hR]; exact Nat.le_of_ble_eq_true rfl⟩) ⟨fun a U g mk q => by obtain ⟨q0, q1, q2, qK, q10, q11, q12⟩ := q; exact ⟨q0, q1, q2, jG.calling g mk a qK, q10, q11, q12⟩, hh_17.recv (C := RX4) (T := TX4) (N := 12) hB6 rfl (by decide) hg_r3 hK, fun U hU hW => ⟨rfl, hU, hh_17.2.1, hG.step hW hU hh_17.1, hg_r3, jP.nil, trivial⟩⟩ rfl rfl hl.1 rfl (lv_room (Nat.le_of_ble_eq_true rfl)) dX1_replace_99 ⟨Nat.zero_le _, Nat.zero_le _⟩) hh_17.1 (fun q _ h => h) (fun q h => h) (fun r_24 u_23 t_23 H_23 locs_23 ht_23 hvm_23 hr_24 hb_23 hz_23 hk_23 hS_23 => ?_)
                    rw [ht_23] at hb_23
                    obtain ⟨hb_231, hb_232, hb_233, hb_234, hb_235⟩ := hb_23
                    have hh_23 : jSt (dC, dI) B base G0 G0 EX1_replaceQ s.heap 0 0 [(r0, 3, 2, .ref text_14), (r0, 3, 3, .int pl), (r3, 6, 7, .int pv), (r3, 6, 0, .ref wk), (r3, 6, 1, .ref wi), (r3, 6, 2, .ref wz)] [(wk, 140, 1502, ca 1, fk), (wi, 141, 1502, ca 1, fi), (wz, 142, 1502, ca 1, fz)] [] H_23 locs_23 := ((hh_17.call hb_231 hb_232 hb_233 hb_234 hS_23 rfl (L1 := [(r0, 3, 2, .ref text_14), (r0, 3, 3, .int pl), (r3, 6, 7, .int pv), (r3, 6, 0, .ref wk), (r3, 6, 1, .ref wi), (r3, 6, 2, .ref wz)]) [0, 1, 2, 3, 4, 5] rfl rfl (M1 := [(wk, 140, 1502, ca 1, fk), (wi, 141, 1502, ca 1, fi), (wz, 142, 1502, ca 1, fz)]) [0, 1, 2] rfl rfl (I1 := []) [] rfl rfl).more hb_235)
                    clear hh_17 ht_23 hvm_23 hz_23 hk_23 hS_23 hb_231 hb_232 hb_233 hb_234 hb_235
                    refine j7_iast hx hb hK hh_23 hB hB101 1 rfl (by decide) (by decide) rfl rfl rfl hg_text_14 (x := z_22.toInt) (rfl) (by omega) (trivial) dX1_replace_102 (fun H_25 locs_25 hh_25 => ?_)
                    clear hh_23
                    obtain ⟨z_26, ez_26⟩ : ∃ y : Int32, y = v7_17 + 1 := ⟨_, rfl⟩
                    refine lv_iinc (v := z_26) (lv' := [(7, .int z_26), (0, .ref r0), (1, .int a1), (2, .int a2), (3, .ref r3), (4, .int a4), (5, .int r_2), (6, .int z_3)]) hx hb dX1_replace_103 hl (k := 7) rfl (by rw [ez_26]; rfl) (by decide) rfl (fun ls hl => ?_)
                    have hz_26 : z_26.toInt = v7_17.toInt + 1 := by rw [ez_26]; exact jb_iadd2 (rfl) (by decide) (by omega)
                    refine lv_goto (tgt := 79) hx hb dX1_replace_106 (by decide) ?_
                    exact L79 z_26 _ _ hh_25 (by first | omega | (refine ⟨?_, ?_⟩ <;> (first | omega | rfl | assumption | decide | exact Or.inl rfl | exact Or.inr rfl | (simp only; omega)))) (by omega) _ (lv_sub hl [1, 2, 3, 4, 5, 6, 7, 0] rfl)
              exact L79 (r_2.toInt - (0 : Int32).toInt : Int).toNat.succ 0 _ _ hh_16 (by first | omega | (refine ⟨?_, ?_⟩ <;> (first | omega | rfl | assumption | decide | exact Or.inl rfl | exact Or.inr rfl | (simp only; omega)))) (by omega) _ (lv_sub hl [3, 4, 5, 6, 7, 2, 1, 0] rfl)
            · skip
              have c_11' : z_10.toInt > 1500 := jb_le_n (rfl) ((by decide)) c_11
              refine lv_iconst (v := 0) hx hb dX1_replace_56 (by decide) ?_
              rw [hQ]
              exact W.zret (v := 0) hx hb hr (jb_nz (Or.inl rfl)) (fun t ht hW => ⟨⟨0, pl, rfl, ⟨(Or.inl rfl), by (try dsimp only); first | omega | (refine ⟨?_, ?_, ?_⟩ <;> (first | omega | rfl | assumption | decide | exact Or.inl rfl | exact Or.inr rfl | (simp only; omega)))⟩, hh_1.rt (M1 := [(r0, 3, 3, .int pl)]) [0] rfl ht⟩, by rw [ht]; try exact hh_1.1.1, fun q h9 hq => by rw [ht]; try exact hh_1.1.2.1 q h9 hq⟩) hh_1.1.2.2 dX1_replace_57
end
