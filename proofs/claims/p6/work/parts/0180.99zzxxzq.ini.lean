section
def EX9_initW : List (Nat × Nat) := []
def EX5_initW : List (Nat × Nat) := [(8, 3), (101, 0), (102, 0), (132, 0), (133, 0)]
set_option maxHeartbeats 4000000 in
set_option maxRecDepth 20000 in
theorem uX9_initW (l : Launch) (dC : Nat → ClassId) (dI : Nat → Nat → Nat) (ca : Nat → ClassId) (base : Nat) (B : jF) (hB : jBok B) (hAp : jAp (dC, dI)) (hB5 : ∀ n G a H, B 5 n G a H ↔ jOb (dC, dI) 5 4 (F5 n G) a H) (hB11 : ∀ n G a H, B 11 n G a H ↔ jOb (dC, dI) 11 9 (F11 n G) a H) (hB101 : ∀ n G a H, B 101 n G a H ↔ jAr (dC, dI) (ca 1) (fun j z => True) n a H) (hB175 : ∀ n G a H, B 175 n G a H ↔ jAr (dC, dI) (ca 1) (fun j z => True) n a H) (hB214 : ∀ n G a H, B 214 n G a H ↔ jAq (dC, dI) (ca 7) (jQg) n G a H) (hB280 : ∀ n G a H, B 280 n G a H ↔ jAr (dC, dI) (ca 1) (fun j z => -1 ≤ z.toInt) n a H) (hB313 : ∀ n G a H, B 313 n G a H ↔ jAq (dC, dI) (ca 8) (jQk 280 80) n G a H) (G0 : jT) (H0 : Heap) (r0 : Nat) (us : Nat → List Int) (rw : Nat → List Int) (LC LS : Nat) : Met l yX9_init (jw yX9_init cX9_init 1 none) ({ frames := 1, cells := LC - H0.size, slots := LS - jTot H0, locals := 31 }) (va_Pc [.ref r0] (fun U => U.heap = H0 ∧ jX B base G0 [] H0 ∧ jG dC dI ca base U ∧ jK2 dC dI ca U ∧ jK5 dC dI ca U ∧ jK6 U ∧ va_at (dC, dI) vwCl (r0, .inr (11, [.null, .null, .int 0, .null, .null, .null, .int 0, .null, .null])) H0 ∧ (∀ t, G0 r0 ≠ some t) ∧ base ≤ r0 ∧ jP (dC, dI) G0 H0 [] ∧ jIs (dC, dI) G0 H0 [(jFs11, jSef dC dI G0), (jFun, jUN dC dI ca G0 0 us rw)] ∧ H0.size + 6 ≤ LC ∧ jTot H0 + 0 ≤ LS ∧ True)) (va_Qv (S := (Nat → List Int) × (Nat → List Int) × jT) (fun u => u.2.1 = jUf rw r0 []) (fun u t => jRa (dC, dI) B base G0 u.2.2 EX9_initW H0 (6) (0) [] t.heap ∧ (jNk [0, 1, 2, 3, 4, 5, 6, 7, 8, 9, 10, 12, 13, 14, 15, 16, 17]) G0 u.2.2 ∧ u.2.2 r0 = some (11, 0) ∧ jKx r0 G0 u.2.2 H0 t.heap ∧ jIs (dC, dI) u.2.2 t.heap [(jFs11, jSef dC dI u.2.2), (jFun, jUN dC dI ca u.2.2 0 (u.1) (u.2.1))]) (jA base)) (LC - H0.size) (LS - jTot H0) (jA base) := by
  refine Met.ofW (cc := cX9_init) (maxL := 1) (ret := none) (by decide) rfl ?_
  intro p e s m args below meth c s₁ Bd hml hv
  obtain ⟨rfl, hH0, hX, hG, hK2, hK5, hK6, hraw0, hnr0, hbr0, hP0, hI0, hLC0, hLS0, hp0⟩ := hv
  have hK := hG.1
  have hx := Bd.exec
  have hb := Bd.bytes
  have hr := Bd.returns
  have hts := atoms_spec (ws := (jw yX9_init cX9_init 1 none)) Bd.pre
  have htw : ∀ w ∈ jWl, w.before _ s = true := fun w h => hts w (List.mem_cons_of_mem _ h)
  have hown : s.vm.findClass RX9 = some m.cls := findClass_of_methodNamed Bd.named
  have hlocks := Bd.notSynchronized
  obtain ⟨Q, hQ⟩ : ∃ Q, Q = MQ below (va_Qv (S := (Nat → List Int) × (Nat → List Int) × jT) (fun u => u.2.1 = jUf rw r0 []) (fun u t => jRa (dC, dI) B base G0 u.2.2 EX9_initW H0 (6) (0) [] t.heap ∧ (jNk [0, 1, 2, 3, 4, 5, 6, 7, 8, 9, 10, 12, 13, 14, 15, 16, 17]) G0 u.2.2 ∧ u.2.2 r0 = some (11, 0) ∧ jKx r0 G0 u.2.2 H0 t.heap ∧ jIs (dC, dI) u.2.2 t.heap [(jFs11, jSef dC dI u.2.2), (jFun, jUN dC dI ca u.2.2 0 (u.1) (u.2.1))]) (jA base)) ([.ref r0] : List Value).toArray s (LC - H0.size) (LS - jTot H0) (jA base) := ⟨_, rfl⟩
  rw [← hQ]
  have hl := lv_entry ([.ref r0]) (n := 1) (Nat.le_of_ble_eq_true rfl)
  rw [lg_entry_eq]
  generalize (lg_sl ([.ref r0]) ++ List.replicate (1 - (lg_sl ([.ref r0])).length) Slot.unset).toArray = ls at hl ⊢
  have hl : lv_has ls 1 [(0, .ref r0)] := hl
  generalize hR : (headSpec (jw yX9_init cX9_init 1 none) ({ frames := 1, cells := LC - H0.size, slots := LS - jTot H0, locals := 31 })).room = R
  subst hH0
  have hh : jSt (dC, dI) B base G0 G0 EX9_initW s.heap 0 0 [] [] [(jFs11, jSef dC dI G0), (jFun, jUN dC dI ca G0 0 us rw)] s.heap [] := jSt.start hX hP0 jMc.nil hI0
  clear hX hP0
  have hkm1 : ((-1) : Int32).toInt = (-1) := by decide
  have hk0 : (0 : Int32).toInt = 0 := by decide
  have hk1 : (1 : Int32).toInt = 1 := by decide
  have hly_11_0 := htw (u_lay RX9 TX9 0) (jWc_wsX90 _ (u_in_lay (by decide)))
  have hly_11_1 := htw (u_lay RX9 TX9 1) (jWc_wsX90 _ (u_in_lay (by decide)))
  have hly_11_3 := htw (u_lay RX9 TX9 3) (jWc_wsX90 _ (u_in_lay (by decide)))
  have hly_11_4 := htw (u_lay RX9 TX9 4) (jWc_wsX90 _ (u_in_lay (by decide)))
  have hly_11_5 := htw (u_lay RX9 TX9 5) (jWc_wsX90 _ (u_in_lay (by decide)))
  have hly_11_6 := htw (u_lay RX9 TX9 6) (jWc_wsX90 _ (u_in_lay (by decide)))
  have hly_11_7 := htw (u_lay RX9 TX9 7) (jWc_wsX90 _ (u_in_lay (by decide)))
  have hly_11_8 := htw (u_lay RX9 TX9 8) (jWc_wsX90 _ (u_in_lay (by decide)))
  have hlk_9 := (htw (.fieldLink RX9 9 "ProofServer$State" "symbols" "[I") (jWr_8 _ (List.mem_of_getElem? (i := 17) rfl)))
  have hlk_15 := (htw (.fieldLink RX9 15 "ProofServer$State" "factNames" "[I") (jWr_8 _ (List.mem_of_getElem? (i := 18) rfl)))
  have hlk_19 := (htw (.fieldLink RX9 19 "ProofServer$State" "facts" "[[I") (jWr_8 _ (List.mem_of_getElem? (i := 20) rfl)))
  have hlk_23 := (htw (.fieldLink RX9 23 "ProofServer$State" "lemma" "I") (jWr_8 _ (List.mem_of_getElem? (i := 21) rfl)))
  have hlk_27 := (htw (.fieldLink RX9 27 "ProofServer$State" "statement" "[I") (jWr_8 _ (List.mem_of_getElem? (i := 22) rfl)))
  have hlk_32 := (htw (.fieldLink RX9 32 "ProofServer$State" "goals" "[LProofServer$Goal;") (jWr_9 _ (List.mem_of_getElem? (i := 0) rfl)))
  have hlk_36 := (htw (.fieldLink RX9 36 "ProofServer$State" "ahead" "LProofServer$State;") (jWr_9 _ (List.mem_of_getElem? (i := 1) rfl)))
  have hlk_40 := (htw (.fieldLink RX9 40 "ProofServer$State" "units" "[I") (jWr_9 _ (List.mem_of_getElem? (i := 2) rfl)))
  have hbs : base ≤ s.heap.size := Nat.le_of_lt (Nat.lt_of_le_of_lt hbr0 hraw0.lt)
  have hRc : R.cells = LC - s.heap.size := by rw [← hR]; rfl
  have hRs : R.slots = LS - jTot s.heap := by rw [← hR]; rfl
  have hin2 : meth.name = "<init>" := (name_of_methodNamed Bd.named Bd.method).1
  have hkp : jKx r0 G0 G0 s.heap s.heap := jKx.rf
  refine lv_aload_n hx hb dX9_init_0 rfl (lv_at hl 0 rfl) ?_
  refine W.objInit hx hb hown (htw (.methodLink RX9 3 objectInit) (jWr_8 _ (List.mem_of_getElem? (i := 16) rfl))) (htw (.instanceMethod objectInit) (jWr_1 _ (List.mem_of_getElem? (i := 10) rfl))) (htw (.code objectInit ⟨#[0xb1]⟩ 1 none) (jWr_1 _ (List.mem_of_getElem? (i := 11) rfl))) rfl (by rw [hml]; exact hl.1) rfl dX9_init_1 (by rw [← hR]; exact Nat.le_of_ble_eq_true rfl) (by rw [← hR]; exact Nat.le_of_ble_eq_true rfl) ?_
  refine W.eq (g2 := F0 m 4 ls []) rfl ?_
  refine lv_aload_n hx hb dX9_init_4 rfl (lv_at hl 0 rfl) ?_
  refine lv_iconst (v := 0) hx hb dX9_init_5 (by decide) ?_
  have hsz_1 := hh.2.2.2.2.2.1
  have htt_1 := hh.2.2.2.2.2.2.1
  refine j7_newiK hx hb hK hh hB (atype := .int) (ty := .int) (htw (.arrayClass .int) (jWr_3 _ (List.mem_of_getElem? (i := 20) rfl))) rfl rfl (fun _ h => h) hB101 1 rfl (by decide) (by decide) hbs (x := 0) (by decide) (by omega) (fun j => by first | trivial | decide | rfl | exact Or.inl rfl | exact Or.inr (Or.inl (by decide)) | (refine ⟨?_, ?_⟩ <;> decide)) (by rw [hRc]; omega) (by rw [hRs]; omega) dX9_init_6 (fun H_1 hfr_1 hh_1 => ?_)
  have hh_1 : jSt (dC, dI) B base G0 (va_up G0 s.heap.size (some (101, 0))) EX9_initW s.heap (0 + 1) (0 + 0) [] [] [(jFs11, jSef dC dI G0), (jFun, jUN dC dI ca G0 0 us rw)] H_1 [] := hh_1
  have hM_1 : jNk [11] G0 (va_up G0 s.heap.size (some (101, 0))) := jNk.new (by decide)
  have hW_1 : jNk [0, 1, 2, 3, 4, 5, 6, 7, 8, 9, 10, 11, 12, 13, 14, 15, 16, 17, 175] G0 (va_up G0 s.heap.size (some (101, 0))) := jNk.new (by decide)
  have hN_1 : (jNk [0, 1, 2, 3, 4, 5, 6, 7, 8, 9, 10, 12, 13, 14, 15, 16, 17]) G0 (va_up G0 s.heap.size (some (101, 0))) := jNk.new (by decide)
  have hgn_1 : (va_up G0 s.heap.size (some (101, 0))) s.heap.size = some (101, 0) := jUp_self
  have hle_1 : jLe G0 (va_up G0 s.heap.size (some (101, 0))) := jLe.new hh.2.1.fresh
  have hke_1 : jKe G0 (va_up G0 s.heap.size (some (101, 0))) s.heap H_1 := jKe.new hfr_1
  have hsy_1 : s.heap.size ≤ s.heap.size := hh.1.1
  generalize (va_up G0 s.heap.size (some (101, 0))) = G_1 at hN_1 hgn_1 hle_1 hke_1 hh_1 hM_1 hW_1
  clear hh
  have hNn_1 : (jNk [0, 1, 2, 3, 4, 5, 6, 7, 8, 9, 10, 12, 13, 14, 15, 16, 17]) G0 G_1 := (jNk.rf).tr hN_1
  have hkp_2 := hkp.tr hke_1
  have hraw_3n := hke_1.nr hraw0.lt hnr0
  have hraw_3 := hraw0.kept (hke_1.1 _ hraw0.lt)
  have hd_4 := jSef.grow (hh_1.iv 0 rfl) hle_1 hM_1 (by decide)
  have hh_5 := hh_1.sub (L1 := []) [] rfl (M1 := []) [] rfl (I1 := [(jFun, jUN dC dI ca G0 0 us rw)]) [1] rfl
  clear hh_1
  have hh_6 := hh_5.addI (jSef.ie hd_4)
  clear hh_5
  have hd_7 := jUN.grow (r := 0) (hh_6.iv 1 rfl) hle_1 hW_1 (by decide) (by decide)
  have hh_8 := hh_6.sub (L1 := []) [] rfl (M1 := []) [] rfl (I1 := [(jFs11, jSef dC dI G_1)]) [0] rfl
  clear hh_6
  have hh_9 := hh_8.addI (jUN.ie hd_7)
  clear hh_8
  refine j7_putR hx hb hown hK hh_9 hB hAp hraw_3 hraw_3n hbr0 (C := RX9) (T := TX9) (N := 9) rfl (i := 3) (by decide) (Nat.le_of_ble_eq_true rfl) hly_11_3 rfl hlk_9 (ty := (.array .int)) (v := .ref s.heap.size) (by decide +kernel) rfl rfl dX9_init_8 (fun H_10 locs_10 hraw_10 hr_10 hh_10 => ?_)
  have hraw_10 : va_at (dC, dI) vwCl (r0, .inr (11, [.null, .null, .int 0, .ref s.heap.size, .null, .null, .int 0, .null, .null])) H_10 := hraw_10
  have hkp_11 := hkp_2.put hr_10
  clear hh_9
  refine lv_aload_n hx hb dX9_init_11 rfl (lv_at hl 0 rfl) ?_
  refine lv_iconst (v := 0) hx hb dX9_init_12 (by decide) ?_
  have hsz_12 := hh_10.2.2.2.2.2.1
  have htt_12 := hh_10.2.2.2.2.2.2.1
  refine j7_newiK hx hb hK hh_10 hB (atype := .int) (ty := .int) (htw (.arrayClass .int) (jWr_3 _ (List.mem_of_getElem? (i := 20) rfl))) rfl rfl (fun _ h => h) hB101 1 rfl (by decide) (by decide) hbs (x := 0) (by decide) (by omega) (fun j => by first | trivial | decide | rfl | exact Or.inl rfl | exact Or.inr (Or.inl (by decide)) | (refine ⟨?_, ?_⟩ <;> decide)) (by rw [hRc]; omega) (by rw [hRs]; omega) dX9_init_13 (fun H_12 hfr_12 hh_12 => ?_)
  have hh_12 : jSt (dC, dI) B base G0 (va_up G_1 H_10.size (some (101, 0))) EX9_initW s.heap ((0 + 1) + 1) ((0 + 0) + 0) [] [] [(jFun, jUN dC dI ca G_1 0 us rw), (jFs11, jSef dC dI G_1)] H_12 locs_10 := hh_12
  have hM_12 : jNk [11] G_1 (va_up G_1 H_10.size (some (101, 0))) := jNk.new (by decide)
  have hW_12 : jNk [0, 1, 2, 3, 4, 5, 6, 7, 8, 9, 10, 11, 12, 13, 14, 15, 16, 17, 175] G_1 (va_up G_1 H_10.size (some (101, 0))) := jNk.new (by decide)
  have hN_12 : (jNk [0, 1, 2, 3, 4, 5, 6, 7, 8, 9, 10, 12, 13, 14, 15, 16, 17]) G_1 (va_up G_1 H_10.size (some (101, 0))) := jNk.new (by decide)
  have hgn_12 : (va_up G_1 H_10.size (some (101, 0))) H_10.size = some (101, 0) := jUp_self
  have hle_12 : jLe G_1 (va_up G_1 H_10.size (some (101, 0))) := jLe.new hh_10.2.1.fresh
  have hke_12 : jKe G_1 (va_up G_1 H_10.size (some (101, 0))) H_10 H_12 := jKe.new hfr_12
  have hsy_12 : s.heap.size ≤ H_10.size := hh_10.1.1
  generalize (va_up G_1 H_10.size (some (101, 0))) = G_12 at hN_12 hgn_12 hle_12 hke_12 hh_12 hM_12 hW_12
  clear hh_10
  have hNn_12 : (jNk [0, 1, 2, 3, 4, 5, 6, 7, 8, 9, 10, 12, 13, 14, 15, 16, 17]) G0 G_12 := (hNn_1).tr hN_12
  have hkp_13 := hkp_11.tr hke_12
  have hraw_14n := hke_12.nr hraw_10.lt hraw_3n
  have hraw_14 := hraw_10.kept (hke_12.1 _ hraw_10.lt)
  have hd_15 := jUN.grow (r := 0) (hh_12.iv 0 rfl) hle_12 hW_12 (by decide) (by decide)
  have hh_16 := hh_12.sub (L1 := []) [] rfl (M1 := []) [] rfl (I1 := [(jFs11, jSef dC dI G_1)]) [1] rfl
  clear hh_12
  have hh_17 := hh_16.addI (jUN.ie hd_15)
  clear hh_16
  have hd_18 := jSef.grow (hh_17.iv 1 rfl) hle_12 hM_12 (by decide)
  have hh_19 := hh_17.sub (L1 := []) [] rfl (M1 := []) [] rfl (I1 := [(jFun, jUN dC dI ca G_12 0 us rw)]) [0] rfl
  clear hh_17
  have hh_20 := hh_19.addI (jSef.ie hd_18)
  clear hh_19
  refine j7_putR hx hb hown hK hh_20 hB hAp hraw_14 hraw_14n hbr0 (C := RX9) (T := TX9) (N := 9) rfl (i := 4) (by decide) (Nat.le_of_ble_eq_true rfl) hly_11_4 rfl hlk_15 (ty := (.array .int)) (v := .ref H_10.size) (by decide +kernel) rfl rfl dX9_init_15 (fun H_21 locs_21 hraw_21 hr_21 hh_21 => ?_)
  have hraw_21 : va_at (dC, dI) vwCl (r0, .inr (11, [.null, .null, .int 0, .ref s.heap.size, .ref H_10.size, .null, .int 0, .null, .null])) H_21 := hraw_21
  have hkp_22 := hkp_13.put hr_21
  clear hh_20
  refine lv_aload_n hx hb dX9_init_18 rfl (lv_at hl 0 rfl) ?_
  refine lv_iconst (v := 0) hx hb dX9_init_19 (by decide) ?_
  have hsz_23 := hh_21.2.2.2.2.2.1
  have htt_23 := hh_21.2.2.2.2.2.2.1
  have hsy_23 : s.heap.size ≤ H_21.size := hh_21.1.1
  refine j7_newa0 hx hb hown (show (Cond.classLink RX9 18 (FieldType.array .int).toString).before _ s = true from htw (.classLink RX9 18 "[I") (jWr_8 _ (List.mem_of_getElem? (i := 19) rfl))) hK5 hh_21 hB hB313 (by decide) hbs (by decide) (by rw [hRc]; omega) (by rw [hRs]; omega) dX9_init_20 (fun H_23 hfr_23 hh_23 => ?_)
  have hh_23 : jSt (dC, dI) B base G0 (va_up G_12 H_21.size (some (313, 0))) EX9_initW s.heap (((0 + 1) + 1) + 1) (((0 + 0) + 0) + 0) [] [] [(jFs11, jSef dC dI G_12), (jFun, jUN dC dI ca G_12 0 us rw)] H_23 locs_21 := hh_23
  have hM_23 : jNk [11] G_12 (va_up G_12 H_21.size (some (313, 0))) := jNk.new (by decide)
  have hW_23 : jNk [0, 1, 2, 3, 4, 5, 6, 7, 8, 9, 10, 11, 12, 13, 14, 15, 16, 17, 175] G_12 (va_up G_12 H_21.size (some (313, 0))) := jNk.new (by decide)
  have hN_23 : (jNk [0, 1, 2, 3, 4, 5, 6, 7, 8, 9, 10, 12, 13, 14, 15, 16, 17]) G_12 (va_up G_12 H_21.size (some (313, 0))) := jNk.new (by decide)
  have hgn_23 : (va_up G_12 H_21.size (some (313, 0))) H_21.size = some (313, 0) := jUp_self
  have hle_23 : jLe G_12 (va_up G_12 H_21.size (some (313, 0))) := jLe.new hh_21.2.1.fresh
  have hke_23 : jKe G_12 (va_up G_12 H_21.size (some (313, 0))) H_21 H_23 := jKe.new hfr_23
  have hsy_23 : s.heap.size ≤ H_21.size := hh_21.1.1
  generalize (va_up G_12 H_21.size (some (313, 0))) = G_23 at hN_23 hgn_23 hle_23 hke_23 hh_23 hM_23 hW_23
  clear hh_21
  have hNn_23 : (jNk [0, 1, 2, 3, 4, 5, 6, 7, 8, 9, 10, 12, 13, 14, 15, 16, 17]) G0 G_23 := (hNn_12).tr hN_23
  have hkp_24 := hkp_22.tr hke_23
  have hraw_25n := hke_23.nr hraw_21.lt hraw_14n
  have hraw_25 := hraw_21.kept (hke_23.1 _ hraw_21.lt)
  have hd_26 := jSef.grow (hh_23.iv 0 rfl) hle_23 hM_23 (by decide)
  have hh_27 := hh_23.sub (L1 := []) [] rfl (M1 := []) [] rfl (I1 := [(jFun, jUN dC dI ca G_12 0 us rw)]) [1] rfl
  clear hh_23
  have hh_28 := hh_27.addI (jSef.ie hd_26)
  clear hh_27
  have hd_29 := jUN.grow (r := 0) (hh_28.iv 1 rfl) hle_23 hW_23 (by decide) (by decide)
  have hh_30 := hh_28.sub (L1 := []) [] rfl (M1 := []) [] rfl (I1 := [(jFs11, jSef dC dI G_23)]) [0] rfl
  clear hh_28
  have hh_31 := hh_30.addI (jUN.ie hd_29)
  clear hh_30
  refine j7_putR hx hb hown hK hh_31 hB hAp hraw_25 hraw_25n hbr0 (C := RX9) (T := TX9) (N := 9) rfl (i := 5) (by decide) (Nat.le_of_ble_eq_true rfl) hly_11_5 rfl hlk_19 (ty := (.array (.array .int))) (v := .ref H_21.size) (by decide +kernel) rfl rfl dX9_init_23 (fun H_32 locs_32 hraw_32 hr_32 hh_32 => ?_)
  have hraw_32 : va_at (dC, dI) vwCl (r0, .inr (11, [.null, .null, .int 0, .ref s.heap.size, .ref H_10.size, .ref H_21.size, .int 0, .null, .null])) H_32 := hraw_32
  have hkp_33 := hkp_24.put hr_32
  clear hh_31
  refine lv_aload_n hx hb dX9_init_26 rfl (lv_at hl 0 rfl) ?_
  refine lv_iconst (v := (-1)) hx hb dX9_init_27 (by decide) ?_
  refine j7_putR hx hb hown hK hh_32 hB hAp hraw_32 hraw_25n hbr0 (C := RX9) (T := TX9) (N := 9) rfl (i := 6) (by decide) (Nat.le_of_ble_eq_true rfl) hly_11_6 rfl hlk_23 (ty := .int) (v := .int (-1)) (by decide +kernel) rfl rfl dX9_init_28 (fun H_34 locs_34 hraw_34 hr_34 hh_34 => ?_)
  have hraw_34 : va_at (dC, dI) vwCl (r0, .inr (11, [.null, .null, .int 0, .ref s.heap.size, .ref H_10.size, .ref H_21.size, .int (-1), .null, .null])) H_34 := hraw_34
  have hkp_35 := hkp_33.put hr_34
  clear hh_32
  refine lv_aload_n hx hb dX9_init_31 rfl (lv_at hl 0 rfl) ?_
  refine lv_iconst (v := 0) hx hb dX9_init_32 (by decide) ?_
  have hsz_36 := hh_34.2.2.2.2.2.1
  have htt_36 := hh_34.2.2.2.2.2.2.1
  refine j7_newiK hx hb hK hh_34 hB (atype := .int) (ty := .int) (htw (.arrayClass .int) (jWr_3 _ (List.mem_of_getElem? (i := 20) rfl))) rfl rfl (fun _ h => h) hB280 1 rfl (by decide) (by decide) hbs (x := 0) (by decide) (by omega) (fun j => by first | trivial | decide | rfl | exact Or.inl rfl | exact Or.inr (Or.inl (by decide)) | (refine ⟨?_, ?_⟩ <;> decide)) (by rw [hRc]; omega) (by rw [hRs]; omega) dX9_init_33 (fun H_36 hfr_36 hh_36 => ?_)
  have hh_36 : jSt (dC, dI) B base G0 (va_up G_23 H_34.size (some (280, 0))) EX9_initW s.heap ((((0 + 1) + 1) + 1) + 1) ((((0 + 0) + 0) + 0) + 0) [] [] [(jFun, jUN dC dI ca G_23 0 us rw), (jFs11, jSef dC dI G_23)] H_36 locs_34 := hh_36
  have hM_36 : jNk [11] G_23 (va_up G_23 H_34.size (some (280, 0))) := jNk.new (by decide)
  have hW_36 : jNk [0, 1, 2, 3, 4, 5, 6, 7, 8, 9, 10, 11, 12, 13, 14, 15, 16, 17, 175] G_23 (va_up G_23 H_34.size (some (280, 0))) := jNk.new (by decide)
  have hN_36 : (jNk [0, 1, 2, 3, 4, 5, 6, 7, 8, 9, 10, 12, 13, 14, 15, 16, 17]) G_23 (va_up G_23 H_34.size (some (280, 0))) := jNk.new (by decide)
  have hgn_36 : (va_up G_23 H_34.size (some (280, 0))) H_34.size = some (280, 0) := jUp_self
  have hle_36 : jLe G_23 (va_up G_23 H_34.size (some (280, 0))) := jLe.new hh_34.2.1.fresh
  have hke_36 : jKe G_23 (va_up G_23 H_34.size (some (280, 0))) H_34 H_36 := jKe.new hfr_36
  have hsy_36 : s.heap.size ≤ H_34.size := hh_34.1.1
  generalize (va_up G_23 H_34.size (some (280, 0))) = G_36 at hN_36 hgn_36 hle_36 hke_36 hh_36 hM_36 hW_36
  clear hh_34
  have hNn_36 : (jNk [0, 1, 2, 3, 4, 5, 6, 7, 8, 9, 10, 12, 13, 14, 15, 16, 17]) G0 G_36 := (hNn_23).tr hN_36
  have hkp_37 := hkp_35.tr hke_36
  have hraw_38n := hke_36.nr hraw_34.lt hraw_25n
  have hraw_38 := hraw_34.kept (hke_36.1 _ hraw_34.lt)
  have hd_39 := jUN.grow (r := 0) (hh_36.iv 0 rfl) hle_36 hW_36 (by decide) (by decide)
  have hh_40 := hh_36.sub (L1 := []) [] rfl (M1 := []) [] rfl (I1 := [(jFs11, jSef dC dI G_23)]) [1] rfl
  clear hh_36
  have hh_41 := hh_40.addI (jUN.ie hd_39)
  clear hh_40
  have hd_42 := jSef.grow (hh_41.iv 1 rfl) hle_36 hM_36 (by decide)
  have hh_43 := hh_41.sub (L1 := []) [] rfl (M1 := []) [] rfl (I1 := [(jFun, jUN dC dI ca G_36 0 us rw)]) [0] rfl
  clear hh_41
  have hh_44 := hh_43.addI (jSef.ie hd_42)
  clear hh_43
  refine j7_putR hx hb hown hK hh_44 hB hAp hraw_38 hraw_38n hbr0 (C := RX9) (T := TX9) (N := 9) rfl (i := 7) (by decide) (Nat.le_of_ble_eq_true rfl) hly_11_7 rfl hlk_27 (ty := (.array .int)) (v := .ref H_34.size) (by decide +kernel) rfl rfl dX9_init_35 (fun H_45 locs_45 hraw_45 hr_45 hh_45 => ?_)
  have hraw_45 : va_at (dC, dI) vwCl (r0, .inr (11, [.null, .null, .int 0, .ref s.heap.size, .ref H_10.size, .ref H_21.size, .int (-1), .ref H_34.size, .null])) H_45 := hraw_45
  have hkp_46 := hkp_37.put hr_45
  clear hh_44
  refine lv_aload_n hx hb dX9_init_38 rfl (lv_at hl 0 rfl) ?_
  refine lv_iconst (v := 0) hx hb dX9_init_39 (by decide) ?_
  have hsz_47 := hh_45.2.2.2.2.2.1
  have htt_47 := hh_45.2.2.2.2.2.2.1
  have hsy_47 : s.heap.size ≤ H_45.size := hh_45.1.1
  refine j7_newq0 hx hb hown (htw (.classLink RX9 30 RX3) (jWr_8 _ (List.mem_of_getElem? (i := 23) rfl))) hK6.2.2.2 hK2 hh_45 hB hB214 3 rfl (by decide) hbs (by decide) (by rw [hRc]; omega) (by rw [hRs]; omega) dX9_init_40 (fun H_47 hfr_47 hh_47 => ?_)
  have hh_47 : jSt (dC, dI) B base G0 (va_up G_36 H_45.size (some (214, 0))) EX9_initW s.heap (((((0 + 1) + 1) + 1) + 1) + 1) (((((0 + 0) + 0) + 0) + 0) + 0) [] [] [(jFs11, jSef dC dI G_36), (jFun, jUN dC dI ca G_36 0 us rw)] H_47 locs_45 := hh_47
  have hM_47 : jNk [11] G_36 (va_up G_36 H_45.size (some (214, 0))) := jNk.new (by decide)
  have hW_47 : jNk [0, 1, 2, 3, 4, 5, 6, 7, 8, 9, 10, 11, 12, 13, 14, 15, 16, 17, 175] G_36 (va_up G_36 H_45.size (some (214, 0))) := jNk.new (by decide)
  have hN_47 : (jNk [0, 1, 2, 3, 4, 5, 6, 7, 8, 9, 10, 12, 13, 14, 15, 16, 17]) G_36 (va_up G_36 H_45.size (some (214, 0))) := jNk.new (by decide)
  have hgn_47 : (va_up G_36 H_45.size (some (214, 0))) H_45.size = some (214, 0) := jUp_self
  have hle_47 : jLe G_36 (va_up G_36 H_45.size (some (214, 0))) := jLe.new hh_45.2.1.fresh
  have hke_47 : jKe G_36 (va_up G_36 H_45.size (some (214, 0))) H_45 H_47 := jKe.new hfr_47
  have hsy_47 : s.heap.size ≤ H_45.size := hh_45.1.1
  generalize (va_up G_36 H_45.size (some (214, 0))) = G_47 at hN_47 hgn_47 hle_47 hke_47 hh_47 hM_47 hW_47
  clear hh_45
  have hNn_47 : (jNk [0, 1, 2, 3, 4, 5, 6, 7, 8, 9, 10, 12, 13, 14, 15, 16, 17]) G0 G_47 := (hNn_36).tr hN_47
  have hkp_48 := hkp_46.tr hke_47
  have hraw_49n := hke_47.nr hraw_45.lt hraw_38n
  have hraw_49 := hraw_45.kept (hke_47.1 _ hraw_45.lt)
  have hd_50 := jSef.grow (hh_47.iv 0 rfl) hle_47 hM_47 (by decide)
  have hh_51 := hh_47.sub (L1 := []) [] rfl (M1 := []) [] rfl (I1 := [(jFun, jUN dC dI ca G_36 0 us rw)]) [1] rfl
  clear hh_47
  have hh_52 := hh_51.addI (jSef.ie hd_50)
  clear hh_51
  have hd_53 := jUN.grow (r := 0) (hh_52.iv 1 rfl) hle_47 hW_47 (by decide) (by decide)
  have hh_54 := hh_52.sub (L1 := []) [] rfl (M1 := []) [] rfl (I1 := [(jFs11, jSef dC dI G_47)]) [0] rfl
  clear hh_52
  have hh_55 := hh_54.addI (jUN.ie hd_53)
  clear hh_54
  refine j7_putR hx hb hown hK hh_55 hB hAp hraw_49 hraw_49n hbr0 (C := RX9) (T := TX9) (N := 9) rfl (i := 8) (by decide) (Nat.le_of_ble_eq_true rfl) hly_11_8 rfl hlk_32 (ty := (.array (.object "ProofServer$Goal"))) (v := .ref H_45.size) (by decide +kernel) rfl rfl dX9_init_43 (fun H_56 locs_56 hraw_56 hr_56 hh_56 => ?_)
  have hraw_56 : va_at (dC, dI) vwCl (r0, .inr (11, [.null, .null, .int 0, .ref s.heap.size, .ref H_10.size, .ref H_21.size, .int (-1), .ref H_34.size, .ref H_45.size])) H_56 := hraw_56
  have hkp_57 := hkp_48.put hr_56
  clear hh_55
  refine lv_aload_n hx hb dX9_init_46 rfl (lv_at hl 0 rfl) ?_
  refine lv_null hx hb dX9_init_47 ?_
  refine j7_putRF hx hb hown hK hh_56 hB hAp hraw_56 hraw_49n hbr0 (C := RX9) (T := TX9) (N := 9) rfl (i := 0) (by decide) (Nat.le_of_ble_eq_true rfl) hly_11_0 rfl hin2 rfl hlk_36 (ty := (.object "ProofServer$State")) (v := .null) (by decide +kernel) rfl rfl dX9_init_48 (fun H_58 locs_58 hraw_58 hr_58 hh_58 => ?_)
  have hraw_58 : va_at (dC, dI) vwCl (r0, .inr (11, [.null, .null, .int 0, .ref s.heap.size, .ref H_10.size, .ref H_21.size, .int (-1), .ref H_34.size, .ref H_45.size])) H_58 := hraw_58
  have hkp_59 := hkp_57.put hr_58
  clear hh_56
  refine lv_aload_n hx hb dX9_init_51 rfl (lv_at hl 0 rfl) ?_
  refine lv_iconst (v := 0) hx hb dX9_init_52 (by decide) ?_
  have hsz_60 := hh_58.2.2.2.2.2.1
  have htt_60 := hh_58.2.2.2.2.2.2.1
  have hsy_60 : s.heap.size ≤ H_58.size := hh_58.1.1
  refine j7_newiR hx hb hK hh_58 hB (atype := .int) (ty := .int) (htw (.arrayClass .int) (jWr_3 _ (List.mem_of_getElem? (i := 20) rfl))) rfl rfl (fun _ h => h) 1 rfl (by decide) (x := 0) (by decide) (by omega) (by rw [hRc]; omega) (by rw [hRs]; omega) dX9_init_53 (fun H_60 hfr_60 hnr_60 hraw_60 hh_60 => ?_)
  have hlt_61 := hraw_58.lt
  have hraw_60 : va_at (dC, dI) vwCl (H_58.size, .inl (ca 1, 0, .inl (fun _ => 0))) H_60 := hraw_60
  have hh_60 : jSt (dC, dI) B base G0 G_47 EX9_initW s.heap ((((((0 + 1) + 1) + 1) + 1) + 1) + 1) ((((((0 + 0) + 0) + 0) + 0) + 0) + 0) [] [] [(jFun, jUN dC dI ca G_47 0 us rw), (jFs11, jSef dC dI G_47)] H_60 locs_58 := hh_60
  have hke_60 : jKe G_47 G_47 H_58 H_60 := jKe.raw hfr_60
  have hbr_60 : base ≤ H_58.size := Nat.le_trans hbs hsy_60
  clear hh_58
  have hkp_62 := hkp_59.tr hke_60
  have hraw_63n := hke_60.nr hraw_58.lt hraw_49n
  have hraw_63 := hraw_58.kept (hke_60.1 _ hraw_58.lt)
  have hne_64 : r0 ≠ H_58.size := Nat.ne_of_lt hlt_61
  have hnr_65 := jUN.row (r := 0) (hh_60.iv 0 rfl) hnr_60 hraw_60
  have hh_66 := hh_60.sub (L1 := []) [] rfl (M1 := []) [] rfl (I1 := [(jFs11, jSef dC dI G_47)]) [1] rfl
  clear hh_60
  have hle_67 : jLe G_47 (va_up G_47 H_58.size (some (175, 0))) := jLe.typ hnr_60
  have hh_67 := hh_66.typ (k := 175) (n := 0) hB hnr_60 hbr_60 hraw_60.lt (jAr.of hB175 hraw_60 (fun _ _ => trivial))
  have hgn_67 : (va_up G_47 H_58.size (some (175, 0))) H_58.size = some (175, 0) := jUp_self
  have hN_67 : (jNk [0, 1, 2, 3, 4, 5, 6, 7, 8, 9, 10, 12, 13, 14, 15, 16, 17]) G_47 (va_up G_47 H_58.size (some (175, 0))) := jNk.new (by decide)
  have hNn_67 : (jNk [0, 1, 2, 3, 4, 5, 6, 7, 8, 9, 10, 12, 13, 14, 15, 16, 17]) G0 (va_up G_47 H_58.size (some (175, 0))) := (hNn_47).tr hN_67
  have hkp_68 := hkp_62.typn (t := some (175, 0)) hsy_60
  have hM_67 : jNk [0, 1, 2, 3, 4, 5, 6, 7, 8, 9, 10, 11, 12, 13, 14, 15, 16, 17] G_47 (va_up G_47 H_58.size (some (175, 0))) := jNk.new (by decide)
  have hrn_69 : ∀ t, (va_up G_47 H_58.size (some (175, 0))) r0 ≠ some t := jNrV hraw_63n hne_64
  generalize (va_up G_47 H_58.size (some (175, 0))) = G_67 at hN_67 hNn_67 hgn_67 hle_67 hh_67 hnr_65 hkp_68 hM_67 hrn_69
  have hd_70 := jSef.grow (hh_67.iv 0 rfl) hle_67 hM_67 (by decide)
  have hh_71 := hh_67.sub (L1 := []) [] rfl (M1 := []) [] rfl (I1 := []) [] rfl
  clear hh_67
  have hh_72 := hh_71.addI (jSef.ie hd_70)
  clear hh_71
  have hh_73 := hh_72.addI (jUN.ie hnr_65)
  clear hh_72
  refine j7_putRF hx hb hown hK hh_73 hB hAp hraw_63 hrn_69 hbr0 (C := RX9) (T := TX9) (N := 9) rfl (i := 1) (by decide) (Nat.le_of_ble_eq_true rfl) hly_11_1 rfl hin2 rfl hlk_40 (ty := (.array .int)) (v := .ref H_58.size) (by decide +kernel) rfl rfl dX9_init_55 (fun H_74 locs_74 hraw_74 hr_74 hh_74 => ?_)
  have hraw_74 : va_at (dC, dI) vwCl (r0, .inr (11, [.null, .ref H_58.size, .int 0, .ref s.heap.size, .ref H_10.size, .ref H_21.size, .int (-1), .ref H_34.size, .ref H_45.size])) H_74 := hraw_74
  have hkp_75 := hkp_68.put hr_74
  clear hh_73
  have hsz_76 := hh_74.2.2.2.2.2.1
  have htt_76 := hh_74.2.2.2.2.2.2.1
  refine W.room (fun hrc_76 hrs_76 => ?_)
  refine W.widen (k := LC - s.heap.size) (n := LS - jTot s.heap) (by omega) (by omega) ?_
  rw [hQ]
  have hd_77 := jSef.typ (n := 0) (hh_74.iv 1 rfl) hrn_69 ⟨H_10.size, H_21.size, 0, jf.raw (C := RX9) (T := TX9) (N := 9) rfl hraw_74 (i := 4) (by decide), jf.raw (C := RX9) (T := TX9) (N := 9) rfl hraw_74 (i := 5) (by decide), ((((hle_23).tr hle_36).tr hle_47).tr hle_67) _ _ hgn_12, (((hle_36).tr hle_47).tr hle_67) _ _ hgn_23, by omega⟩
  have hh_78 := hh_74.sub (L1 := []) [] rfl (M1 := []) [] rfl (I1 := [(jFun, jUN dC dI ca G_67 0 (jUf us (H_58.size) (jcL (fun _ => 0) 0 0)) rw)]) [0] rfl
  clear hh_74
  have hg_80 := (jLe.rf) _ _ hgn_67
  have hd_79 := jUN.typ (r := 0) (l := []) (hh_78.iv 0 rfl) hrn_69 (jf.raw (C := RX9) (T := TX9) (N := 9) rfl hraw_74 (i := 0) (by decide)) (jf.raw (C := RX9) (T := TX9) (N := 9) rfl hraw_74 (i := 1) (by decide)) hg_80 (jnC.n0 (jUf_s _ _ _))
  have hh_82 := hh_78.sub (L1 := []) [] rfl (M1 := []) [] rfl (I1 := []) [] rfl
  clear hh_78
  have hle_83 : jLe G_67 (va_up G_67 r0 (some (11, 0))) := jLe.typ hrn_69
  have hg_84 := (jLe.rf).tr hle_83 _ _ hgn_67
  have hg_85 := (((((hle_12).tr hle_23).tr hle_36).tr hle_47).tr hle_67).tr hle_83 _ _ hgn_1
  have hg_86 := ((((hle_23).tr hle_36).tr hle_47).tr hle_67).tr hle_83 _ _ hgn_12
  have hg_87 := (((hle_36).tr hle_47).tr hle_67).tr hle_83 _ _ hgn_23
  have hg_88 := ((hle_47).tr hle_67).tr hle_83 _ _ hgn_36
  have hg_89 := (hle_67).tr hle_83 _ _ hgn_47
  have hfa_83 : jRn (va_up G_67 r0 (some (11, 0))) 11 0 (.null) ∧ jRk (va_up G_67 r0 (some (11, 0))) 175 1500 (.ref H_58.size) ∧ jIa (.int 0) ∧ jRk (va_up G_67 r0 (some (11, 0))) 101 16 (.ref s.heap.size) ∧ jRk (va_up G_67 r0 (some (11, 0))) 101 16 (.ref H_10.size) ∧ jRk (va_up G_67 r0 (some (11, 0))) 313 16 (.ref H_21.size) ∧ jIa (.int (-1)) ∧ jRk (va_up G_67 r0 (some (11, 0))) 280 80 (.ref H_34.size) ∧ jRk (va_up G_67 r0 (some (11, 0))) 214 6 (.ref H_45.size) ∧ True := ⟨Or.inl rfl, ⟨_, _, rfl, hg_84, by omega⟩, ⟨_, rfl⟩, ⟨_, _, rfl, hg_85, by omega⟩, ⟨_, _, rfl, hg_86, by omega⟩, ⟨_, _, rfl, hg_87, by omega⟩, ⟨_, rfl⟩, ⟨_, _, rfl, hg_88, by omega⟩, ⟨_, _, rfl, hg_89, by omega⟩, trivial⟩
  have hh_83 := hh_82.typ (k := 11) (n := 0) hB hrn_69 hbr0 hraw_74.lt (jOb.of (C := RX9) (T := TX9) (N := 9) (F := F11) hB11 rfl hraw_74 (show jFx (F11 0 (va_up G_67 r0 (some (11, 0)))) [.null, .ref H_58.size, .int 0, .ref s.heap.size, .ref H_10.size, .ref H_21.size, .int (-1), .ref H_34.size, .ref H_45.size] from hfa_83))
  have hgn_83 : (va_up G_67 r0 (some (11, 0))) r0 = some (11, 0) := jUp_self
  have hN_83 : (jNk [0, 1, 2, 3, 4, 5, 6, 7, 8, 9, 10, 12, 13, 14, 15, 16, 17]) G_67 (va_up G_67 r0 (some (11, 0))) := jNk.new (by decide)
  have hNn_83 : (jNk [0, 1, 2, 3, 4, 5, 6, 7, 8, 9, 10, 12, 13, 14, 15, 16, 17]) G0 (va_up G_67 r0 (some (11, 0))) := (hNn_67).tr hN_83
  have hkp_90 := hkp_75.typ (t := some (11, 0))
  have hh_91 := hh_83.addI (jUN.ie hd_79)
  clear hh_83
  have hh_92 := hh_91.addI (jSef.ie hd_77)
  clear hh_91
  exact W.vret hx hb hr (fun t ht hW => ⟨⟨((jUf us (H_58.size) (jcL (fun _ => 0) 0 0)), (jUf rw r0 ([])), (va_up G_67 r0 (some (11, 0)))), rfl, rfl, ⟨hh_92.ra (by first | (simp only; omega) | omega) (by first | (simp only; omega) | omega) (M1 := []) [] rfl ht, hNn_83, hgn_83, by rw [ht]; exact hkp_90, by rw [ht]; exact hh_92.2.2.2.2.2.2.2.2.sub (L1 := [(jFs11, jSef dC dI (va_up G_67 r0 (some (11, 0)))), (jFun, jUN dC dI ca (va_up G_67 r0 (some (11, 0))) 0 (jUf us (H_58.size) (jcL (fun _ => 0) 0 0)) (jUf rw r0 ([])))]) [0, 1] rfl⟩⟩, by rw [ht]; try exact hh_92.1.1, fun q h9 hq => by rw [ht]; try exact hh_92.1.2.1 q h9 hq⟩) hh_92.1.2.2 dX9_init_58
set_option maxHeartbeats 4000000 in
set_option maxRecDepth 20000 in
theorem uX5_initW (l : Launch) (dC : Nat → ClassId) (dI : Nat → Nat → Nat) (ca : Nat → ClassId) (base : Nat) (B : jF) (hB : jBok B) (hAp : jAp (dC, dI)) (hB5 : ∀ n G a H, B 5 n G a H ↔ jOb (dC, dI) 5 4 (F5 n G) a H) (hB7 : ∀ n G a H, B 7 n G a H ↔ jOb (dC, dI) 7 11 (F7 n G) a H) (hB8 : ∀ n G a H, B 8 n G a H ↔ jOb (dC, dI) 8 4 (F8 n G) a H) (hB11 : ∀ n G a H, B 11 n G a H ↔ jOb (dC, dI) 11 9 (F11 n G) a H) (hB12 : ∀ n G a H, B 12 n G a H ↔ jOb (dC, dI) 12 11 (F12b n G) a H) (hB101 : ∀ n G a H, B 101 n G a H ↔ jAr (dC, dI) (ca 1) (fun j z => True) n a H) (hB102 : ∀ n G a H, B 102 n G a H ↔ jAl (dC, dI) (ca 2) n a H) (hB132 : ∀ n G a H, B 132 n G a H ↔ jAr (dC, dI) (ca 1) (fun j z => 0 ≤ z.toInt ∧ z.toInt ≤ 10) n a H) (hB133 : ∀ n G a H, B 133 n G a H ↔ jAr (dC, dI) (ca 1) (fun j z => 0 ≤ z.toInt ∧ z.toInt ≤ 8192) n a H) (hB175 : ∀ n G a H, B 175 n G a H ↔ jAr (dC, dI) (ca 1) (fun j z => True) n a H) (hB211 : ∀ n G a H, B 211 n G a H ↔ jAq (dC, dI) (ca 7) (jQh) n G a H) (hB214 : ∀ n G a H, B 214 n G a H ↔ jAq (dC, dI) (ca 7) (jQg) n G a H) (hB280 : ∀ n G a H, B 280 n G a H ↔ jAr (dC, dI) (ca 1) (fun j z => -1 ≤ z.toInt) n a H) (hB290 : ∀ n G a H, B 290 n G a H ↔ jAr (dC, dI) (ca 1) (fun j z => 0 ≤ z.toInt ∧ z.toInt ≤ 3000) n a H) (hB291 : ∀ n G a H, B 291 n G a H ↔ jAr (dC, dI) (ca 1) (fun j z => 0 ≤ z.toInt ∧ z.toInt ≤ 3000) n a H) (hB292 : ∀ n G a H, B 292 n G a H ↔ jAr (dC, dI) (ca 1) (fun j z => 0 ≤ z.toInt ∧ z.toInt ≤ 8191) n a H) (hB293 : ∀ n G a H, B 293 n G a H ↔ jAr (dC, dI) (ca 1) (fun j z => -1 ≤ z.toInt ∧ z.toInt ≤ 8191) n a H) (hB313 : ∀ n G a H, B 313 n G a H ↔ jAq (dC, dI) (ca 8) (jQk 280 80) n G a H) (G0 : jT) (H0 : Heap) (r0 : Nat) (us : Nat → List Int) (rw : Nat → List Int) (LC LS : Nat) : Met l yX5_init (jw yX5_init cX5_init 1 none) ({ frames := 5, cells := LC - H0.size, slots := LS - jTot H0, locals := 164 }) (va_Pc [.ref r0] (fun U => U.heap = H0 ∧ jX B base G0 [] H0 ∧ jG dC dI ca base U ∧ jK2 dC dI ca U ∧ jK5 dC dI ca U ∧ jK6 U ∧ va_at (dC, dI) vwCl (r0, .inr (7, [.null, .null, .null, .null, .null, .null, .null, .null, .null, .null, .int 0])) H0 ∧ (∀ t, G0 r0 ≠ some t) ∧ base ≤ r0 ∧ jP (dC, dI) G0 H0 [] ∧ jIs (dC, dI) G0 H0 [(jFs11, jSef dC dI G0), (jFun, jUN dC dI ca G0 0 us rw)] ∧ H0.size + 24 ≤ LC ∧ jTot H0 + 38990 ≤ LS ∧ True)) (va_Qv (S := Nat × Nat × (Nat → List Int) × (Nat → List Int) × jT) (fun u => u.2.1 = 0 ∧ u.2.2.2.1 u.1 = []) (fun u t => jRa (dC, dI) B base G0 u.2.2.2.2 EX5_initW H0 (24) (38990) [(r0, 7, 2, .ref u.1)] t.heap ∧ u.2.2.2.2 u.1 = some (11, u.2.1) ∧ (jNk [0, 1, 2, 3, 4, 5, 6, 9, 10, 13, 14, 15, 16, 17]) G0 u.2.2.2.2 ∧ u.2.2.2.2 r0 = some (7, 0) ∧ jKx r0 G0 u.2.2.2.2 H0 t.heap ∧ jIs (dC, dI) u.2.2.2.2 t.heap [(jFs11, jSef dC dI u.2.2.2.2), (jFun, jUN dC dI ca u.2.2.2.2 0 (u.2.2.1) (u.2.2.2.1))]) (jA base)) (LC - H0.size) (LS - jTot H0) (jA base) := by
  refine Met.ofW (cc := cX5_init) (maxL := 1) (ret := none) (by decide) rfl ?_
  intro p e s m args below meth c s₁ Bd hml hv
  obtain ⟨rfl, hH0, hX, hG, hK2, hK5, hK6, hraw0, hnr0, hbr0, hP0, hI0, hLC0, hLS0, hp0⟩ := hv
  have hK := hG.1
  have hx := Bd.exec
  have hb := Bd.bytes
  have hr := Bd.returns
  have hts := atoms_spec (ws := (jw yX5_init cX5_init 1 none)) Bd.pre
  have htw : ∀ w ∈ jWl, w.before _ s = true := fun w h => hts w (List.mem_cons_of_mem _ h)
  have hown : s.vm.findClass RX5 = some m.cls := findClass_of_methodNamed Bd.named
  have hlocks := Bd.notSynchronized
  obtain ⟨Q, hQ⟩ : ∃ Q, Q = MQ below (va_Qv (S := Nat × Nat × (Nat → List Int) × (Nat → List Int) × jT) (fun u => u.2.1 = 0 ∧ u.2.2.2.1 u.1 = []) (fun u t => jRa (dC, dI) B base G0 u.2.2.2.2 EX5_initW H0 (24) (38990) [(r0, 7, 2, .ref u.1)] t.heap ∧ u.2.2.2.2 u.1 = some (11, u.2.1) ∧ (jNk [0, 1, 2, 3, 4, 5, 6, 9, 10, 13, 14, 15, 16, 17]) G0 u.2.2.2.2 ∧ u.2.2.2.2 r0 = some (7, 0) ∧ jKx r0 G0 u.2.2.2.2 H0 t.heap ∧ jIs (dC, dI) u.2.2.2.2 t.heap [(jFs11, jSef dC dI u.2.2.2.2), (jFun, jUN dC dI ca u.2.2.2.2 0 (u.2.2.1) (u.2.2.2.1))]) (jA base)) ([.ref r0] : List Value).toArray s (LC - H0.size) (LS - jTot H0) (jA base) := ⟨_, rfl⟩
  rw [← hQ]
  have hl := lv_entry ([.ref r0]) (n := 1) (Nat.le_of_ble_eq_true rfl)
  rw [lg_entry_eq]
  generalize (lg_sl ([.ref r0]) ++ List.replicate (1 - (lg_sl ([.ref r0])).length) Slot.unset).toArray = ls at hl ⊢
  have hl : lv_has ls 1 [(0, .ref r0)] := hl
  generalize hR : (headSpec (jw yX5_init cX5_init 1 none) ({ frames := 5, cells := LC - H0.size, slots := LS - jTot H0, locals := 164 })).room = R
  subst hH0
  have hh : jSt (dC, dI) B base G0 G0 EX5_initW s.heap 0 0 [] [] [(jFs11, jSef dC dI G0), (jFun, jUN dC dI ca G0 0 us rw)] s.heap [] := jSt.start hX hP0 jMc.nil hI0
  clear hX hP0
  have hk0 : (0 : Int32).toInt = 0 := by decide
  have hk1 : (1 : Int32).toInt = 1 := by decide
  have hk6 : (6 : Int32).toInt = 6 := by decide
  have hk13 : (13 : Int32).toInt = 13 := by decide
  have hly_7_0 := htw (u_lay RX5 TX5 0) (jWc_wsX50 _ (u_in_lay (by decide)))
  have hly_7_1 := htw (u_lay RX5 TX5 1) (jWc_wsX50 _ (u_in_lay (by decide)))
  have hly_7_2 := htw (u_lay RX5 TX5 2) (jWc_wsX50 _ (u_in_lay (by decide)))
  have hly_7_3 := htw (u_lay RX5 TX5 3) (jWc_wsX50 _ (u_in_lay (by decide)))
  have hly_7_4 := htw (u_lay RX5 TX5 4) (jWc_wsX50 _ (u_in_lay (by decide)))
  have hly_7_5 := htw (u_lay RX5 TX5 5) (jWc_wsX50 _ (u_in_lay (by decide)))
  have hly_7_6 := htw (u_lay RX5 TX5 6) (jWc_wsX50 _ (u_in_lay (by decide)))
  have hly_7_7 := htw (u_lay RX5 TX5 7) (jWc_wsX50 _ (u_in_lay (by decide)))
  have hly_7_8 := htw (u_lay RX5 TX5 8) (jWc_wsX50 _ (u_in_lay (by decide)))
  have hly_7_9 := htw (u_lay RX5 TX5 9) (jWc_wsX50 _ (u_in_lay (by decide)))
  have hlk_12 := (htw (.fieldLink RX5 12 "ProofServer$Kernel" "names" "LProofServer$Names;") (jWr_4 _ (List.mem_of_getElem? (i := 11) rfl)))
  have hlk_23 := (htw (.fieldLink RX5 23 "ProofServer$Kernel" "syntax" "LProofServer$Syntax;") (jWr_4 _ (List.mem_of_getElem? (i := 15) rfl)))
  have hlk_30 := (htw (.fieldLink RX5 30 "ProofServer$Kernel" "start" "LProofServer$State;") (jWr_4 _ (List.mem_of_getElem? (i := 19) rfl)))
  have hlk_34 := (htw (.fieldLink RX5 34 "ProofServer$Kernel" "scopeNames" "[I") (jWr_4 _ (List.mem_of_getElem? (i := 20) rfl)))
  have hlk_38 := (htw (.fieldLink RX5 38 "ProofServer$Kernel" "scopeEnds" "[I") (jWr_4 _ (List.mem_of_getElem? (i := 21) rfl)))
  have hlk_41 := (htw (.fieldLink RX5 41 "ProofServer$Kernel" "source" "[I") (jWr_4 _ (List.mem_of_getElem? (i := 22) rfl)))
  have hlk_44 := (htw (.fieldLink RX5 44 "ProofServer$Kernel" "termFrom" "[I") (jWr_4 _ (List.mem_of_getElem? (i := 23) rfl)))
  have hlk_47 := (htw (.fieldLink RX5 47 "ProofServer$Kernel" "termSize" "[I") (jWr_5 _ (List.mem_of_getElem? (i := 0) rfl)))
  have hlk_50 := (htw (.fieldLink RX5 50 "ProofServer$Kernel" "single" "[I") (jWr_5 _ (List.mem_of_getElem? (i := 1) rfl)))
  have hlk_55 := (htw (.fieldLink RX5 55 "ProofServer$Kernel" "fresh" "[LProofServer$Goal;") (jWr_5 _ (List.mem_of_getElem? (i := 3) rfl)))
  have hbs : base ≤ s.heap.size := Nat.le_of_lt (Nat.lt_of_le_of_lt hbr0 hraw0.lt)
  have hRc : R.cells = LC - s.heap.size := by rw [← hR]; rfl
  have hRs : R.slots = LS - jTot s.heap := by rw [← hR]; rfl
  have hin2 : meth.name = "<init>" := (name_of_methodNamed Bd.named Bd.method).1
  have hkp : jKx r0 G0 G0 s.heap s.heap := jKx.rf
  refine lv_aload_n hx hb dX5_init_0 rfl (lv_at hl 0 rfl) ?_
  refine W.objInit hx hb hown (htw (.methodLink RX5 3 objectInit) (jWr_4 _ (List.mem_of_getElem? (i := 7) rfl))) (htw (.instanceMethod objectInit) (jWr_1 _ (List.mem_of_getElem? (i := 10) rfl))) (htw (.code objectInit ⟨#[0xb1]⟩ 1 none) (jWr_1 _ (List.mem_of_getElem? (i := 11) rfl))) rfl (by rw [hml]; exact hl.1) rfl dX5_init_1 (by rw [← hR]; exact Nat.le_of_ble_eq_true rfl) (by rw [← hR]; exact Nat.le_of_ble_eq_true rfl) ?_
  refine W.eq (g2 := F0 m 4 ls []) rfl ?_
  refine lv_aload_n hx hb dX5_init_4 rfl (lv_at hl 0 rfl) ?_
  have hsz_1 := hh.2.2.2.2.2.1
  have htt_1 := hh.2.2.2.2.2.2.1
  refine j7_newo (k := 8) (C := RX6) (T := TX6) (N := 4) (fs := [.null, .null, .null, .int 0]) hx hb htw jWc_wsX60 (fun k => ([(.array .long), (.array .int), (.array .int), .int] : List FieldType).getD k .int) (by decide +kernel) hown (htw (.classLink RX5 9 RX6) (jWr_4 _ (List.mem_of_getElem? (i := 8) rfl))) (htw (.instantiable RX6 4) (jWr_4 _ (List.mem_of_getElem? (i := 9) rfl))) (htw (.initialized RX6) (jWr_4 _ (List.mem_of_getElem? (i := 10) rfl))) hK rfl (fun j hj => by rcases (by omega : j = 0 ∨ j = 1 ∨ j = 2 ∨ j = 3) with rfl | rfl | rfl | rfl <;> rfl) hh hB (by rw [hRc]; omega) (by rw [hRs]; omega) dX5_init_5 (fun H_1 hraw_1 hfr_1 hnr_1 hh_1 => ?_)
  have hlt_2 := hraw0.lt
  have hke_1 : jKe G0 G0 s.heap H_1 := jKe.raw hfr_1
  have hbr_1 : base ≤ s.heap.size := Nat.le_trans hbs hh.1.1
  have hsy_1 : s.heap.size ≤ s.heap.size := hh.1.1
  clear hh
  have hkp_3 := hkp.tr hke_1
  have hraw_4n := hke_1.nr hraw0.lt hnr0
  have hraw_4 := hraw0.kept (hke_1.1 _ hraw0.lt)
  have hne_5 : r0 ≠ s.heap.size := Nat.ne_of_lt hlt_2
  refine lv_dup hx hb dX5_init_8 rfl ?_
  have hsz_6 := hh_1.2.2.2.2.2.1
  have htt_6 := hh_1.2.2.2.2.2.2.1
  refine W.room (fun hrc_6 hrs_6 => ?_)
  refine va_callv (A0 := jA base) (H0 := s.heap) (va_runI (As := []) (rest := [.ref s.heap.size, .ref r0]) ⟨hx, hb, hml, hown, hts⟩ (uX6_init l dC dI ca base B hB hAp hB8 hB101 hB102 hB132 hB133 G0 H_1 s.heap.size LC LS) (cwI 0 hts (jgW (jWr_5 _ (List.mem_of_getElem? (i := 6) rfl))) rfl rfl rfl (htw (.initialized RX6) (jWr_4 _ (List.mem_of_getElem? (i := 10) rfl))) (htw (.methodLink RX5 11 yX6_init) (jWr_5 _ (List.mem_of_getElem? (i := 4) rfl))) (htw (.instanceMethod yX6_init) (jWr_5 _ (List.mem_of_getElem? (i := 5) rfl))) rfl (by decide +kernel) ⟨by rw [← hR]; exact Nat.le_of_ble_eq_true rfl, by rw [← hR]; exact Nat.le_of_ble_eq_true rfl⟩) ⟨fun a U g mk q => by obtain ⟨q0, q1, q2, qK, q10, q11, q12, q13, q14⟩ := q; exact ⟨q0, q1, q2, jG.calling g mk a qK, q10, q11, q12, q13, q14⟩, fun U hU hW => ⟨rfl, hU, hh_1.2.1, hG.step hW hU hh_1.1, hraw_1, hnr_1, hbr_1, jP.nil, (by omega), (by omega), trivial⟩⟩ rfl rfl hl.1 rfl (lv_room (Nat.le_of_ble_eq_true rfl)) dX5_init_9 ⟨by rw [hRc]; omega, by rw [hRs]; omega⟩) hh_1.1 (fun q _ h => h) (fun q h => h) (fun u_6 t_6 H_6 locs_6 ht_6 hvm_6 hr_7 hb_6 hz_6 hk_6 hS_6 => ?_)
  rw [ht_6] at hb_6
  obtain ⟨G_6, rfl⟩ : ∃ z, z = u_6 := ⟨_, rfl⟩
  try simp only at hb_6
  obtain ⟨⟨hb_61, hb_62, hb_63, hb_64, hb_65, hb_66⟩, hN_6, hgc_6, hbX_6⟩ := hb_6
  have hM_6 := hN_6
  have hW_6 := hN_6
  have hN_6 : (jNk [0, 1, 2, 3, 4, 5, 6, 9, 10, 13, 14, 15, 16, 17]) G0 G_6 := hN_6.sub (by decide)
  have hh_6 : jSt (dC, dI) B base G0 G_6 EX5_initW s.heap ((0 + 1) + (4)) ((0 + 4) + (32903)) [] [] [(jFs11, jSef dC dI G0), (jFun, jUN dC dI ca G0 0 us rw)] H_6 locs_6 := (hh_1.callG hb_61 hb_62 hb_63 hb_64 hb_65 hS_6 rfl (L1 := []) [] rfl rfl (M1 := []) [] rfl rfl (I1 := [(jFs11, jSef dC dI G0), (jFun, jUN dC dI ca G0 0 us rw)]) [0, 1] rfl rfl).more hb_66
  have hNn_6 : (jNk [0, 1, 2, 3, 4, 5, 6, 9, 10, 13, 14, 15, 16, 17]) G0 G_6 := (jNk.rf).tr hN_6
  have hd_8 := jSef.grow (hh_6.iv 0 rfl) hb_62 hM_6 (by decide)
  have hh_9 := hh_6.sub (L1 := []) [] rfl (M1 := []) [] rfl (I1 := [(jFun, jUN dC dI ca G0 0 us rw)]) [1] rfl
  clear hh_6
  have hh_10 := hh_9.addI (jSef.ie hd_8)
  clear hh_9
  have hd_11 := jUN.grow (r := 0) (hh_10.iv 1 rfl) hb_62 hW_6 (by decide) (by decide)
  have hh_12 := hh_10.sub (L1 := []) [] rfl (M1 := []) [] rfl (I1 := [(jFs11, jSef dC dI G_6)]) [0] rfl
  clear hh_10
  have hh_13 := hh_12.addI (jUN.ie hd_11)
  clear hh_12
  try simp only at hr_7
  have hkp_14 := hkp_3.in hbX_6 hsy_1
  have hraw_15x := hbX_6.ke hraw_4.lt hne_5 hraw_4n
  have hraw_15 := hraw_4.kept hraw_15x.1
  refine j7_putRF hx hb hown hK hh_13 hB hAp hraw_15 hraw_15x.2 hbr0 (C := RX5) (T := TX5) (N := 11) rfl (i := 0) (by decide) (Nat.le_of_ble_eq_true rfl) hly_7_0 rfl hin2 rfl hlk_12 (ty := (.object "ProofServer$Names")) (v := .ref s.heap.size) (by decide +kernel) rfl rfl dX5_init_12 (fun H_16 locs_16 hraw_16 hr_16 hh_16 => ?_)
  have hraw_16 : va_at (dC, dI) vwCl (r0, .inr (7, [.ref s.heap.size, .null, .null, .null, .null, .null, .null, .null, .null, .null, .int 0])) H_16 := hraw_16
  have hkp_17 := hkp_14.put hr_16
  clear hh_13
  refine lv_aload_n hx hb dX5_init_15 rfl (lv_at hl 0 rfl) ?_
  have hsz_18 := hh_16.2.2.2.2.2.1
  have htt_18 := hh_16.2.2.2.2.2.2.1
  refine j7_newo (k := 12) (C := RX10) (T := TX10) (N := 11) (fs := [.null, .null, .null, .int 0, .int 0, .int 0, .null, .int 0, .int 0, .null, .int 0]) hx hb htw jWc_wsX100 (fun k => ([(.object "ProofServer$Names"), (.array .int), (.array .int), .int, .int, .int, (.array .int), .int, .int, (.array .int), .int] : List FieldType).getD k .int) (by decide +kernel) hown (htw (.classLink RX5 18 RX10) (jWr_4 _ (List.mem_of_getElem? (i := 12) rfl))) (htw (.instantiable RX10 11) (jWr_4 _ (List.mem_of_getElem? (i := 13) rfl))) (htw (.initialized RX10) (jWr_4 _ (List.mem_of_getElem? (i := 14) rfl))) hK rfl (fun j hj => by rcases (by omega : j = 0 ∨ j = 1 ∨ j = 2 ∨ j = 3 ∨ j = 4 ∨ j = 5 ∨ j = 6 ∨ j = 7 ∨ j = 8 ∨ j = 9 ∨ j = 10) with rfl | rfl | rfl | rfl | rfl | rfl | rfl | rfl | rfl | rfl | rfl <;> rfl) hh_16 hB (by rw [hRc]; omega) (by rw [hRs]; omega) dX5_init_16 (fun H_18 hraw_18 hfr_18 hnr_18 hh_18 => ?_)
  have hlt_19 := hraw_16.lt
  have hke_18 : jKe G_6 G_6 H_16 H_18 := jKe.raw hfr_18
  have hbr_18 : base ≤ H_16.size := Nat.le_trans hbs hh_16.1.1
  have hsy_18 : s.heap.size ≤ H_16.size := hh_16.1.1
  clear hh_16
  have hkp_20 := hkp_17.tr hke_18
  have hraw_21n := hke_18.nr hraw_16.lt hraw_15x.2
  have hraw_21 := hraw_16.kept (hke_18.1 _ hraw_16.lt)
  have hne_22 : r0 ≠ H_16.size := Nat.ne_of_lt hlt_19
  refine lv_dup hx hb dX5_init_19 rfl ?_
  refine lv_aload_n hx hb dX5_init_20 rfl (lv_at hl 0 rfl) ?_
  refine j7_read hx hb hown hK (C := RX5) (T := TX5) (N := 11) rfl hly_7_0 hlk_12 (jf.raw (C := RX5) (T := TX5) (N := 11) rfl hraw_21 (i := 0) (by decide)) dX5_init_21 ?_
  have hg_23 := (jLe.rf) _ _ hgc_6
  have hsz_24 := hh_18.2.2.2.2.2.1
  have htt_24 := hh_18.2.2.2.2.2.2.1
  refine W.room (fun hrc_24 hrs_24 => ?_)
  refine va_callv (A0 := jA base) (H0 := s.heap) (va_runI (As := [.ref s.heap.size]) (rest := [.ref H_16.size, .ref r0]) ⟨hx, hb, hml, hown, hts⟩ (uX10_init l dC dI ca base B hB hAp hB8 hB12 hB101 hB280 hB292 hB293 G_6 H_18 H_16.size s.heap.size LC LS) (cwI 1 hts (jgW (jWr_8 _ (List.mem_of_getElem? (i := 6) rfl))) rfl rfl rfl (htw (.initialized RX10) (jWr_4 _ (List.mem_of_getElem? (i := 14) rfl))) (htw (.methodLink RX5 20 yX10_init) (jWr_8 _ (List.mem_of_getElem? (i := 4) rfl))) (htw (.instanceMethod yX10_init) (jWr_8 _ (List.mem_of_getElem? (i := 5) rfl))) rfl (by decide +kernel) ⟨by rw [← hR]; exact Nat.le_of_ble_eq_true rfl, by rw [← hR]; exact Nat.le_of_ble_eq_true rfl⟩) ⟨fun a U g mk q => by obtain ⟨q0, q1, q2, qK, q10, q11, q12, q13, q14, q15⟩ := q; exact ⟨q0, q1, q2, jG.calling g mk a qK, q10, q11, q12, q13, q14, q15⟩, fun U hU hW => ⟨rfl, hU, hh_18.2.1, hG.step hW hU hh_18.1, hg_23, hraw_18, hnr_18, hbr_18, jP.nil, (by omega), (by omega), trivial⟩⟩ rfl rfl hl.1 rfl (lv_room (Nat.le_of_ble_eq_true rfl)) dX5_init_24 ⟨by rw [hRc]; omega, by rw [hRs]; omega⟩) hh_18.1 (fun q _ h => h) (fun q h => h) (fun u_24 t_24 H_24 locs_24 ht_24 hvm_24 hr_25 hb_24 hz_24 hk_24 hS_24 => ?_)
  rw [ht_24] at hb_24
  obtain ⟨G_24, rfl⟩ : ∃ z, z = u_24 := ⟨_, rfl⟩
  try simp only at hb_24
  obtain ⟨⟨hb_241, hb_242, hb_243, hb_244, hb_245, hb_246⟩, hN_24, hgc_24, hbX_24⟩ := hb_24
  have hM_24 := hN_24
  have hW_24 := hN_24
  have hN_24 : (jNk [0, 1, 2, 3, 4, 5, 6, 9, 10, 13, 14, 15, 16, 17]) G_6 G_24 := hN_24.sub (by decide)
  have hh_24 : jSt (dC, dI) B base G0 G_24 EX5_initW s.heap ((((0 + 1) + (4)) + 1) + (4)) ((((0 + 4) + (32903)) + 11) + (6003)) [] [] [(jFun, jUN dC dI ca G_6 0 us rw), (jFs11, jSef dC dI G_6)] H_24 locs_24 := (hh_18.callG hb_241 hb_242 hb_243 hb_244 hb_245 hS_24 rfl (L1 := []) [] rfl rfl (M1 := []) [] rfl rfl (I1 := [(jFun, jUN dC dI ca G_6 0 us rw), (jFs11, jSef dC dI G_6)]) [0, 1] rfl rfl).more hb_246
  have hNn_24 : (jNk [0, 1, 2, 3, 4, 5, 6, 9, 10, 13, 14, 15, 16, 17]) G0 G_24 := (hNn_6).tr hN_24
  have hd_26 := jUN.grow (r := 0) (hh_24.iv 0 rfl) hb_242 hW_24 (by decide) (by decide)
  have hh_27 := hh_24.sub (L1 := []) [] rfl (M1 := []) [] rfl (I1 := [(jFs11, jSef dC dI G_6)]) [1] rfl
  clear hh_24
  have hh_28 := hh_27.addI (jUN.ie hd_26)
  clear hh_27
  have hd_29 := jSef.grow (hh_28.iv 1 rfl) hb_242 hM_24 (by decide)
  have hh_30 := hh_28.sub (L1 := []) [] rfl (M1 := []) [] rfl (I1 := [(jFun, jUN dC dI ca G_24 0 us rw)]) [0] rfl
  clear hh_28
  have hh_31 := hh_30.addI (jSef.ie hd_29)
  clear hh_30
  try simp only at hr_25
  have hkp_32 := hkp_20.in hbX_24 hsy_18
  have hraw_33x := hbX_24.ke hraw_21.lt hne_22 hraw_21n
  have hraw_33 := hraw_21.kept hraw_33x.1
  refine j7_putRF hx hb hown hK hh_31 hB hAp hraw_33 hraw_33x.2 hbr0 (C := RX5) (T := TX5) (N := 11) rfl (i := 1) (by decide) (Nat.le_of_ble_eq_true rfl) hly_7_1 rfl hin2 rfl hlk_23 (ty := (.object "ProofServer$Syntax")) (v := .ref H_16.size) (by decide +kernel) rfl rfl dX5_init_27 (fun H_34 locs_34 hraw_34 hr_34 hh_34 => ?_)
  have hraw_34 : va_at (dC, dI) vwCl (r0, .inr (7, [.ref s.heap.size, .ref H_16.size, .null, .null, .null, .null, .null, .null, .null, .null, .int 0])) H_34 := hraw_34
  have hkp_35 := hkp_32.put hr_34
  clear hh_31
  refine lv_aload_n hx hb dX5_init_30 rfl (lv_at hl 0 rfl) ?_
  have hsz_36 := hh_34.2.2.2.2.2.1
  have htt_36 := hh_34.2.2.2.2.2.2.1
  refine j7_newo (k := 11) (C := RX9) (T := TX9) (N := 9) (fs := [.null, .null, .int 0, .null, .null, .null, .int 0, .null, .null]) hx hb htw jWc_wsX90 (fun k => ([(.object "ProofServer$State"), (.array .int), .int, (.array .int), (.array .int), (.array (.array .int)), .int, (.array .int), (.array (.object "ProofServer$Goal"))] : List FieldType).getD k .int) (by decide +kernel) hown (htw (.classLink RX5 27 RX9) (jWr_4 _ (List.mem_of_getElem? (i := 16) rfl))) (htw (.instantiable RX9 9) (jWr_4 _ (List.mem_of_getElem? (i := 17) rfl))) (htw (.initialized RX9) (jWr_4 _ (List.mem_of_getElem? (i := 18) rfl))) hK rfl (fun j hj => by rcases (by omega : j = 0 ∨ j = 1 ∨ j = 2 ∨ j = 3 ∨ j = 4 ∨ j = 5 ∨ j = 6 ∨ j = 7 ∨ j = 8) with rfl | rfl | rfl | rfl | rfl | rfl | rfl | rfl | rfl <;> rfl) hh_34 hB (by rw [hRc]; omega) (by rw [hRs]; omega) dX5_init_31 (fun H_36 hraw_36 hfr_36 hnr_36 hh_36 => ?_)
  have hlt_37 := hraw_34.lt
  have hke_36 : jKe G_24 G_24 H_34 H_36 := jKe.raw hfr_36
  have hbr_36 : base ≤ H_34.size := Nat.le_trans hbs hh_34.1.1
  have hsy_36 : s.heap.size ≤ H_34.size := hh_34.1.1
  clear hh_34
  have hkp_38 := hkp_35.tr hke_36
  have hraw_39n := hke_36.nr hraw_34.lt hraw_33x.2
  have hraw_39 := hraw_34.kept (hke_36.1 _ hraw_34.lt)
  have hne_40 : r0 ≠ H_34.size := Nat.ne_of_lt hlt_37
  refine lv_dup hx hb dX5_init_34 rfl ?_
  have hsz_41 := hh_36.2.2.2.2.2.1
  have htt_41 := hh_36.2.2.2.2.2.2.1
  refine W.room (fun hrc_41 hrs_41 => ?_)
  refine va_callv (A0 := jA base) (H0 := s.heap) (va_runI (As := []) (rest := [.ref H_34.size, .ref r0]) ⟨hx, hb, hml, hown, hts⟩ (uX9_initW l dC dI ca base B hB hAp hB5 hB11 hB101 hB175 hB214 hB280 hB313 G_24 H_36 H_34.size us rw LC LS) (cwI 0 hts (jgW (jWr_8 _ (List.mem_of_getElem? (i := 15) rfl))) rfl rfl rfl (htw (.initialized RX9) (jWr_4 _ (List.mem_of_getElem? (i := 18) rfl))) (htw (.methodLink RX5 29 yX9_init) (jWr_8 _ (List.mem_of_getElem? (i := 13) rfl))) (htw (.instanceMethod yX9_init) (jWr_8 _ (List.mem_of_getElem? (i := 14) rfl))) rfl (by decide +kernel) ⟨by rw [← hR]; exact Nat.le_of_ble_eq_true rfl, by rw [← hR]; exact Nat.le_of_ble_eq_true rfl⟩) ⟨fun a U g mk q => by obtain ⟨q0, q1, q2, qK, q10, q11, q12, q13, q14, q15, q16, q17, q18⟩ := q; exact ⟨q0, q1, q2, jG.calling g mk a qK, (va_K.moved (Vm.Alike.refl U.vm) q10), (jK5.moved (Vm.Alike.refl U.vm) q11), (jK6.moved (Vm.Alike.refl U.vm) q12), q13, q14, q15, q16, q17, q18⟩, fun U hU hW => ⟨rfl, hU, hh_36.2.1, hG.step hW hU hh_36.1, va_K.moved hW.alike hK2, jK5.moved hW.alike hK5, jK6.moved hW.alike hK6, hraw_36, hnr_36, hbr_36, jP.nil, (hh_36.2.2.2.2.2.2.2.2.sub (L1 := [(jFs11, jSef dC dI G_24), (jFun, jUN dC dI ca G_24 0 us rw)]) [0, 1] rfl), (by omega), (by omega), trivial⟩⟩ rfl rfl hl.1 rfl (lv_room (Nat.le_of_ble_eq_true rfl)) dX5_init_35 ⟨by rw [hRc]; omega, by rw [hRs]; omega⟩) hh_36.1 (fun q _ h => h) (fun q h => h) (fun u_41 t_41 H_41 locs_41 ht_41 hvm_41 hr_42 hb_41 hz_41 hk_41 hS_41 => ?_)
  rw [ht_41] at hb_41
  obtain ⟨qu_41, qr_41, G_41⟩ := u_41
  simp only at hb_41
  obtain ⟨⟨hb_411, hb_412, hb_413, hb_414, hb_415, hb_416⟩, hN_41, hgc_41, hbX_41, hbE_41⟩ := hb_41
  have hW_41 := hN_41
  have hN_41 : (jNk [0, 1, 2, 3, 4, 5, 6, 9, 10, 13, 14, 15, 16, 17]) G_24 G_41 := hN_41.sub (by decide)
  have hh_41 : jSt (dC, dI) B base G0 G_41 EX5_initW s.heap ((((((0 + 1) + (4)) + 1) + (4)) + 1) + (6)) ((((((0 + 4) + (32903)) + 11) + (6003)) + 9) + (0)) [] [] [] H_41 locs_41 := (hh_36.callG hb_411 hb_412 hb_413 hb_414 hb_415 hS_41 rfl (L1 := []) [] rfl rfl (M1 := []) [] rfl rfl (I1 := []) [] rfl rfl).more hb_416
  have hNn_41 : (jNk [0, 1, 2, 3, 4, 5, 6, 9, 10, 13, 14, 15, 16, 17]) G0 G_41 := (hNn_24).tr hN_41
  have hh_43 := hh_41.addIs hbE_41
  try simp only at hr_42
  have hkp_44 := hkp_38.in hbX_41 hsy_36
  have hraw_45x := hbX_41.ke hraw_39.lt hne_40 hraw_39n
  have hraw_45 := hraw_39.kept hraw_45x.1
  refine j7_putRF hx hb hown hK hh_43 hB hAp hraw_45 hraw_45x.2 hbr0 (C := RX5) (T := TX5) (N := 11) rfl (i := 2) (by decide) (Nat.le_of_ble_eq_true rfl) hly_7_2 rfl hin2 rfl hlk_30 (ty := (.object "ProofServer$State")) (v := .ref H_34.size) (by decide +kernel) rfl rfl dX5_init_38 (fun H_46 locs_46 hraw_46 hr_46 hh_46 => ?_)
  have hraw_46 : va_at (dC, dI) vwCl (r0, .inr (7, [.ref s.heap.size, .ref H_16.size, .ref H_34.size, .null, .null, .null, .null, .null, .null, .null, .int 0])) H_46 := hraw_46
  have hkp_47 := hkp_44.put hr_46
  clear hh_43
  refine lv_aload_n hx hb dX5_init_41 rfl (lv_at hl 0 rfl) ?_
  refine lv_bipush (v := 13) hx hb dX5_init_42 (by decide) ?_
  have hsz_48 := hh_46.2.2.2.2.2.1
  have htt_48 := hh_46.2.2.2.2.2.2.1
  refine j7_newiK hx hb hK hh_46 hB (atype := .int) (ty := .int) (htw (.arrayClass .int) (jWr_3 _ (List.mem_of_getElem? (i := 20) rfl))) rfl rfl (fun _ h => h) hB101 1 rfl (by decide) (by decide) hbs (x := 13) (by decide) (by omega) (fun j => by first | trivial | decide | rfl | exact Or.inl rfl | exact Or.inr (Or.inl (by decide)) | (refine ⟨?_, ?_⟩ <;> decide)) (by rw [hRc]; omega) (by rw [hRs]; omega) dX5_init_44 (fun H_48 hfr_48 hh_48 => ?_)
  have hh_48 : jSt (dC, dI) B base G0 (va_up G_41 H_46.size (some (101, 13))) EX5_initW s.heap (((((((0 + 1) + (4)) + 1) + (4)) + 1) + (6)) + 1) (((((((0 + 4) + (32903)) + 11) + (6003)) + 9) + (0)) + 13) [] [] [(jFs11, jSef dC dI G_41), (jFun, jUN dC dI ca G_41 0 qu_41 qr_41)] H_48 locs_46 := hh_48
  have hM_48 : jNk [11] G_41 (va_up G_41 H_46.size (some (101, 13))) := jNk.new (by decide)
  have hW_48 : jNk [0, 1, 2, 3, 4, 5, 6, 7, 8, 9, 10, 11, 12, 13, 14, 15, 16, 17, 175] G_41 (va_up G_41 H_46.size (some (101, 13))) := jNk.new (by decide)
  have hN_48 : (jNk [0, 1, 2, 3, 4, 5, 6, 9, 10, 13, 14, 15, 16, 17]) G_41 (va_up G_41 H_46.size (some (101, 13))) := jNk.new (by decide)
  have hgn_48 : (va_up G_41 H_46.size (some (101, 13))) H_46.size = some (101, 13) := jUp_self
  have hle_48 : jLe G_41 (va_up G_41 H_46.size (some (101, 13))) := jLe.new hh_46.2.1.fresh
  have hke_48 : jKe G_41 (va_up G_41 H_46.size (some (101, 13))) H_46 H_48 := jKe.new hfr_48
  have hsy_48 : s.heap.size ≤ H_46.size := hh_46.1.1
  generalize (va_up G_41 H_46.size (some (101, 13))) = G_48 at hN_48 hgn_48 hle_48 hke_48 hh_48 hM_48 hW_48
  clear hh_46
  have hNn_48 : (jNk [0, 1, 2, 3, 4, 5, 6, 9, 10, 13, 14, 15, 16, 17]) G0 G_48 := (hNn_41).tr hN_48
  have hkp_49 := hkp_47.tr hke_48
  have hraw_50n := hke_48.nr hraw_46.lt hraw_45x.2
  have hraw_50 := hraw_46.kept (hke_48.1 _ hraw_46.lt)
  have hd_51 := jSef.grow (hh_48.iv 0 rfl) hle_48 hM_48 (by decide)
  have hh_52 := hh_48.sub (L1 := []) [] rfl (M1 := []) [] rfl (I1 := [(jFun, jUN dC dI ca G_41 0 qu_41 qr_41)]) [1] rfl
  clear hh_48
  have hh_53 := hh_52.addI (jSef.ie hd_51)
  clear hh_52
  have hd_54 := jUN.grow (r := 0) (hh_53.iv 1 rfl) hle_48 hW_48 (by decide) (by decide)
  have hh_55 := hh_53.sub (L1 := []) [] rfl (M1 := []) [] rfl (I1 := [(jFs11, jSef dC dI G_48)]) [0] rfl
  clear hh_53
  have hh_56 := hh_55.addI (jUN.ie hd_54)
  clear hh_55
  refine j7_putRF hx hb hown hK hh_56 hB hAp hraw_50 hraw_50n hbr0 (C := RX5) (T := TX5) (N := 11) rfl (i := 3) (by decide) (Nat.le_of_ble_eq_true rfl) hly_7_3 rfl hin2 rfl hlk_34 (ty := (.array .int)) (v := .ref H_46.size) (by decide +kernel) rfl rfl dX5_init_46 (fun H_57 locs_57 hraw_57 hr_57 hh_57 => ?_)
  have hraw_57 : va_at (dC, dI) vwCl (r0, .inr (7, [.ref s.heap.size, .ref H_16.size, .ref H_34.size, .ref H_46.size, .null, .null, .null, .null, .null, .null, .int 0])) H_57 := hraw_57
  have hkp_58 := hkp_49.put hr_57
  clear hh_56
  refine lv_aload_n hx hb dX5_init_49 rfl (lv_at hl 0 rfl) ?_
  refine lv_bipush (v := 13) hx hb dX5_init_50 (by decide) ?_
  have hsz_59 := hh_57.2.2.2.2.2.1
  have htt_59 := hh_57.2.2.2.2.2.2.1
  refine j7_newiK hx hb hK hh_57 hB (atype := .int) (ty := .int) (htw (.arrayClass .int) (jWr_3 _ (List.mem_of_getElem? (i := 20) rfl))) rfl rfl (fun _ h => h) hB101 1 rfl (by decide) (by decide) hbs (x := 13) (by decide) (by omega) (fun j => by first | trivial | decide | rfl | exact Or.inl rfl | exact Or.inr (Or.inl (by decide)) | (refine ⟨?_, ?_⟩ <;> decide)) (by rw [hRc]; omega) (by rw [hRs]; omega) dX5_init_52 (fun H_59 hfr_59 hh_59 => ?_)
  have hh_59 : jSt (dC, dI) B base G0 (va_up G_48 H_57.size (some (101, 13))) EX5_initW s.heap ((((((((0 + 1) + (4)) + 1) + (4)) + 1) + (6)) + 1) + 1) ((((((((0 + 4) + (32903)) + 11) + (6003)) + 9) + (0)) + 13) + 13) [] [] [(jFun, jUN dC dI ca G_48 0 qu_41 qr_41), (jFs11, jSef dC dI G_48)] H_59 locs_57 := hh_59
  have hM_59 : jNk [11] G_48 (va_up G_48 H_57.size (some (101, 13))) := jNk.new (by decide)
  have hW_59 : jNk [0, 1, 2, 3, 4, 5, 6, 7, 8, 9, 10, 11, 12, 13, 14, 15, 16, 17, 175] G_48 (va_up G_48 H_57.size (some (101, 13))) := jNk.new (by decide)
  have hN_59 : (jNk [0, 1, 2, 3, 4, 5, 6, 9, 10, 13, 14, 15, 16, 17]) G_48 (va_up G_48 H_57.size (some (101, 13))) := jNk.new (by decide)
  have hgn_59 : (va_up G_48 H_57.size (some (101, 13))) H_57.size = some (101, 13) := jUp_self
  have hle_59 : jLe G_48 (va_up G_48 H_57.size (some (101, 13))) := jLe.new hh_57.2.1.fresh
  have hke_59 : jKe G_48 (va_up G_48 H_57.size (some (101, 13))) H_57 H_59 := jKe.new hfr_59
  have hsy_59 : s.heap.size ≤ H_57.size := hh_57.1.1
  generalize (va_up G_48 H_57.size (some (101, 13))) = G_59 at hN_59 hgn_59 hle_59 hke_59 hh_59 hM_59 hW_59
  clear hh_57
  have hNn_59 : (jNk [0, 1, 2, 3, 4, 5, 6, 9, 10, 13, 14, 15, 16, 17]) G0 G_59 := (hNn_48).tr hN_59
  have hkp_60 := hkp_58.tr hke_59
  have hraw_61n := hke_59.nr hraw_57.lt hraw_50n
  have hraw_61 := hraw_57.kept (hke_59.1 _ hraw_57.lt)
  have hd_62 := jUN.grow (r := 0) (hh_59.iv 0 rfl) hle_59 hW_59 (by decide) (by decide)
  have hh_63 := hh_59.sub (L1 := []) [] rfl (M1 := []) [] rfl (I1 := [(jFs11, jSef dC dI G_48)]) [1] rfl
  clear hh_59
  have hh_64 := hh_63.addI (jUN.ie hd_62)
  clear hh_63
  have hd_65 := jSef.grow (hh_64.iv 1 rfl) hle_59 hM_59 (by decide)
  have hh_66 := hh_64.sub (L1 := []) [] rfl (M1 := []) [] rfl (I1 := [(jFun, jUN dC dI ca G_59 0 qu_41 qr_41)]) [0] rfl
  clear hh_64
  have hh_67 := hh_66.addI (jSef.ie hd_65)
  clear hh_66
  refine j7_putRF hx hb hown hK hh_67 hB hAp hraw_61 hraw_61n hbr0 (C := RX5) (T := TX5) (N := 11) rfl (i := 4) (by decide) (Nat.le_of_ble_eq_true rfl) hly_7_4 rfl hin2 rfl hlk_38 (ty := (.array .int)) (v := .ref H_57.size) (by decide +kernel) rfl rfl dX5_init_54 (fun H_68 locs_68 hraw_68 hr_68 hh_68 => ?_)
  have hraw_68 : va_at (dC, dI) vwCl (r0, .inr (7, [.ref s.heap.size, .ref H_16.size, .ref H_34.size, .ref H_46.size, .ref H_57.size, .null, .null, .null, .null, .null, .int 0])) H_68 := hraw_68
  have hkp_69 := hkp_60.put hr_68
  clear hh_67
  refine lv_aload_n hx hb dX5_init_57 rfl (lv_at hl 0 rfl) ?_
  refine lv_iconst (v := 1) hx hb dX5_init_58 (by decide) ?_
  have hsz_70 := hh_68.2.2.2.2.2.1
  have htt_70 := hh_68.2.2.2.2.2.2.1
  refine j7_newiK hx hb hK hh_68 hB (atype := .int) (ty := .int) (htw (.arrayClass .int) (jWr_3 _ (List.mem_of_getElem? (i := 20) rfl))) rfl rfl (fun _ h => h) hB280 1 rfl (by decide) (by decide) hbs (x := 1) (by decide) (by omega) (fun j => by first | trivial | decide | rfl | exact Or.inl rfl | exact Or.inr (Or.inl (by decide)) | (refine ⟨?_, ?_⟩ <;> decide)) (by rw [hRc]; omega) (by rw [hRs]; omega) dX5_init_59 (fun H_70 hfr_70 hh_70 => ?_)
  have hh_70 : jSt (dC, dI) B base G0 (va_up G_59 H_68.size (some (280, 1))) EX5_initW s.heap (((((((((0 + 1) + (4)) + 1) + (4)) + 1) + (6)) + 1) + 1) + 1) (((((((((0 + 4) + (32903)) + 11) + (6003)) + 9) + (0)) + 13) + 13) + 1) [] [] [(jFs11, jSef dC dI G_59), (jFun, jUN dC dI ca G_59 0 qu_41 qr_41)] H_70 locs_68 := hh_70
  have hM_70 : jNk [11] G_59 (va_up G_59 H_68.size (some (280, 1))) := jNk.new (by decide)
  have hW_70 : jNk [0, 1, 2, 3, 4, 5, 6, 7, 8, 9, 10, 11, 12, 13, 14, 15, 16, 17, 175] G_59 (va_up G_59 H_68.size (some (280, 1))) := jNk.new (by decide)
  have hN_70 : (jNk [0, 1, 2, 3, 4, 5, 6, 9, 10, 13, 14, 15, 16, 17]) G_59 (va_up G_59 H_68.size (some (280, 1))) := jNk.new (by decide)
  have hgn_70 : (va_up G_59 H_68.size (some (280, 1))) H_68.size = some (280, 1) := jUp_self
  have hle_70 : jLe G_59 (va_up G_59 H_68.size (some (280, 1))) := jLe.new hh_68.2.1.fresh
  have hke_70 : jKe G_59 (va_up G_59 H_68.size (some (280, 1))) H_68 H_70 := jKe.new hfr_70
  have hsy_70 : s.heap.size ≤ H_68.size := hh_68.1.1
  generalize (va_up G_59 H_68.size (some (280, 1))) = G_70 at hN_70 hgn_70 hle_70 hke_70 hh_70 hM_70 hW_70
  clear hh_68
  have hNn_70 : (jNk [0, 1, 2, 3, 4, 5, 6, 9, 10, 13, 14, 15, 16, 17]) G0 G_70 := (hNn_59).tr hN_70
  have hkp_71 := hkp_69.tr hke_70
  have hraw_72n := hke_70.nr hraw_68.lt hraw_61n
  have hraw_72 := hraw_68.kept (hke_70.1 _ hraw_68.lt)
  have hd_73 := jSef.grow (hh_70.iv 0 rfl) hle_70 hM_70 (by decide)
  have hh_74 := hh_70.sub (L1 := []) [] rfl (M1 := []) [] rfl (I1 := [(jFun, jUN dC dI ca G_59 0 qu_41 qr_41)]) [1] rfl
  clear hh_70
  have hh_75 := hh_74.addI (jSef.ie hd_73)
  clear hh_74
  have hd_76 := jUN.grow (r := 0) (hh_75.iv 1 rfl) hle_70 hW_70 (by decide) (by decide)
  have hh_77 := hh_75.sub (L1 := []) [] rfl (M1 := []) [] rfl (I1 := [(jFs11, jSef dC dI G_70)]) [0] rfl
  clear hh_75
  have hh_78 := hh_77.addI (jUN.ie hd_76)
  clear hh_77
  refine j7_putR hx hb hown hK hh_78 hB hAp hraw_72 hraw_72n hbr0 (C := RX5) (T := TX5) (N := 11) rfl (i := 5) (by decide) (Nat.le_of_ble_eq_true rfl) hly_7_5 rfl hlk_41 (ty := (.array .int)) (v := .ref H_68.size) (by decide +kernel) rfl rfl dX5_init_61 (fun H_79 locs_79 hraw_79 hr_79 hh_79 => ?_)
  have hraw_79 : va_at (dC, dI) vwCl (r0, .inr (7, [.ref s.heap.size, .ref H_16.size, .ref H_34.size, .ref H_46.size, .ref H_57.size, .ref H_68.size, .null, .null, .null, .null, .int 0])) H_79 := hraw_79
  have hkp_80 := hkp_71.put hr_79
  clear hh_78
  refine lv_aload_n hx hb dX5_init_64 rfl (lv_at hl 0 rfl) ?_
  refine lv_bipush (v := 13) hx hb dX5_init_65 (by decide) ?_
  have hsz_81 := hh_79.2.2.2.2.2.1
  have htt_81 := hh_79.2.2.2.2.2.2.1
  refine j7_newiK hx hb hK hh_79 hB (atype := .int) (ty := .int) (htw (.arrayClass .int) (jWr_3 _ (List.mem_of_getElem? (i := 20) rfl))) rfl rfl (fun _ h => h) hB290 1 rfl (by decide) (by decide) hbs (x := 13) (by decide) (by omega) (fun j => by first | trivial | decide | rfl | exact Or.inl rfl | exact Or.inr (Or.inl (by decide)) | (refine ⟨?_, ?_⟩ <;> decide)) (by rw [hRc]; omega) (by rw [hRs]; omega) dX5_init_67 (fun H_81 hfr_81 hh_81 => ?_)
  have hh_81 : jSt (dC, dI) B base G0 (va_up G_70 H_79.size (some (290, 13))) EX5_initW s.heap ((((((((((0 + 1) + (4)) + 1) + (4)) + 1) + (6)) + 1) + 1) + 1) + 1) ((((((((((0 + 4) + (32903)) + 11) + (6003)) + 9) + (0)) + 13) + 13) + 1) + 13) [] [] [(jFun, jUN dC dI ca G_70 0 qu_41 qr_41), (jFs11, jSef dC dI G_70)] H_81 locs_79 := hh_81
  have hM_81 : jNk [11] G_70 (va_up G_70 H_79.size (some (290, 13))) := jNk.new (by decide)
  have hW_81 : jNk [0, 1, 2, 3, 4, 5, 6, 7, 8, 9, 10, 11, 12, 13, 14, 15, 16, 17, 175] G_70 (va_up G_70 H_79.size (some (290, 13))) := jNk.new (by decide)
  have hN_81 : (jNk [0, 1, 2, 3, 4, 5, 6, 9, 10, 13, 14, 15, 16, 17]) G_70 (va_up G_70 H_79.size (some (290, 13))) := jNk.new (by decide)
  have hgn_81 : (va_up G_70 H_79.size (some (290, 13))) H_79.size = some (290, 13) := jUp_self
  have hle_81 : jLe G_70 (va_up G_70 H_79.size (some (290, 13))) := jLe.new hh_79.2.1.fresh
  have hke_81 : jKe G_70 (va_up G_70 H_79.size (some (290, 13))) H_79 H_81 := jKe.new hfr_81
  have hsy_81 : s.heap.size ≤ H_79.size := hh_79.1.1
  generalize (va_up G_70 H_79.size (some (290, 13))) = G_81 at hN_81 hgn_81 hle_81 hke_81 hh_81 hM_81 hW_81
  clear hh_79
  have hNn_81 : (jNk [0, 1, 2, 3, 4, 5, 6, 9, 10, 13, 14, 15, 16, 17]) G0 G_81 := (hNn_70).tr hN_81
  have hkp_82 := hkp_80.tr hke_81
  have hraw_83n := hke_81.nr hraw_79.lt hraw_72n
  have hraw_83 := hraw_79.kept (hke_81.1 _ hraw_79.lt)
  have hd_84 := jUN.grow (r := 0) (hh_81.iv 0 rfl) hle_81 hW_81 (by decide) (by decide)
  have hh_85 := hh_81.sub (L1 := []) [] rfl (M1 := []) [] rfl (I1 := [(jFs11, jSef dC dI G_70)]) [1] rfl
  clear hh_81
  have hh_86 := hh_85.addI (jUN.ie hd_84)
  clear hh_85
  have hd_87 := jSef.grow (hh_86.iv 1 rfl) hle_81 hM_81 (by decide)
  have hh_88 := hh_86.sub (L1 := []) [] rfl (M1 := []) [] rfl (I1 := [(jFun, jUN dC dI ca G_81 0 qu_41 qr_41)]) [0] rfl
  clear hh_86
  have hh_89 := hh_88.addI (jSef.ie hd_87)
  clear hh_88
  refine j7_putRF hx hb hown hK hh_89 hB hAp hraw_83 hraw_83n hbr0 (C := RX5) (T := TX5) (N := 11) rfl (i := 6) (by decide) (Nat.le_of_ble_eq_true rfl) hly_7_6 rfl hin2 rfl hlk_44 (ty := (.array .int)) (v := .ref H_79.size) (by decide +kernel) rfl rfl dX5_init_69 (fun H_90 locs_90 hraw_90 hr_90 hh_90 => ?_)
  have hraw_90 : va_at (dC, dI) vwCl (r0, .inr (7, [.ref s.heap.size, .ref H_16.size, .ref H_34.size, .ref H_46.size, .ref H_57.size, .ref H_68.size, .ref H_79.size, .null, .null, .null, .int 0])) H_90 := hraw_90
  have hkp_91 := hkp_82.put hr_90
  clear hh_89
  refine lv_aload_n hx hb dX5_init_72 rfl (lv_at hl 0 rfl) ?_
  refine lv_bipush (v := 13) hx hb dX5_init_73 (by decide) ?_
  have hsz_92 := hh_90.2.2.2.2.2.1
  have htt_92 := hh_90.2.2.2.2.2.2.1
  refine j7_newiK hx hb hK hh_90 hB (atype := .int) (ty := .int) (htw (.arrayClass .int) (jWr_3 _ (List.mem_of_getElem? (i := 20) rfl))) rfl rfl (fun _ h => h) hB291 1 rfl (by decide) (by decide) hbs (x := 13) (by decide) (by omega) (fun j => by first | trivial | decide | rfl | exact Or.inl rfl | exact Or.inr (Or.inl (by decide)) | (refine ⟨?_, ?_⟩ <;> decide)) (by rw [hRc]; omega) (by rw [hRs]; omega) dX5_init_75 (fun H_92 hfr_92 hh_92 => ?_)
  have hh_92 : jSt (dC, dI) B base G0 (va_up G_81 H_90.size (some (291, 13))) EX5_initW s.heap (((((((((((0 + 1) + (4)) + 1) + (4)) + 1) + (6)) + 1) + 1) + 1) + 1) + 1) (((((((((((0 + 4) + (32903)) + 11) + (6003)) + 9) + (0)) + 13) + 13) + 1) + 13) + 13) [] [] [(jFs11, jSef dC dI G_81), (jFun, jUN dC dI ca G_81 0 qu_41 qr_41)] H_92 locs_90 := hh_92
  have hM_92 : jNk [11] G_81 (va_up G_81 H_90.size (some (291, 13))) := jNk.new (by decide)
  have hW_92 : jNk [0, 1, 2, 3, 4, 5, 6, 7, 8, 9, 10, 11, 12, 13, 14, 15, 16, 17, 175] G_81 (va_up G_81 H_90.size (some (291, 13))) := jNk.new (by decide)
  have hN_92 : (jNk [0, 1, 2, 3, 4, 5, 6, 9, 10, 13, 14, 15, 16, 17]) G_81 (va_up G_81 H_90.size (some (291, 13))) := jNk.new (by decide)
  have hgn_92 : (va_up G_81 H_90.size (some (291, 13))) H_90.size = some (291, 13) := jUp_self
  have hle_92 : jLe G_81 (va_up G_81 H_90.size (some (291, 13))) := jLe.new hh_90.2.1.fresh
  have hke_92 : jKe G_81 (va_up G_81 H_90.size (some (291, 13))) H_90 H_92 := jKe.new hfr_92
  have hsy_92 : s.heap.size ≤ H_90.size := hh_90.1.1
  generalize (va_up G_81 H_90.size (some (291, 13))) = G_92 at hN_92 hgn_92 hle_92 hke_92 hh_92 hM_92 hW_92
  clear hh_90
  have hNn_92 : (jNk [0, 1, 2, 3, 4, 5, 6, 9, 10, 13, 14, 15, 16, 17]) G0 G_92 := (hNn_81).tr hN_92
  have hkp_93 := hkp_91.tr hke_92
  have hraw_94n := hke_92.nr hraw_90.lt hraw_83n
  have hraw_94 := hraw_90.kept (hke_92.1 _ hraw_90.lt)
  have hd_95 := jSef.grow (hh_92.iv 0 rfl) hle_92 hM_92 (by decide)
  have hh_96 := hh_92.sub (L1 := []) [] rfl (M1 := []) [] rfl (I1 := [(jFun, jUN dC dI ca G_81 0 qu_41 qr_41)]) [1] rfl
  clear hh_92
  have hh_97 := hh_96.addI (jSef.ie hd_95)
  clear hh_96
  have hd_98 := jUN.grow (r := 0) (hh_97.iv 1 rfl) hle_92 hW_92 (by decide) (by decide)
  have hh_99 := hh_97.sub (L1 := []) [] rfl (M1 := []) [] rfl (I1 := [(jFs11, jSef dC dI G_92)]) [0] rfl
  clear hh_97
  have hh_100 := hh_99.addI (jUN.ie hd_98)
  clear hh_99
  refine j7_putRF hx hb hown hK hh_100 hB hAp hraw_94 hraw_94n hbr0 (C := RX5) (T := TX5) (N := 11) rfl (i := 7) (by decide) (Nat.le_of_ble_eq_true rfl) hly_7_7 rfl hin2 rfl hlk_47 (ty := (.array .int)) (v := .ref H_90.size) (by decide +kernel) rfl rfl dX5_init_77 (fun H_101 locs_101 hraw_101 hr_101 hh_101 => ?_)
  have hraw_101 : va_at (dC, dI) vwCl (r0, .inr (7, [.ref s.heap.size, .ref H_16.size, .ref H_34.size, .ref H_46.size, .ref H_57.size, .ref H_68.size, .ref H_79.size, .ref H_90.size, .null, .null, .int 0])) H_101 := hraw_101
  have hkp_102 := hkp_93.put hr_101
  clear hh_100
  refine lv_aload_n hx hb dX5_init_80 rfl (lv_at hl 0 rfl) ?_
  refine lv_iconst (v := 1) hx hb dX5_init_81 (by decide) ?_
  have hsz_103 := hh_101.2.2.2.2.2.1
  have htt_103 := hh_101.2.2.2.2.2.2.1
  refine j7_newiK hx hb hK hh_101 hB (atype := .int) (ty := .int) (htw (.arrayClass .int) (jWr_3 _ (List.mem_of_getElem? (i := 20) rfl))) rfl rfl (fun _ h => h) hB280 1 rfl (by decide) (by decide) hbs (x := 1) (by decide) (by omega) (fun j => by first | trivial | decide | rfl | exact Or.inl rfl | exact Or.inr (Or.inl (by decide)) | (refine ⟨?_, ?_⟩ <;> decide)) (by rw [hRc]; omega) (by rw [hRs]; omega) dX5_init_82 (fun H_103 hfr_103 hh_103 => ?_)
  have hh_103 : jSt (dC, dI) B base G0 (va_up G_92 H_101.size (some (280, 1))) EX5_initW s.heap ((((((((((((0 + 1) + (4)) + 1) + (4)) + 1) + (6)) + 1) + 1) + 1) + 1) + 1) + 1) ((((((((((((0 + 4) + (32903)) + 11) + (6003)) + 9) + (0)) + 13) + 13) + 1) + 13) + 13) + 1) [] [] [(jFun, jUN dC dI ca G_92 0 qu_41 qr_41), (jFs11, jSef dC dI G_92)] H_103 locs_101 := hh_103
  have hM_103 : jNk [11] G_92 (va_up G_92 H_101.size (some (280, 1))) := jNk.new (by decide)
  have hW_103 : jNk [0, 1, 2, 3, 4, 5, 6, 7, 8, 9, 10, 11, 12, 13, 14, 15, 16, 17, 175] G_92 (va_up G_92 H_101.size (some (280, 1))) := jNk.new (by decide)
  have hN_103 : (jNk [0, 1, 2, 3, 4, 5, 6, 9, 10, 13, 14, 15, 16, 17]) G_92 (va_up G_92 H_101.size (some (280, 1))) := jNk.new (by decide)
  have hgn_103 : (va_up G_92 H_101.size (some (280, 1))) H_101.size = some (280, 1) := jUp_self
  have hle_103 : jLe G_92 (va_up G_92 H_101.size (some (280, 1))) := jLe.new hh_101.2.1.fresh
  have hke_103 : jKe G_92 (va_up G_92 H_101.size (some (280, 1))) H_101 H_103 := jKe.new hfr_103
  have hsy_103 : s.heap.size ≤ H_101.size := hh_101.1.1
  generalize (va_up G_92 H_101.size (some (280, 1))) = G_103 at hN_103 hgn_103 hle_103 hke_103 hh_103 hM_103 hW_103
  clear hh_101
  have hNn_103 : (jNk [0, 1, 2, 3, 4, 5, 6, 9, 10, 13, 14, 15, 16, 17]) G0 G_103 := (hNn_92).tr hN_103
  have hkp_104 := hkp_102.tr hke_103
  have hraw_105n := hke_103.nr hraw_101.lt hraw_94n
  have hraw_105 := hraw_101.kept (hke_103.1 _ hraw_101.lt)
  have hd_106 := jUN.grow (r := 0) (hh_103.iv 0 rfl) hle_103 hW_103 (by decide) (by decide)
  have hh_107 := hh_103.sub (L1 := []) [] rfl (M1 := []) [] rfl (I1 := [(jFs11, jSef dC dI G_92)]) [1] rfl
  clear hh_103
  have hh_108 := hh_107.addI (jUN.ie hd_106)
  clear hh_107
  have hd_109 := jSef.grow (hh_108.iv 1 rfl) hle_103 hM_103 (by decide)
  have hh_110 := hh_108.sub (L1 := []) [] rfl (M1 := []) [] rfl (I1 := [(jFun, jUN dC dI ca G_103 0 qu_41 qr_41)]) [0] rfl
  clear hh_108
  have hh_111 := hh_110.addI (jSef.ie hd_109)
  clear hh_110
  refine j7_putRF hx hb hown hK hh_111 hB hAp hraw_105 hraw_105n hbr0 (C := RX5) (T := TX5) (N := 11) rfl (i := 8) (by decide) (Nat.le_of_ble_eq_true rfl) hly_7_8 rfl hin2 rfl hlk_50 (ty := (.array .int)) (v := .ref H_101.size) (by decide +kernel) rfl rfl dX5_init_84 (fun H_112 locs_112 hraw_112 hr_112 hh_112 => ?_)
  have hraw_112 : va_at (dC, dI) vwCl (r0, .inr (7, [.ref s.heap.size, .ref H_16.size, .ref H_34.size, .ref H_46.size, .ref H_57.size, .ref H_68.size, .ref H_79.size, .ref H_90.size, .ref H_101.size, .null, .int 0])) H_112 := hraw_112
  have hkp_113 := hkp_104.put hr_112
  clear hh_111
  refine lv_aload_n hx hb dX5_init_87 rfl (lv_at hl 0 rfl) ?_
  refine lv_bipush (v := 6) hx hb dX5_init_88 (by decide) ?_
  have hsz_114 := hh_112.2.2.2.2.2.1
  have htt_114 := hh_112.2.2.2.2.2.2.1
  have hsy_114 : s.heap.size ≤ H_112.size := hh_112.1.1
  refine j7_newqK hx hb hown (htw (.classLink RX5 53 RX3) (jWr_5 _ (List.mem_of_getElem? (i := 2) rfl))) hK6.2.2.2 hK2 hh_112 hB hB211 3 rfl (by decide) hbs (x := 6) (by decide) (by omega) (fun _ => Or.inl rfl) (by rw [hRc]; omega) (by rw [hRs]; omega) dX5_init_90 (fun H_114 hfr_114 hh_114 hqn_114 => ?_)
  have hh_114 : jSt (dC, dI) B base G0 (va_up G_103 H_112.size (some (211, 6))) EX5_initW s.heap (((((((((((((0 + 1) + (4)) + 1) + (4)) + 1) + (6)) + 1) + 1) + 1) + 1) + 1) + 1) + 1) (((((((((((((0 + 4) + (32903)) + 11) + (6003)) + 9) + (0)) + 13) + 13) + 1) + 13) + 13) + 1) + 6) [] [] [(jFs11, jSef dC dI G_103), (jFun, jUN dC dI ca G_103 0 qu_41 qr_41)] H_114 locs_112 := hh_114
  have hM_114 : jNk [11] G_103 (va_up G_103 H_112.size (some (211, 6))) := jNk.new (by decide)
  have hW_114 : jNk [0, 1, 2, 3, 4, 5, 6, 7, 8, 9, 10, 11, 12, 13, 14, 15, 16, 17, 175] G_103 (va_up G_103 H_112.size (some (211, 6))) := jNk.new (by decide)
  have hN_114 : (jNk [0, 1, 2, 3, 4, 5, 6, 9, 10, 13, 14, 15, 16, 17]) G_103 (va_up G_103 H_112.size (some (211, 6))) := jNk.new (by decide)
  have hgn_114 : (va_up G_103 H_112.size (some (211, 6))) H_112.size = some (211, 6) := jUp_self
  have hle_114 : jLe G_103 (va_up G_103 H_112.size (some (211, 6))) := jLe.new hh_112.2.1.fresh
  have hke_114 : jKe G_103 (va_up G_103 H_112.size (some (211, 6))) H_112 H_114 := jKe.new hfr_114
  have hsy_114 : s.heap.size ≤ H_112.size := hh_112.1.1
  generalize (va_up G_103 H_112.size (some (211, 6))) = G_114 at hN_114 hgn_114 hle_114 hke_114 hh_114 hM_114 hW_114
  clear hh_112
  have hNn_114 : (jNk [0, 1, 2, 3, 4, 5, 6, 9, 10, 13, 14, 15, 16, 17]) G0 G_114 := (hNn_103).tr hN_114
  have hkp_115 := hkp_113.tr hke_114
  have hraw_116n := hke_114.nr hraw_112.lt hraw_105n
  have hraw_116 := hraw_112.kept (hke_114.1 _ hraw_112.lt)
  have hd_117 := jSef.grow (hh_114.iv 0 rfl) hle_114 hM_114 (by decide)
  have hh_118 := hh_114.sub (L1 := []) [] rfl (M1 := []) [] rfl (I1 := [(jFun, jUN dC dI ca G_103 0 qu_41 qr_41)]) [1] rfl
  clear hh_114
  have hh_119 := hh_118.addI (jSef.ie hd_117)
  clear hh_118
  have hd_120 := jUN.grow (r := 0) (hh_119.iv 1 rfl) hle_114 hW_114 (by decide) (by decide)
  have hh_121 := hh_119.sub (L1 := []) [] rfl (M1 := []) [] rfl (I1 := [(jFs11, jSef dC dI G_114)]) [0] rfl
  clear hh_119
  have hh_122 := hh_121.addI (jUN.ie hd_120)
  clear hh_121
  refine j7_putRF hx hb hown hK hh_122 hB hAp hraw_116 hraw_116n hbr0 (C := RX5) (T := TX5) (N := 11) rfl (i := 9) (by decide) (Nat.le_of_ble_eq_true rfl) hly_7_9 rfl hin2 rfl hlk_55 (ty := (.array (.object "ProofServer$Goal"))) (v := .ref H_112.size) (by decide +kernel) rfl rfl dX5_init_93 (fun H_123 locs_123 hraw_123 hr_123 hh_123 => ?_)
  have hraw_123 : va_at (dC, dI) vwCl (r0, .inr (7, [.ref s.heap.size, .ref H_16.size, .ref H_34.size, .ref H_46.size, .ref H_57.size, .ref H_68.size, .ref H_79.size, .ref H_90.size, .ref H_101.size, .ref H_112.size, .int 0])) H_123 := hraw_123
  have hkp_124 := hkp_115.put hr_123
  clear hh_122
  have hsz_125 := hh_123.2.2.2.2.2.1
  have htt_125 := hh_123.2.2.2.2.2.2.1
  refine W.room (fun hrc_125 hrs_125 => ?_)
  refine W.widen (k := LC - s.heap.size) (n := LS - jTot s.heap) (by omega) (by omega) ?_
  rw [hQ]
  have hle_126 : jLe G_114 (va_up G_114 r0 (some (7, 0))) := jLe.typ hraw_116n
  have hg_127 := (((((((((hb_242).tr hb_412).tr hle_48).tr hle_59).tr hle_70).tr hle_81).tr hle_92).tr hle_103).tr hle_114).tr hle_126 _ _ hgc_6
  have hg_128 := ((((((((hb_412).tr hle_48).tr hle_59).tr hle_70).tr hle_81).tr hle_92).tr hle_103).tr hle_114).tr hle_126 _ _ hgc_24
  have hg_129 := (((((((hle_48).tr hle_59).tr hle_70).tr hle_81).tr hle_92).tr hle_103).tr hle_114).tr hle_126 _ _ hgc_41
  have hg_130 := ((((((hle_59).tr hle_70).tr hle_81).tr hle_92).tr hle_103).tr hle_114).tr hle_126 _ _ hgn_48
  have hg_131 := (((((hle_70).tr hle_81).tr hle_92).tr hle_103).tr hle_114).tr hle_126 _ _ hgn_59
  have hg_132 := ((((hle_81).tr hle_92).tr hle_103).tr hle_114).tr hle_126 _ _ hgn_70
  have hg_133 := (((hle_92).tr hle_103).tr hle_114).tr hle_126 _ _ hgn_81
  have hg_134 := ((hle_103).tr hle_114).tr hle_126 _ _ hgn_92
  have hg_135 := (hle_114).tr hle_126 _ _ hgn_103
  have hg_136 := (jLe.rf).tr hle_126 _ _ hgn_114
  have hfa_126 : jRf (va_up G_114 r0 (some (7, 0))) 8 0 (.ref s.heap.size) ∧ jRf (va_up G_114 r0 (some (7, 0))) 12 0 (.ref H_16.size) ∧ jRf (va_up G_114 r0 (some (7, 0))) 11 0 (.ref H_34.size) ∧ jRf (va_up G_114 r0 (some (7, 0))) 101 13 (.ref H_46.size) ∧ jRf (va_up G_114 r0 (some (7, 0))) 101 13 (.ref H_57.size) ∧ jRk (va_up G_114 r0 (some (7, 0))) 280 3000 (.ref H_68.size) ∧ jRf (va_up G_114 r0 (some (7, 0))) 290 13 (.ref H_79.size) ∧ jRf (va_up G_114 r0 (some (7, 0))) 291 13 (.ref H_90.size) ∧ jRf (va_up G_114 r0 (some (7, 0))) 280 1 (.ref H_101.size) ∧ jRf (va_up G_114 r0 (some (7, 0))) 211 6 (.ref H_112.size) ∧ jI 0 1000000 (.int 0) ∧ True := ⟨⟨_, rfl, hg_127⟩, ⟨_, rfl, hg_128⟩, ⟨_, rfl, hg_129⟩, ⟨_, rfl, hg_130⟩, ⟨_, rfl, hg_131⟩, ⟨_, _, rfl, hg_132, by omega⟩, ⟨_, rfl, hg_133⟩, ⟨_, rfl, hg_134⟩, ⟨_, rfl, hg_135⟩, ⟨_, rfl, hg_136⟩, ⟨_, rfl, by omega, by omega⟩, trivial⟩
  have hh_126 := hh_123.typ (k := 7) (n := 0) hB hraw_116n hbr0 hraw_123.lt (jOb.of (C := RX5) (T := TX5) (N := 11) (F := F7) hB7 rfl hraw_123 (show jFx (F7 0 (va_up G_114 r0 (some (7, 0)))) [.ref s.heap.size, .ref H_16.size, .ref H_34.size, .ref H_46.size, .ref H_57.size, .ref H_68.size, .ref H_79.size, .ref H_90.size, .ref H_101.size, .ref H_112.size, .int 0] from hfa_126))
  have hgn_126 : (va_up G_114 r0 (some (7, 0))) r0 = some (7, 0) := jUp_self
  have hN_126 : (jNk [0, 1, 2, 3, 4, 5, 6, 9, 10, 13, 14, 15, 16, 17]) G_114 (va_up G_114 r0 (some (7, 0))) := jNk.new (by decide)
  have hNn_126 : (jNk [0, 1, 2, 3, 4, 5, 6, 9, 10, 13, 14, 15, 16, 17]) G0 (va_up G_114 r0 (some (7, 0))) := (hNn_114).tr hN_126
  have hkp_137 := hkp_124.typ (t := some (7, 0))
  have hg_138 := ((((((((hle_48).tr hle_59).tr hle_70).tr hle_81).tr hle_92).tr hle_103).tr hle_114).tr hle_126) _ _ hgc_41
  have hg_139 := ((((((((hle_48).tr hle_59).tr hle_70).tr hle_81).tr hle_92).tr hle_103).tr hle_114).tr hle_126) _ _ hgc_41
  have hh_140 := hh_126.more (P1 := [(r0, 7, 2, .ref H_34.size), (r0, 7, 2, .ref H_34.size)]) (jP.cons hgn_126 (jf.raw (C := RX5) (T := TX5) (N := 11) rfl hraw_123 (i := 2) (by decide)) (jP.cons hgn_126 (jf.raw (C := RX5) (T := TX5) (N := 11) rfl hraw_123 (i := 2) (by decide)) jP.nil))
  have hM_126 : jNk [11] G_114 (va_up G_114 r0 (some (7, 0))) := jNk.new (by decide)
  have hW_126 : jNk [0, 1, 2, 3, 4, 5, 6, 8, 9, 10, 11, 12, 13, 14, 15, 16, 17, 175] G_114 (va_up G_114 r0 (some (7, 0))) := jNk.new (by decide)
  have hd_141 := jUN.grow (r := 0) (hh_140.iv 0 rfl) hle_126 hW_126 (by decide) (by decide)
  have hh_142 := hh_140.sub (L1 := [(r0, 7, 2, .ref H_34.size), (r0, 7, 2, .ref H_34.size)]) [0, 1] rfl (M1 := []) [] rfl (I1 := [(jFs11, jSef dC dI G_114)]) [1] rfl
  clear hh_140
  have hh_143 := hh_142.addI (jUN.ie hd_141)
  clear hh_142
  have hd_144 := jSef.grow (hh_143.iv 1 rfl) hle_126 hM_126 (by decide)
  have hh_145 := hh_143.sub (L1 := [(r0, 7, 2, .ref H_34.size), (r0, 7, 2, .ref H_34.size)]) [0, 1] rfl (M1 := []) [] rfl (I1 := [(jFun, jUN dC dI ca (va_up G_114 r0 (some (7, 0))) 0 qu_41 qr_41)]) [0] rfl
  clear hh_143
  have hh_146 := hh_145.addI (jSef.ie hd_144)
  clear hh_145
  exact W.vret hx hb hr (fun t ht hW => ⟨⟨(H_34.size, 0, qu_41, qr_41, (va_up G_114 r0 (some (7, 0)))), rfl, ⟨by first | rfl | omega, by rw [hr_42]; exact jUf_s _ _ _⟩, ⟨hh_146.ra (by first | (simp only; omega) | omega) (by first | (simp only; omega) | omega) (M1 := [(r0, 7, 2, .ref H_34.size)]) [0] rfl ht, hg_138, hNn_126, hgn_126, by rw [ht]; exact hkp_137, by rw [ht]; exact hh_146.2.2.2.2.2.2.2.2.sub (L1 := [(jFs11, jSef dC dI (va_up G_114 r0 (some (7, 0)))), (jFun, jUN dC dI ca (va_up G_114 r0 (some (7, 0))) 0 qu_41 qr_41)]) [0, 1] rfl⟩⟩, by rw [ht]; try exact hh_146.1.1, fun q h9 hq => by rw [ht]; try exact hh_146.1.2.1 q h9 hq⟩) hh_146.1.2.2 dX5_init_96
end
