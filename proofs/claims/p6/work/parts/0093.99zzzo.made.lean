section
def EX12_initE : List (Nat × Nat) := []
set_option maxHeartbeats 4000000 in
set_option maxRecDepth 20000 in
theorem uX12_initE (l : Launch) (dC : Nat → ClassId) (dI : Nat → Nat → Nat) (ca : Nat → ClassId) (base : Nat) (B : jF) (hB : jBok B) (hAp : jAp (dC, dI)) (hB14 : ∀ n G a H, B 14 n G a H ↔ jOb (dC, dI) 14 11 (F14 n G) a H) (hB190 : ∀ n G a H, B 190 n G a H ↔ jAr (dC, dI) (ca 1) (fun j z => 0 ≤ z.toInt ∧ z.toInt ≤ 1500) n a H) (hB191 : ∀ n G a H, B 191 n G a H ↔ jAr (dC, dI) (ca 1) (fun j z => 0 ≤ z.toInt ∧ z.toInt ≤ 1500) n a H) (hB192 : ∀ n G a H, B 192 n G a H ↔ jAr (dC, dI) (ca 1) (fun j z => 0 ≤ z.toInt ∧ z.toInt ≤ 2) n a H) (hB193 : ∀ n G a H, B 193 n G a H ↔ jAr (dC, dI) (ca 1) (fun j z => True) n a H) (hB194 : ∀ n G a H, B 194 n G a H ↔ jAr (dC, dI) (ca 1) (fun j z => True) n a H) (hB195 : ∀ n G a H, B 195 n G a H ↔ jAr (dC, dI) (ca 1) (fun j z => True) n a H) (G0 : jT) (H0 : Heap) (r0 : Nat) (LC LS : Nat) : Met l yX12_init (jw yX12_init cX12_init 1 none) ({ frames := 1, cells := LC - H0.size, slots := LS - jTot H0, locals := 31 }) (va_Pc [.ref r0] (fun U => U.heap = H0 ∧ jX B base G0 [] H0 ∧ jG dC dI ca base U ∧ va_at (dC, dI) vwCl (r0, .inr (14, [.null, .int 0, .int 0, .null, .int 0, .int 0, .null, .null, .null, .int 0, .null])) H0 ∧ (∀ t, G0 r0 ≠ some t) ∧ base ≤ r0 ∧ jP (dC, dI) G0 H0 [] ∧ jIs (dC, dI) G0 H0 [(jFz9, jDZ dC dI G0)] ∧ H0.size + 6 ≤ LC ∧ jTot H0 + 1700 ≤ LS ∧ True)) (va_Qv (S := jT) (fun u => True) (fun u t => jRa (dC, dI) B base G0 u EX12_initE H0 (6) (1700) [] t.heap ∧ (jNk [0, 1, 2, 3, 4, 5, 6, 7, 8, 9, 10, 11, 12, 13, 15, 16, 17, 175]) G0 u ∧ u r0 = some (14, 0) ∧ jKx r0 G0 u H0 t.heap ∧ jIs (dC, dI) u t.heap [(jFz9, jDZ dC dI u)]) (jA base)) (LC - H0.size) (LS - jTot H0) (jA base) := by
  refine Met.ofW (cc := cX12_init) (maxL := 1) (ret := none) (by decide) rfl ?_
  intro p e s m args below meth c s₁ Bd hml hv
  obtain ⟨rfl, hH0, hX, hG, hraw0, hnr0, hbr0, hP0, hI0, hLC0, hLS0, hp0⟩ := hv
  have hK := hG.1
  have hx := Bd.exec
  have hb := Bd.bytes
  have hr := Bd.returns
  have hts := atoms_spec (ws := (jw yX12_init cX12_init 1 none)) Bd.pre
  have htw : ∀ w ∈ jWl, w.before _ s = true := fun w h => hts w (List.mem_cons_of_mem _ h)
  have hown : s.vm.findClass RX12 = some m.cls := findClass_of_methodNamed Bd.named
  have hlocks := Bd.notSynchronized
  obtain ⟨Q, hQ⟩ : ∃ Q, Q = MQ below (va_Qv (S := jT) (fun u => True) (fun u t => jRa (dC, dI) B base G0 u EX12_initE H0 (6) (1700) [] t.heap ∧ (jNk [0, 1, 2, 3, 4, 5, 6, 7, 8, 9, 10, 11, 12, 13, 15, 16, 17, 175]) G0 u ∧ u r0 = some (14, 0) ∧ jKx r0 G0 u H0 t.heap ∧ jIs (dC, dI) u t.heap [(jFz9, jDZ dC dI u)]) (jA base)) ([.ref r0] : List Value).toArray s (LC - H0.size) (LS - jTot H0) (jA base) := ⟨_, rfl⟩
  rw [← hQ]
  have hl := lv_entry ([.ref r0]) (n := 1) (Nat.le_of_ble_eq_true rfl)
  rw [lg_entry_eq]
  generalize (lg_sl ([.ref r0]) ++ List.replicate (1 - (lg_sl ([.ref r0])).length) Slot.unset).toArray = ls at hl ⊢
  have hl : lv_has ls 1 [(0, .ref r0)] := hl
  generalize hR : (headSpec (jw yX12_init cX12_init 1 none) ({ frames := 1, cells := LC - H0.size, slots := LS - jTot H0, locals := 31 })).room = R
  subst hH0
  have hh : jSt (dC, dI) B base G0 G0 EX12_initE s.heap 0 0 [] [] [(jFz9, jDZ dC dI G0)] s.heap [] := jSt.start hX hP0 jMc.nil hI0
  clear hX hP0
  have hk0 : (0 : Int32).toInt = 0 := by decide
  have hk1 : (1 : Int32).toInt = 1 := by decide
  have hk40 : (40 : Int32).toInt = 40 := by decide
  have hk1500 : (1500 : Int32).toInt = 1500 := by decide
  have hly_14_0 := htw (u_lay RX12 TX12 0) (jWc_wsX120 _ (u_in_lay (by decide)))
  have hly_14_3 := htw (u_lay RX12 TX12 3) (jWc_wsX120 _ (u_in_lay (by decide)))
  have hly_14_6 := htw (u_lay RX12 TX12 6) (jWc_wsX120 _ (u_in_lay (by decide)))
  have hly_14_7 := htw (u_lay RX12 TX12 7) (jWc_wsX120 _ (u_in_lay (by decide)))
  have hly_14_8 := htw (u_lay RX12 TX12 8) (jWc_wsX120 _ (u_in_lay (by decide)))
  have hly_14_10 := htw (u_lay RX12 TX12 10) (jWc_wsX120 _ (u_in_lay (by decide)))
  have hlk_9 := (htw (.fieldLink RX12 9 "ProofServerModel$Document" "uri" "[I") (jWr_13 _ (List.mem_of_getElem? (i := 23) rfl)))
  have hlk_15 := (htw (.fieldLink RX12 15 "ProofServerModel$Document" "text" "[I") (jWr_14 _ (List.mem_of_getElem? (i := 0) rfl)))
  have hlk_18 := (htw (.fieldLink RX12 18 "ProofServerModel$Document" "begin" "[I") (jWr_14 _ (List.mem_of_getElem? (i := 1) rfl)))
  have hlk_21 := (htw (.fieldLink RX12 21 "ProofServerModel$Document" "end" "[I") (jWr_14 _ (List.mem_of_getElem? (i := 2) rfl)))
  have hlk_24 := (htw (.fieldLink RX12 24 "ProofServerModel$Document" "flaw" "[I") (jWr_14 _ (List.mem_of_getElem? (i := 3) rfl)))
  have hlk_27 := (htw (.fieldLink RX12 27 "ProofServerModel$Document" "fault" "[I") (jWr_14 _ (List.mem_of_getElem? (i := 4) rfl)))
  have hbs : base ≤ s.heap.size := Nat.le_of_lt (Nat.lt_of_le_of_lt hbr0 hraw0.lt)
  have hRc : R.cells = LC - s.heap.size := by rw [← hR]; rfl
  have hRs : R.slots = LS - jTot s.heap := by rw [← hR]; rfl
  have hE0 := hh.iv 0 rfl
  have hab0 : ∀ {a : Nat} {t : Nat × Nat}, G0 a = some t → a < s.heap.size := fun ht => (hh.ab ht).2
  have hin2 : meth.name = "<init>" := (name_of_methodNamed Bd.named Bd.method).1
  have hkp : jKx r0 G0 G0 s.heap s.heap := jKx.rf
  refine lv_aload_n hx hb dX12_init_0 rfl (lv_at hl 0 rfl) ?_
  refine W.objInit hx hb hown (htw (.methodLink RX12 3 objectInit) (jWr_13 _ (List.mem_of_getElem? (i := 22) rfl))) (htw (.instanceMethod objectInit) (jWr_1 _ (List.mem_of_getElem? (i := 10) rfl))) (htw (.code objectInit ⟨#[0xb1]⟩ 1 none) (jWr_1 _ (List.mem_of_getElem? (i := 11) rfl))) rfl (by rw [hml]; exact hl.1) rfl dX12_init_1 (by rw [← hR]; exact Nat.le_of_ble_eq_true rfl) (by rw [← hR]; exact Nat.le_of_ble_eq_true rfl) ?_
  refine W.eq (g2 := F0 m 4 ls []) rfl ?_
  refine lv_aload_n hx hb dX12_init_4 rfl (lv_at hl 0 rfl) ?_
  refine lv_bipush (v := 40) hx hb dX12_init_5 (by decide) ?_
  have hsz_1 := hh.2.2.2.2.2.1
  have htt_1 := hh.2.2.2.2.2.2.1
  refine j7_newiK hx hb hK hh hB (atype := .int) (ty := .int) (htw (.arrayClass .int) (jWr_3 _ (List.mem_of_getElem? (i := 20) rfl))) rfl rfl (fun _ h => h) hB195 1 rfl (by decide) (by decide) hbs (x := 40) (by decide) (by omega) (fun j => by first | trivial | decide | rfl | exact Or.inl rfl | exact Or.inr (Or.inl (by decide)) | (refine ⟨?_, ?_⟩ <;> decide)) (by rw [hRc]; omega) (by rw [hRs]; omega) dX12_init_7 (fun H_1 hfr_1 hh_1 => ?_)
  have hh_1 : jSt (dC, dI) B base G0 (va_up G0 s.heap.size (some (195, 40))) EX12_initE s.heap (0 + 1) (0 + 40) [] [] [(jFz9, jDZ dC dI G0)] H_1 [] := hh_1
  have hZ_1 : jN14 G0 (va_up G0 s.heap.size (some (195, 40))) := jN14.new (by decide)
  have hN_1 : (jNk [0, 1, 2, 3, 4, 5, 6, 7, 8, 9, 10, 11, 12, 13, 15, 16, 17, 175]) G0 (va_up G0 s.heap.size (some (195, 40))) := jNk.new (by decide)
  have hgn_1 : (va_up G0 s.heap.size (some (195, 40))) s.heap.size = some (195, 40) := jUp_self
  have hle_1 : jLe G0 (va_up G0 s.heap.size (some (195, 40))) := jLe.new hh.2.1.fresh
  have hke_1 : jKe G0 (va_up G0 s.heap.size (some (195, 40))) s.heap H_1 := jKe.new hfr_1
  have hsy_1 : s.heap.size ≤ s.heap.size := hh.1.1
  generalize (va_up G0 s.heap.size (some (195, 40))) = G_1 at hN_1 hgn_1 hle_1 hke_1 hh_1 hZ_1
  clear hh
  have hNn_1 : (jNk [0, 1, 2, 3, 4, 5, 6, 7, 8, 9, 10, 11, 12, 13, 15, 16, 17, 175]) G0 G_1 := (jNk.rf).tr hN_1
  have hkp_2 := hkp.tr hke_1
  have hraw_3n := hke_1.nr hraw0.lt hnr0
  have hraw_3 := hraw0.kept (hke_1.1 _ hraw0.lt)
  try have hz14_1 : jN14 G0 G_1 := (jN14.rf).tr hZ_1
  have hd_4 := jDZ.grow (hh_1.iv 0 rfl) hle_1 hZ_1
  have hh_5 := hh_1.sub (L1 := []) [] rfl (M1 := []) [] rfl (I1 := []) [] rfl
  clear hh_1
  have hh_6 := hh_5.addI (jDZ.ie hd_4)
  clear hh_5
  refine j7_putRF hx hb hown hK hh_6 hB hAp hraw_3 hraw_3n hbr0 (C := RX12) (T := TX12) (N := 11) rfl (i := 0) (by decide) (Nat.le_of_ble_eq_true rfl) hly_14_0 rfl hin2 rfl hlk_9 (ty := (.array .int)) (v := .ref s.heap.size) (by decide +kernel) rfl rfl dX12_init_9 (fun H_7 locs_7 hraw_7 hr_7 hh_7 => ?_)
  have hraw_7 : va_at (dC, dI) vwCl (r0, .inr (14, [.ref s.heap.size, .int 0, .int 0, .null, .int 0, .int 0, .null, .null, .null, .int 0, .null])) H_7 := hraw_7
  have hkp_8 := hkp_2.put hr_7
  clear hh_6
  refine lv_aload_n hx hb dX12_init_12 rfl (lv_at hl 0 rfl) ?_
  refine lv_sipush (v := 1500) hx hb dX12_init_13 (by decide) ?_
  have hsz_9 := hh_7.2.2.2.2.2.1
  have htt_9 := hh_7.2.2.2.2.2.2.1
  refine j7_newiK hx hb hK hh_7 hB (atype := .int) (ty := .int) (htw (.arrayClass .int) (jWr_3 _ (List.mem_of_getElem? (i := 20) rfl))) rfl rfl (fun _ h => h) hB194 1 rfl (by decide) (by decide) hbs (x := 1500) (by decide) (by omega) (fun j => by first | trivial | decide | rfl | exact Or.inl rfl | exact Or.inr (Or.inl (by decide)) | (refine ⟨?_, ?_⟩ <;> decide)) (by rw [hRc]; omega) (by rw [hRs]; omega) dX12_init_16 (fun H_9 hfr_9 hh_9 => ?_)
  have hh_9 : jSt (dC, dI) B base G0 (va_up G_1 H_7.size (some (194, 1500))) EX12_initE s.heap ((0 + 1) + 1) ((0 + 40) + 1500) [] [] [(jFz9, jDZ dC dI G_1)] H_9 locs_7 := hh_9
  have hZ_9 : jN14 G_1 (va_up G_1 H_7.size (some (194, 1500))) := jN14.new (by decide)
  have hN_9 : (jNk [0, 1, 2, 3, 4, 5, 6, 7, 8, 9, 10, 11, 12, 13, 15, 16, 17, 175]) G_1 (va_up G_1 H_7.size (some (194, 1500))) := jNk.new (by decide)
  have hgn_9 : (va_up G_1 H_7.size (some (194, 1500))) H_7.size = some (194, 1500) := jUp_self
  have hle_9 : jLe G_1 (va_up G_1 H_7.size (some (194, 1500))) := jLe.new hh_7.2.1.fresh
  have hke_9 : jKe G_1 (va_up G_1 H_7.size (some (194, 1500))) H_7 H_9 := jKe.new hfr_9
  have hsy_9 : s.heap.size ≤ H_7.size := hh_7.1.1
  generalize (va_up G_1 H_7.size (some (194, 1500))) = G_9 at hN_9 hgn_9 hle_9 hke_9 hh_9 hZ_9
  clear hh_7
  have hNn_9 : (jNk [0, 1, 2, 3, 4, 5, 6, 7, 8, 9, 10, 11, 12, 13, 15, 16, 17, 175]) G0 G_9 := (hNn_1).tr hN_9
  have hkp_10 := hkp_8.tr hke_9
  have hraw_11n := hke_9.nr hraw_7.lt hraw_3n
  have hraw_11 := hraw_7.kept (hke_9.1 _ hraw_7.lt)
  try have hz14_9 : jN14 G0 G_9 := (hz14_1).tr hZ_9
  have hd_12 := jDZ.grow (hh_9.iv 0 rfl) hle_9 hZ_9
  have hh_13 := hh_9.sub (L1 := []) [] rfl (M1 := []) [] rfl (I1 := []) [] rfl
  clear hh_9
  have hh_14 := hh_13.addI (jDZ.ie hd_12)
  clear hh_13
  refine j7_putRF hx hb hown hK hh_14 hB hAp hraw_11 hraw_11n hbr0 (C := RX12) (T := TX12) (N := 11) rfl (i := 3) (by decide) (Nat.le_of_ble_eq_true rfl) hly_14_3 rfl hin2 rfl hlk_15 (ty := (.array .int)) (v := .ref H_7.size) (by decide +kernel) rfl rfl dX12_init_18 (fun H_15 locs_15 hraw_15 hr_15 hh_15 => ?_)
  have hraw_15 : va_at (dC, dI) vwCl (r0, .inr (14, [.ref s.heap.size, .int 0, .int 0, .ref H_7.size, .int 0, .int 0, .null, .null, .null, .int 0, .null])) H_15 := hraw_15
  have hkp_16 := hkp_10.put hr_15
  clear hh_14
  refine lv_aload_n hx hb dX12_init_21 rfl (lv_at hl 0 rfl) ?_
  refine lv_bipush (v := 40) hx hb dX12_init_22 (by decide) ?_
  have hsz_17 := hh_15.2.2.2.2.2.1
  have htt_17 := hh_15.2.2.2.2.2.2.1
  refine j7_newiK hx hb hK hh_15 hB (atype := .int) (ty := .int) (htw (.arrayClass .int) (jWr_3 _ (List.mem_of_getElem? (i := 20) rfl))) rfl rfl (fun _ h => h) hB190 1 rfl (by decide) (by decide) hbs (x := 40) (by decide) (by omega) (fun j => by first | trivial | decide | rfl | exact Or.inl rfl | exact Or.inr (Or.inl (by decide)) | (refine ⟨?_, ?_⟩ <;> decide)) (by rw [hRc]; omega) (by rw [hRs]; omega) dX12_init_24 (fun H_17 hfr_17 hh_17 => ?_)
  have hh_17 : jSt (dC, dI) B base G0 (va_up G_9 H_15.size (some (190, 40))) EX12_initE s.heap (((0 + 1) + 1) + 1) (((0 + 40) + 1500) + 40) [] [] [(jFz9, jDZ dC dI G_9)] H_17 locs_15 := hh_17
  have hZ_17 : jN14 G_9 (va_up G_9 H_15.size (some (190, 40))) := jN14.new (by decide)
  have hN_17 : (jNk [0, 1, 2, 3, 4, 5, 6, 7, 8, 9, 10, 11, 12, 13, 15, 16, 17, 175]) G_9 (va_up G_9 H_15.size (some (190, 40))) := jNk.new (by decide)
  have hgn_17 : (va_up G_9 H_15.size (some (190, 40))) H_15.size = some (190, 40) := jUp_self
  have hle_17 : jLe G_9 (va_up G_9 H_15.size (some (190, 40))) := jLe.new hh_15.2.1.fresh
  have hke_17 : jKe G_9 (va_up G_9 H_15.size (some (190, 40))) H_15 H_17 := jKe.new hfr_17
  have hsy_17 : s.heap.size ≤ H_15.size := hh_15.1.1
  generalize (va_up G_9 H_15.size (some (190, 40))) = G_17 at hN_17 hgn_17 hle_17 hke_17 hh_17 hZ_17
  clear hh_15
  have hNn_17 : (jNk [0, 1, 2, 3, 4, 5, 6, 7, 8, 9, 10, 11, 12, 13, 15, 16, 17, 175]) G0 G_17 := (hNn_9).tr hN_17
  have hkp_18 := hkp_16.tr hke_17
  have hraw_19n := hke_17.nr hraw_15.lt hraw_11n
  have hraw_19 := hraw_15.kept (hke_17.1 _ hraw_15.lt)
  try have hz14_17 : jN14 G0 G_17 := (hz14_9).tr hZ_17
  have hd_20 := jDZ.grow (hh_17.iv 0 rfl) hle_17 hZ_17
  have hh_21 := hh_17.sub (L1 := []) [] rfl (M1 := []) [] rfl (I1 := []) [] rfl
  clear hh_17
  have hh_22 := hh_21.addI (jDZ.ie hd_20)
  clear hh_21
  refine j7_putRF hx hb hown hK hh_22 hB hAp hraw_19 hraw_19n hbr0 (C := RX12) (T := TX12) (N := 11) rfl (i := 6) (by decide) (Nat.le_of_ble_eq_true rfl) hly_14_6 rfl hin2 rfl hlk_18 (ty := (.array .int)) (v := .ref H_15.size) (by decide +kernel) rfl rfl dX12_init_26 (fun H_23 locs_23 hraw_23 hr_23 hh_23 => ?_)
  have hraw_23 : va_at (dC, dI) vwCl (r0, .inr (14, [.ref s.heap.size, .int 0, .int 0, .ref H_7.size, .int 0, .int 0, .ref H_15.size, .null, .null, .int 0, .null])) H_23 := hraw_23
  have hkp_24 := hkp_18.put hr_23
  clear hh_22
  refine lv_aload_n hx hb dX12_init_29 rfl (lv_at hl 0 rfl) ?_
  refine lv_bipush (v := 40) hx hb dX12_init_30 (by decide) ?_
  have hsz_25 := hh_23.2.2.2.2.2.1
  have htt_25 := hh_23.2.2.2.2.2.2.1
  refine j7_newiK hx hb hK hh_23 hB (atype := .int) (ty := .int) (htw (.arrayClass .int) (jWr_3 _ (List.mem_of_getElem? (i := 20) rfl))) rfl rfl (fun _ h => h) hB191 1 rfl (by decide) (by decide) hbs (x := 40) (by decide) (by omega) (fun j => by first | trivial | decide | rfl | exact Or.inl rfl | exact Or.inr (Or.inl (by decide)) | (refine ⟨?_, ?_⟩ <;> decide)) (by rw [hRc]; omega) (by rw [hRs]; omega) dX12_init_32 (fun H_25 hfr_25 hh_25 => ?_)
  have hh_25 : jSt (dC, dI) B base G0 (va_up G_17 H_23.size (some (191, 40))) EX12_initE s.heap ((((0 + 1) + 1) + 1) + 1) ((((0 + 40) + 1500) + 40) + 40) [] [] [(jFz9, jDZ dC dI G_17)] H_25 locs_23 := hh_25
  have hZ_25 : jN14 G_17 (va_up G_17 H_23.size (some (191, 40))) := jN14.new (by decide)
  have hN_25 : (jNk [0, 1, 2, 3, 4, 5, 6, 7, 8, 9, 10, 11, 12, 13, 15, 16, 17, 175]) G_17 (va_up G_17 H_23.size (some (191, 40))) := jNk.new (by decide)
  have hgn_25 : (va_up G_17 H_23.size (some (191, 40))) H_23.size = some (191, 40) := jUp_self
  have hle_25 : jLe G_17 (va_up G_17 H_23.size (some (191, 40))) := jLe.new hh_23.2.1.fresh
  have hke_25 : jKe G_17 (va_up G_17 H_23.size (some (191, 40))) H_23 H_25 := jKe.new hfr_25
  have hsy_25 : s.heap.size ≤ H_23.size := hh_23.1.1
  generalize (va_up G_17 H_23.size (some (191, 40))) = G_25 at hN_25 hgn_25 hle_25 hke_25 hh_25 hZ_25
  clear hh_23
  have hNn_25 : (jNk [0, 1, 2, 3, 4, 5, 6, 7, 8, 9, 10, 11, 12, 13, 15, 16, 17, 175]) G0 G_25 := (hNn_17).tr hN_25
  have hkp_26 := hkp_24.tr hke_25
  have hraw_27n := hke_25.nr hraw_23.lt hraw_19n
  have hraw_27 := hraw_23.kept (hke_25.1 _ hraw_23.lt)
  try have hz14_25 : jN14 G0 G_25 := (hz14_17).tr hZ_25
  have hd_28 := jDZ.grow (hh_25.iv 0 rfl) hle_25 hZ_25
  have hh_29 := hh_25.sub (L1 := []) [] rfl (M1 := []) [] rfl (I1 := []) [] rfl
  clear hh_25
  have hh_30 := hh_29.addI (jDZ.ie hd_28)
  clear hh_29
  refine j7_putRF hx hb hown hK hh_30 hB hAp hraw_27 hraw_27n hbr0 (C := RX12) (T := TX12) (N := 11) rfl (i := 7) (by decide) (Nat.le_of_ble_eq_true rfl) hly_14_7 rfl hin2 rfl hlk_21 (ty := (.array .int)) (v := .ref H_23.size) (by decide +kernel) rfl rfl dX12_init_34 (fun H_31 locs_31 hraw_31 hr_31 hh_31 => ?_)
  have hraw_31 : va_at (dC, dI) vwCl (r0, .inr (14, [.ref s.heap.size, .int 0, .int 0, .ref H_7.size, .int 0, .int 0, .ref H_15.size, .ref H_23.size, .null, .int 0, .null])) H_31 := hraw_31
  have hkp_32 := hkp_26.put hr_31
  clear hh_30
  refine lv_aload_n hx hb dX12_init_37 rfl (lv_at hl 0 rfl) ?_
  refine lv_bipush (v := 40) hx hb dX12_init_38 (by decide) ?_
  have hsz_33 := hh_31.2.2.2.2.2.1
  have htt_33 := hh_31.2.2.2.2.2.2.1
  refine j7_newiK hx hb hK hh_31 hB (atype := .int) (ty := .int) (htw (.arrayClass .int) (jWr_3 _ (List.mem_of_getElem? (i := 20) rfl))) rfl rfl (fun _ h => h) hB192 1 rfl (by decide) (by decide) hbs (x := 40) (by decide) (by omega) (fun j => by first | trivial | decide | rfl | exact Or.inl rfl | exact Or.inr (Or.inl (by decide)) | (refine ⟨?_, ?_⟩ <;> decide)) (by rw [hRc]; omega) (by rw [hRs]; omega) dX12_init_40 (fun H_33 hfr_33 hh_33 => ?_)
  have hh_33 : jSt (dC, dI) B base G0 (va_up G_25 H_31.size (some (192, 40))) EX12_initE s.heap (((((0 + 1) + 1) + 1) + 1) + 1) (((((0 + 40) + 1500) + 40) + 40) + 40) [] [] [(jFz9, jDZ dC dI G_25)] H_33 locs_31 := hh_33
  have hZ_33 : jN14 G_25 (va_up G_25 H_31.size (some (192, 40))) := jN14.new (by decide)
  have hN_33 : (jNk [0, 1, 2, 3, 4, 5, 6, 7, 8, 9, 10, 11, 12, 13, 15, 16, 17, 175]) G_25 (va_up G_25 H_31.size (some (192, 40))) := jNk.new (by decide)
  have hgn_33 : (va_up G_25 H_31.size (some (192, 40))) H_31.size = some (192, 40) := jUp_self
  have hle_33 : jLe G_25 (va_up G_25 H_31.size (some (192, 40))) := jLe.new hh_31.2.1.fresh
  have hke_33 : jKe G_25 (va_up G_25 H_31.size (some (192, 40))) H_31 H_33 := jKe.new hfr_33
  have hsy_33 : s.heap.size ≤ H_31.size := hh_31.1.1
  generalize (va_up G_25 H_31.size (some (192, 40))) = G_33 at hN_33 hgn_33 hle_33 hke_33 hh_33 hZ_33
  clear hh_31
  have hNn_33 : (jNk [0, 1, 2, 3, 4, 5, 6, 7, 8, 9, 10, 11, 12, 13, 15, 16, 17, 175]) G0 G_33 := (hNn_25).tr hN_33
  have hkp_34 := hkp_32.tr hke_33
  have hraw_35n := hke_33.nr hraw_31.lt hraw_27n
  have hraw_35 := hraw_31.kept (hke_33.1 _ hraw_31.lt)
  try have hz14_33 : jN14 G0 G_33 := (hz14_25).tr hZ_33
  have hd_36 := jDZ.grow (hh_33.iv 0 rfl) hle_33 hZ_33
  have hh_37 := hh_33.sub (L1 := []) [] rfl (M1 := []) [] rfl (I1 := []) [] rfl
  clear hh_33
  have hh_38 := hh_37.addI (jDZ.ie hd_36)
  clear hh_37
  refine j7_putRF hx hb hown hK hh_38 hB hAp hraw_35 hraw_35n hbr0 (C := RX12) (T := TX12) (N := 11) rfl (i := 8) (by decide) (Nat.le_of_ble_eq_true rfl) hly_14_8 rfl hin2 rfl hlk_24 (ty := (.array .int)) (v := .ref H_31.size) (by decide +kernel) rfl rfl dX12_init_42 (fun H_39 locs_39 hraw_39 hr_39 hh_39 => ?_)
  have hraw_39 : va_at (dC, dI) vwCl (r0, .inr (14, [.ref s.heap.size, .int 0, .int 0, .ref H_7.size, .int 0, .int 0, .ref H_15.size, .ref H_23.size, .ref H_31.size, .int 0, .null])) H_39 := hraw_39
  have hkp_40 := hkp_34.put hr_39
  clear hh_38
  refine lv_aload_n hx hb dX12_init_45 rfl (lv_at hl 0 rfl) ?_
  refine lv_bipush (v := 40) hx hb dX12_init_46 (by decide) ?_
  have hsz_41 := hh_39.2.2.2.2.2.1
  have htt_41 := hh_39.2.2.2.2.2.2.1
  refine j7_newiK hx hb hK hh_39 hB (atype := .int) (ty := .int) (htw (.arrayClass .int) (jWr_3 _ (List.mem_of_getElem? (i := 20) rfl))) rfl rfl (fun _ h => h) hB193 1 rfl (by decide) (by decide) hbs (x := 40) (by decide) (by omega) (fun j => by first | trivial | decide | rfl | exact Or.inl rfl | exact Or.inr (Or.inl (by decide)) | (refine ⟨?_, ?_⟩ <;> decide)) (by rw [hRc]; omega) (by rw [hRs]; omega) dX12_init_48 (fun H_41 hfr_41 hh_41 => ?_)
  have hh_41 : jSt (dC, dI) B base G0 (va_up G_33 H_39.size (some (193, 40))) EX12_initE s.heap ((((((0 + 1) + 1) + 1) + 1) + 1) + 1) ((((((0 + 40) + 1500) + 40) + 40) + 40) + 40) [] [] [(jFz9, jDZ dC dI G_33)] H_41 locs_39 := hh_41
  have hZ_41 : jN14 G_33 (va_up G_33 H_39.size (some (193, 40))) := jN14.new (by decide)
  have hN_41 : (jNk [0, 1, 2, 3, 4, 5, 6, 7, 8, 9, 10, 11, 12, 13, 15, 16, 17, 175]) G_33 (va_up G_33 H_39.size (some (193, 40))) := jNk.new (by decide)
  have hgn_41 : (va_up G_33 H_39.size (some (193, 40))) H_39.size = some (193, 40) := jUp_self
  have hle_41 : jLe G_33 (va_up G_33 H_39.size (some (193, 40))) := jLe.new hh_39.2.1.fresh
  have hke_41 : jKe G_33 (va_up G_33 H_39.size (some (193, 40))) H_39 H_41 := jKe.new hfr_41
  have hsy_41 : s.heap.size ≤ H_39.size := hh_39.1.1
  generalize (va_up G_33 H_39.size (some (193, 40))) = G_41 at hN_41 hgn_41 hle_41 hke_41 hh_41 hZ_41
  clear hh_39
  have hNn_41 : (jNk [0, 1, 2, 3, 4, 5, 6, 7, 8, 9, 10, 11, 12, 13, 15, 16, 17, 175]) G0 G_41 := (hNn_33).tr hN_41
  have hkp_42 := hkp_40.tr hke_41
  have hraw_43n := hke_41.nr hraw_39.lt hraw_35n
  have hraw_43 := hraw_39.kept (hke_41.1 _ hraw_39.lt)
  try have hz14_41 : jN14 G0 G_41 := (hz14_33).tr hZ_41
  have hd_44 := jDZ.grow (hh_41.iv 0 rfl) hle_41 hZ_41
  have hh_45 := hh_41.sub (L1 := []) [] rfl (M1 := []) [] rfl (I1 := []) [] rfl
  clear hh_41
  have hh_46 := hh_45.addI (jDZ.ie hd_44)
  clear hh_45
  refine j7_putRF hx hb hown hK hh_46 hB hAp hraw_43 hraw_43n hbr0 (C := RX12) (T := TX12) (N := 11) rfl (i := 10) (by decide) (Nat.le_of_ble_eq_true rfl) hly_14_10 rfl hin2 rfl hlk_27 (ty := (.array .int)) (v := .ref H_39.size) (by decide +kernel) rfl rfl dX12_init_50 (fun H_47 locs_47 hraw_47 hr_47 hh_47 => ?_)
  have hraw_47 : va_at (dC, dI) vwCl (r0, .inr (14, [.ref s.heap.size, .int 0, .int 0, .ref H_7.size, .int 0, .int 0, .ref H_15.size, .ref H_23.size, .ref H_31.size, .int 0, .ref H_39.size])) H_47 := hraw_47
  have hkp_48 := hkp_42.put hr_47
  clear hh_46
  have hsz_49 := hh_47.2.2.2.2.2.1
  have htt_49 := hh_47.2.2.2.2.2.2.1
  refine W.room (fun hrc_49 hrs_49 => ?_)
  refine W.widen (k := LC - s.heap.size) (n := LS - jTot s.heap) (by omega) (by omega) ?_
  rw [hQ]
  have hg_50 := (((hle_25).tr hle_33).tr hle_41) _ _ hgn_17
  have hg_51 := ((hle_33).tr hle_41) _ _ hgn_25
  have hg_53 := ((((hle_17).tr hle_25).tr hle_33).tr hle_41) _ _ hgn_9
  have hg_54 := (((((hle_9).tr hle_17).tr hle_25).tr hle_33).tr hle_41) _ _ hgn_1
  have hg_55 := (hle_41) _ _ hgn_33
  have hd_52 := jDZ.typ (hh_47.iv 0 rfl) hraw_43n (jf.raw (C := RX12) (T := TX12) (N := 11) rfl hraw_47 (i := 5) (by decide)) (jf.raw (C := RX12) (T := TX12) (N := 11) rfl hraw_47 (i := 9) (by decide)) (jf.raw (C := RX12) (T := TX12) (N := 11) rfl hraw_47 (i := 6) (by decide)) (jf.raw (C := RX12) (T := TX12) (N := 11) rfl hraw_47 (i := 7) (by decide)) hg_50 hg_51 (jDZ.fresh hE0 (fun a t ht => hab0 ht) hnr0 hz14_41 hkp_48 hsy_17 hsy_25) (jf.raw (C := RX12) (T := TX12) (N := 11) rfl hraw_47 (i := 1) (by decide)) (jf.raw (C := RX12) (T := TX12) (N := 11) rfl hraw_47 (i := 2) (by decide)) (jf.raw (C := RX12) (T := TX12) (N := 11) rfl hraw_47 (i := 4) (by decide)) (jf.raw (C := RX12) (T := TX12) (N := 11) rfl hraw_47 (i := 3) (by decide)) (jf.raw (C := RX12) (T := TX12) (N := 11) rfl hraw_47 (i := 0) (by decide)) hg_53 hg_54 (jDZ.frest hE0 (fun a t ht => hab0 ht) hnr0 hz14_41 hkp_48 hsy_9 hsy_1) (jf.raw (C := RX12) (T := TX12) (N := 11) rfl hraw_47 (i := 8) (by decide)) hg_55 (jDZ.fresf hE0 (fun a t ht => hab0 ht) hnr0 hz14_41 hkp_48 hsy_33)
  have hh_56 := hh_47.sub (L1 := []) [] rfl (M1 := []) [] rfl (I1 := []) [] rfl
  clear hh_47
  have hle_57 : jLe G_41 (va_up G_41 r0 (some (14, 0))) := jLe.typ hraw_43n
  have hg_58 := (((((hle_9).tr hle_17).tr hle_25).tr hle_33).tr hle_41).tr hle_57 _ _ hgn_1
  have hg_59 := ((((hle_17).tr hle_25).tr hle_33).tr hle_41).tr hle_57 _ _ hgn_9
  have hg_60 := (((hle_25).tr hle_33).tr hle_41).tr hle_57 _ _ hgn_17
  have hg_61 := ((hle_33).tr hle_41).tr hle_57 _ _ hgn_25
  have hg_62 := (hle_41).tr hle_57 _ _ hgn_33
  have hg_63 := (jLe.rf).tr hle_57 _ _ hgn_41
  have hfa_57 : jRf (va_up G_41 r0 (some (14, 0))) 195 40 (.ref s.heap.size) ∧ jI 0 40 (.int 0) ∧ jIa (.int 0) ∧ jRf (va_up G_41 r0 (some (14, 0))) 194 1500 (.ref H_7.size) ∧ jI 0 1500 (.int 0) ∧ jI 0 40 (.int 0) ∧ jRf (va_up G_41 r0 (some (14, 0))) 190 40 (.ref H_15.size) ∧ jRf (va_up G_41 r0 (some (14, 0))) 191 40 (.ref H_23.size) ∧ jRf (va_up G_41 r0 (some (14, 0))) 192 40 (.ref H_31.size) ∧ jI 0 40 (.int 0) ∧ jRf (va_up G_41 r0 (some (14, 0))) 193 40 (.ref H_39.size) ∧ True := ⟨⟨_, rfl, hg_58⟩, ⟨_, rfl, by omega, by omega⟩, ⟨_, rfl⟩, ⟨_, rfl, hg_59⟩, ⟨_, rfl, by omega, by omega⟩, ⟨_, rfl, by omega, by omega⟩, ⟨_, rfl, hg_60⟩, ⟨_, rfl, hg_61⟩, ⟨_, rfl, hg_62⟩, ⟨_, rfl, by omega, by omega⟩, ⟨_, rfl, hg_63⟩, trivial⟩
  have hh_57 := hh_56.typ (k := 14) (n := 0) hB hraw_43n hbr0 hraw_47.lt (jOb.of (C := RX12) (T := TX12) (N := 11) (F := F14) hB14 rfl hraw_47 (show jFx (F14 0 (va_up G_41 r0 (some (14, 0)))) [.ref s.heap.size, .int 0, .int 0, .ref H_7.size, .int 0, .int 0, .ref H_15.size, .ref H_23.size, .ref H_31.size, .int 0, .ref H_39.size] from hfa_57))
  have hgn_57 : (va_up G_41 r0 (some (14, 0))) r0 = some (14, 0) := jUp_self
  have hN_57 : (jNk [0, 1, 2, 3, 4, 5, 6, 7, 8, 9, 10, 11, 12, 13, 15, 16, 17, 175]) G_41 (va_up G_41 r0 (some (14, 0))) := jNk.new (by decide)
  have hNn_57 : (jNk [0, 1, 2, 3, 4, 5, 6, 7, 8, 9, 10, 11, 12, 13, 15, 16, 17, 175]) G0 (va_up G_41 r0 (some (14, 0))) := (hNn_41).tr hN_57
  have hkp_64 := hkp_48.typ (t := some (14, 0))
  have hh_65 := hh_57.addI (jDZ.ie hd_52)
  clear hh_57
  exact W.vret hx hb hr (fun t ht hW => ⟨⟨(va_up G_41 r0 (some (14, 0))), rfl, trivial, ⟨hh_65.ra (by first | (simp only; omega) | omega) (by first | (simp only; omega) | omega) (M1 := []) [] rfl ht, hNn_57, hgn_57, by rw [ht]; exact hkp_64, by rw [ht]; exact hh_65.2.2.2.2.2.2.2.2.sub (L1 := [(jFz9, jDZ dC dI (va_up G_41 r0 (some (14, 0))))]) [0] rfl⟩⟩, by rw [ht]; try exact hh_65.1.1, fun q h9 hq => by rw [ht]; try exact hh_65.1.2.1 q h9 hq⟩) hh_65.1.2.2 dX12_init_53
end
section
theorem dX14_init_0 : decode cX14_init 0 = .ok (.aload_n 0, 1) := by decide +kernel
theorem dX14_init_1 : decode cX14_init 1 = .ok (.invokespecial 1, 3) := by decide +kernel
theorem dX14_init_4 : decode cX14_init 4 = .ok (.aload_n 0, 1) := by decide +kernel
theorem dX14_init_5 : decode cX14_init 5 = .ok (.sipush 4000, 3) := by decide +kernel
theorem dX14_init_8 : decode cX14_init 8 = .ok (.newarray .int, 2) := by decide +kernel
theorem dX14_init_10 : decode cX14_init 10 = .ok (.putfield 9, 3) := by decide +kernel
theorem dX14_init_13 : decode cX14_init 13 = .ok (.aload_n 0, 1) := by decide +kernel
theorem dX14_init_14 : decode cX14_init 14 = .ok (.sipush 20000, 3) := by decide +kernel
theorem dX14_init_17 : decode cX14_init 17 = .ok (.newarray .int, 2) := by decide +kernel
theorem dX14_init_19 : decode cX14_init 19 = .ok (.putfield 13, 3) := by decide +kernel
theorem dX14_init_22 : decode cX14_init 22 = .ok (.aload_n 0, 1) := by decide +kernel
theorem dX14_init_23 : decode cX14_init 23 = .ok (.ldc 16, 2) := by decide +kernel
theorem dX14_init_25 : decode cX14_init 25 = .ok (.newarray .int, 2) := by decide +kernel
theorem dX14_init_27 : decode cX14_init 27 = .ok (.putfield 17, 3) := by decide +kernel
theorem dX14_init_30 : decode cX14_init 30 = .ok (.aload_n 0, 1) := by decide +kernel
theorem dX14_init_31 : decode cX14_init 31 = .ok (.sipush 3300, 3) := by decide +kernel
theorem dX14_init_34 : decode cX14_init 34 = .ok (.newarray .int, 2) := by decide +kernel
theorem dX14_init_36 : decode cX14_init 36 = .ok (.putfield 20, 3) := by decide +kernel
theorem dX14_init_39 : decode cX14_init 39 = .ok (.aload_n 0, 1) := by decide +kernel
theorem dX14_init_40 : decode cX14_init 40 = .ok (.new 23, 3) := by decide +kernel
theorem dX14_init_43 : decode cX14_init 43 = .ok (.dup, 1) := by decide +kernel
theorem dX14_init_44 : decode cX14_init 44 = .ok (.invokespecial 25, 3) := by decide +kernel
theorem dX14_init_47 : decode cX14_init 47 = .ok (.putfield 26, 3) := by decide +kernel
theorem dX14_init_50 : decode cX14_init 50 = .ok (.aload_n 0, 1) := by decide +kernel
theorem dX14_init_51 : decode cX14_init 51 = .ok (.new 23, 3) := by decide +kernel
theorem dX14_init_54 : decode cX14_init 54 = .ok (.dup, 1) := by decide +kernel
theorem dX14_init_55 : decode cX14_init 55 = .ok (.invokespecial 25, 3) := by decide +kernel
theorem dX14_init_58 : decode cX14_init 58 = .ok (.putfield 30, 3) := by decide +kernel
theorem dX14_init_61 : decode cX14_init 61 = .ok (.aload_n 0, 1) := by decide +kernel
theorem dX14_init_62 : decode cX14_init 62 = .ok (.iconst (-1), 1) := by decide +kernel
theorem dX14_init_63 : decode cX14_init 63 = .ok (.putfield 33, 3) := by decide +kernel
theorem dX14_init_66 : decode cX14_init 66 = .ok (.aload_n 0, 1) := by decide +kernel
theorem dX14_init_67 : decode cX14_init 67 = .ok (.sipush 3100, 3) := by decide +kernel
theorem dX14_init_70 : decode cX14_init 70 = .ok (.newarray .int, 2) := by decide +kernel
theorem dX14_init_72 : decode cX14_init 72 = .ok (.putfield 37, 3) := by decide +kernel
theorem dX14_init_75 : decode cX14_init 75 = .ok (.aload_n 0, 1) := by decide +kernel
theorem dX14_init_76 : decode cX14_init 76 = .ok (.sipush 3100, 3) := by decide +kernel
theorem dX14_init_79 : decode cX14_init 79 = .ok (.newarray .int, 2) := by decide +kernel
theorem dX14_init_81 : decode cX14_init 81 = .ok (.putfield 40, 3) := by decide +kernel
theorem dX14_init_84 : decode cX14_init 84 = .ok (.aload_n 0, 1) := by decide +kernel
theorem dX14_init_85 : decode cX14_init 85 = .ok (.sipush 3100, 3) := by decide +kernel
theorem dX14_init_88 : decode cX14_init 88 = .ok (.newarray .int, 2) := by decide +kernel
theorem dX14_init_90 : decode cX14_init 90 = .ok (.putfield 43, 3) := by decide +kernel
theorem dX14_init_93 : decode cX14_init 93 = .ok (.aload_n 0, 1) := by decide +kernel
theorem dX14_init_94 : decode cX14_init 94 = .ok (.sipush 3100, 3) := by decide +kernel
theorem dX14_init_97 : decode cX14_init 97 = .ok (.newarray .int, 2) := by decide +kernel
theorem dX14_init_99 : decode cX14_init 99 = .ok (.putfield 46, 3) := by decide +kernel
theorem dX14_init_102 : decode cX14_init 102 = .ok (.aload_n 0, 1) := by decide +kernel
theorem dX14_init_103 : decode cX14_init 103 = .ok (.sipush 3100, 3) := by decide +kernel
theorem dX14_init_106 : decode cX14_init 106 = .ok (.newarray .int, 2) := by decide +kernel
theorem dX14_init_108 : decode cX14_init 108 = .ok (.putfield 49, 3) := by decide +kernel
theorem dX14_init_111 : decode cX14_init 111 = .ok (.aload_n 0, 1) := by decide +kernel
theorem dX14_init_112 : decode cX14_init 112 = .ok (.sipush 3100, 3) := by decide +kernel
theorem dX14_init_115 : decode cX14_init 115 = .ok (.newarray .int, 2) := by decide +kernel
theorem dX14_init_117 : decode cX14_init 117 = .ok (.putfield 52, 3) := by decide +kernel
theorem dX14_init_120 : decode cX14_init 120 = .ok (.aload_n 0, 1) := by decide +kernel
theorem dX14_init_121 : decode cX14_init 121 = .ok (.sipush 3100, 3) := by decide +kernel
theorem dX14_init_124 : decode cX14_init 124 = .ok (.newarray .int, 2) := by decide +kernel
theorem dX14_init_126 : decode cX14_init 126 = .ok (.putfield 55, 3) := by decide +kernel
theorem dX14_init_129 : decode cX14_init 129 = .ok (.aload_n 0, 1) := by decide +kernel
theorem dX14_init_130 : decode cX14_init 130 = .ok (.sipush 3100, 3) := by decide +kernel
theorem dX14_init_133 : decode cX14_init 133 = .ok (.newarray .boolean, 2) := by decide +kernel
theorem dX14_init_135 : decode cX14_init 135 = .ok (.putfield 58, 3) := by decide +kernel
theorem dX14_init_138 : decode cX14_init 138 = .ok (.aload_n 0, 1) := by decide +kernel
theorem dX14_init_139 : decode cX14_init 139 = .ok (.sipush 3100, 3) := by decide +kernel
theorem dX14_init_142 : decode cX14_init 142 = .ok (.newarray .int, 2) := by decide +kernel
theorem dX14_init_144 : decode cX14_init 144 = .ok (.putfield 62, 3) := by decide +kernel
theorem dX14_init_147 : decode cX14_init 147 = .ok (.aload_n 0, 1) := by decide +kernel
theorem dX14_init_148 : decode cX14_init 148 = .ok (.sipush 3300, 3) := by decide +kernel
theorem dX14_init_151 : decode cX14_init 151 = .ok (.newarray .int, 2) := by decide +kernel
theorem dX14_init_153 : decode cX14_init 153 = .ok (.putfield 65, 3) := by decide +kernel
theorem dX14_init_156 : decode cX14_init 156 = .ok (.aload_n 0, 1) := by decide +kernel
theorem dX14_init_157 : decode cX14_init 157 = .ok (.bipush 20, 2) := by decide +kernel
theorem dX14_init_159 : decode cX14_init 159 = .ok (.newarray .int, 2) := by decide +kernel
theorem dX14_init_161 : decode cX14_init 161 = .ok (.putfield 68, 3) := by decide +kernel
theorem dX14_init_164 : decode cX14_init 164 = .ok (.aload_n 0, 1) := by decide +kernel
theorem dX14_init_165 : decode cX14_init 165 = .ok (.iconst 3, 1) := by decide +kernel
theorem dX14_init_166 : decode cX14_init 166 = .ok (.anewarray 71, 3) := by decide +kernel
theorem dX14_init_169 : decode cX14_init 169 = .ok (.dup, 1) := by decide +kernel
theorem dX14_init_170 : decode cX14_init 170 = .ok (.iconst 0, 1) := by decide +kernel
theorem dX14_init_171 : decode cX14_init 171 = .ok (.new 71, 3) := by decide +kernel
theorem dX14_init_174 : decode cX14_init 174 = .ok (.dup, 1) := by decide +kernel
theorem dX14_init_175 : decode cX14_init 175 = .ok (.invokespecial 73, 3) := by decide +kernel
theorem dX14_init_178 : decode cX14_init 178 = .ok (.aastore, 1) := by decide +kernel
theorem dX14_init_179 : decode cX14_init 179 = .ok (.dup, 1) := by decide +kernel
theorem dX14_init_180 : decode cX14_init 180 = .ok (.iconst 1, 1) := by decide +kernel
theorem dX14_init_181 : decode cX14_init 181 = .ok (.new 71, 3) := by decide +kernel
theorem dX14_init_184 : decode cX14_init 184 = .ok (.dup, 1) := by decide +kernel
theorem dX14_init_185 : decode cX14_init 185 = .ok (.invokespecial 73, 3) := by decide +kernel
theorem dX14_init_188 : decode cX14_init 188 = .ok (.aastore, 1) := by decide +kernel
theorem dX14_init_189 : decode cX14_init 189 = .ok (.dup, 1) := by decide +kernel
theorem dX14_init_190 : decode cX14_init 190 = .ok (.iconst 2, 1) := by decide +kernel
theorem dX14_init_191 : decode cX14_init 191 = .ok (.new 71, 3) := by decide +kernel
theorem dX14_init_194 : decode cX14_init 194 = .ok (.dup, 1) := by decide +kernel
theorem dX14_init_195 : decode cX14_init 195 = .ok (.invokespecial 73, 3) := by decide +kernel
theorem dX14_init_198 : decode cX14_init 198 = .ok (.aastore, 1) := by decide +kernel
theorem dX14_init_199 : decode cX14_init 199 = .ok (.putfield 74, 3) := by decide +kernel
theorem dX14_init_202 : decode cX14_init 202 = .ok (.aload_n 0, 1) := by decide +kernel
theorem dX14_init_203 : decode cX14_init 203 = .ok (.sipush 3100, 3) := by decide +kernel
theorem dX14_init_206 : decode cX14_init 206 = .ok (.newarray .int, 2) := by decide +kernel
theorem dX14_init_208 : decode cX14_init 208 = .ok (.putfield 78, 3) := by decide +kernel
theorem dX14_init_211 : decode cX14_init 211 = .ok (.aload_n 0, 1) := by decide +kernel
theorem dX14_init_212 : decode cX14_init 212 = .ok (.sipush 1500, 3) := by decide +kernel
theorem dX14_init_215 : decode cX14_init 215 = .ok (.newarray .int, 2) := by decide +kernel
theorem dX14_init_217 : decode cX14_init 217 = .ok (.putfield 81, 3) := by decide +kernel
theorem dX14_init_220 : decode cX14_init 220 = .ok (.aload_n 0, 1) := by decide +kernel
theorem dX14_init_221 : decode cX14_init 221 = .ok (.new 71, 3) := by decide +kernel
theorem dX14_init_224 : decode cX14_init 224 = .ok (.dup, 1) := by decide +kernel
theorem dX14_init_225 : decode cX14_init 225 = .ok (.invokespecial 73, 3) := by decide +kernel
theorem dX14_init_228 : decode cX14_init 228 = .ok (.putfield 84, 3) := by decide +kernel
theorem dX14_init_231 : decode cX14_init 231 = .ok (.aload_n 0, 1) := by decide +kernel
theorem dX14_init_232 : decode cX14_init 232 = .ok (.new 71, 3) := by decide +kernel
theorem dX14_init_235 : decode cX14_init 235 = .ok (.dup, 1) := by decide +kernel
theorem dX14_init_236 : decode cX14_init 236 = .ok (.invokespecial 73, 3) := by decide +kernel
theorem dX14_init_239 : decode cX14_init 239 = .ok (.putfield 88, 3) := by decide +kernel
theorem dX14_init_242 : decode cX14_init 242 = .ok (.aload_n 0, 1) := by decide +kernel
theorem dX14_init_243 : decode cX14_init 243 = .ok (.bipush 12, 2) := by decide +kernel
theorem dX14_init_245 : decode cX14_init 245 = .ok (.anewarray 71, 3) := by decide +kernel
theorem dX14_init_248 : decode cX14_init 248 = .ok (.putfield 91, 3) := by decide +kernel
theorem dX14_init_251 : decode cX14_init 251 = .ok (.aload_n 0, 1) := by decide +kernel
theorem dX14_init_252 : decode cX14_init 252 = .ok (.bipush 12, 2) := by decide +kernel
theorem dX14_init_254 : decode cX14_init 254 = .ok (.newarray .boolean, 2) := by decide +kernel
theorem dX14_init_256 : decode cX14_init 256 = .ok (.putfield 94, 3) := by decide +kernel
theorem dX14_init_259 : decode cX14_init 259 = .ok (.aload_n 0, 1) := by decide +kernel
theorem dX14_init_260 : decode cX14_init 260 = .ok (.bipush 12, 2) := by decide +kernel
theorem dX14_init_262 : decode cX14_init 262 = .ok (.newarray .int, 2) := by decide +kernel
theorem dX14_init_264 : decode cX14_init 264 = .ok (.putfield 97, 3) := by decide +kernel
theorem dX14_init_267 : decode cX14_init 267 = .ok (.aload_n 0, 1) := by decide +kernel
theorem dX14_init_268 : decode cX14_init 268 = .ok (.bipush 12, 2) := by decide +kernel
theorem dX14_init_270 : decode cX14_init 270 = .ok (.newarray .boolean, 2) := by decide +kernel
theorem dX14_init_272 : decode cX14_init 272 = .ok (.putfield 100, 3) := by decide +kernel
theorem dX14_init_275 : decode cX14_init 275 = .ok (.aload_n 0, 1) := by decide +kernel
theorem dX14_init_276 : decode cX14_init 276 = .ok (.bipush 12, 2) := by decide +kernel
theorem dX14_init_278 : decode cX14_init 278 = .ok (.newarray .int, 2) := by decide +kernel
theorem dX14_init_280 : decode cX14_init 280 = .ok (.putfield 103, 3) := by decide +kernel
theorem dX14_init_283 : decode cX14_init 283 = .ok (.aload_n 0, 1) := by decide +kernel
theorem dX14_init_284 : decode cX14_init 284 = .ok (.sipush 240, 3) := by decide +kernel
theorem dX14_init_287 : decode cX14_init 287 = .ok (.newarray .int, 2) := by decide +kernel
theorem dX14_init_289 : decode cX14_init 289 = .ok (.putfield 106, 3) := by decide +kernel
theorem dX14_init_292 : decode cX14_init 292 = .ok (.aload_n 0, 1) := by decide +kernel
theorem dX14_init_293 : decode cX14_init 293 = .ok (.bipush 12, 2) := by decide +kernel
theorem dX14_init_295 : decode cX14_init 295 = .ok (.newarray .int, 2) := by decide +kernel
theorem dX14_init_297 : decode cX14_init 297 = .ok (.putfield 109, 3) := by decide +kernel
theorem dX14_init_300 : decode cX14_init 300 = .ok (.aload_n 0, 1) := by decide +kernel
theorem dX14_init_301 : decode cX14_init 301 = .ok (.ldc 112, 2) := by decide +kernel
theorem dX14_init_303 : decode cX14_init 303 = .ok (.newarray .int, 2) := by decide +kernel
theorem dX14_init_305 : decode cX14_init 305 = .ok (.putfield 113, 3) := by decide +kernel
theorem dX14_init_308 : decode cX14_init 308 = .ok (.aload_n 0, 1) := by decide +kernel
theorem dX14_init_309 : decode cX14_init 309 = .ok (.bipush 12, 2) := by decide +kernel
theorem dX14_init_311 : decode cX14_init 311 = .ok (.newarray .int, 2) := by decide +kernel
theorem dX14_init_313 : decode cX14_init 313 = .ok (.putfield 116, 3) := by decide +kernel
theorem dX14_init_316 : decode cX14_init 316 = .ok (.aload_n 0, 1) := by decide +kernel
theorem dX14_init_317 : decode cX14_init 317 = .ok (.new 119, 3) := by decide +kernel
theorem dX14_init_320 : decode cX14_init 320 = .ok (.dup, 1) := by decide +kernel
theorem dX14_init_321 : decode cX14_init 321 = .ok (.invokespecial 121, 3) := by decide +kernel
theorem dX14_init_324 : decode cX14_init 324 = .ok (.putfield 122, 3) := by decide +kernel
theorem dX14_init_327 : decode cX14_init 327 = .ok (.aload_n 0, 1) := by decide +kernel
theorem dX14_init_328 : decode cX14_init 328 = .ok (.sipush 3100, 3) := by decide +kernel
theorem dX14_init_331 : decode cX14_init 331 = .ok (.newarray .int, 2) := by decide +kernel
theorem dX14_init_333 : decode cX14_init 333 = .ok (.putfield 126, 3) := by decide +kernel
theorem dX14_init_336 : decode cX14_init 336 = .ok (.aload_n 0, 1) := by decide +kernel
theorem dX14_init_337 : decode cX14_init 337 = .ok (.iconst 2, 1) := by decide +kernel
theorem dX14_init_338 : decode cX14_init 338 = .ok (.anewarray 71, 3) := by decide +kernel
theorem dX14_init_341 : decode cX14_init 341 = .ok (.putfield 129, 3) := by decide +kernel
theorem dX14_init_344 : decode cX14_init 344 = .ok (.aload_n 0, 1) := by decide +kernel
theorem dX14_init_345 : decode cX14_init 345 = .ok (.iconst 2, 1) := by decide +kernel
theorem dX14_init_346 : decode cX14_init 346 = .ok (.newarray .int, 2) := by decide +kernel
theorem dX14_init_348 : decode cX14_init 348 = .ok (.putfield 132, 3) := by decide +kernel
theorem dX14_init_351 : decode cX14_init 351 = .ok (.aload_n 0, 1) := by decide +kernel
theorem dX14_init_352 : decode cX14_init 352 = .ok (.iconst 2, 1) := by decide +kernel
theorem dX14_init_353 : decode cX14_init 353 = .ok (.newarray .int, 2) := by decide +kernel
theorem dX14_init_355 : decode cX14_init 355 = .ok (.putfield 135, 3) := by decide +kernel
theorem dX14_init_358 : decode cX14_init 358 = .ok (.aload_n 0, 1) := by decide +kernel
theorem dX14_init_359 : decode cX14_init 359 = .ok (.iconst 2, 1) := by decide +kernel
theorem dX14_init_360 : decode cX14_init 360 = .ok (.newarray .boolean, 2) := by decide +kernel
theorem dX14_init_362 : decode cX14_init 362 = .ok (.putfield 138, 3) := by decide +kernel
theorem dX14_init_365 : decode cX14_init 365 = .ok (.aload_n 0, 1) := by decide +kernel
theorem dX14_init_366 : decode cX14_init 366 = .ok (.ldc 141, 2) := by decide +kernel
theorem dX14_init_368 : decode cX14_init 368 = .ok (.newarray .int, 2) := by decide +kernel
theorem dX14_init_370 : decode cX14_init 370 = .ok (.putfield 142, 3) := by decide +kernel
theorem dX14_init_373 : decode cX14_init 373 = .ok (.aload_n 0, 1) := by decide +kernel
theorem dX14_init_374 : decode cX14_init 374 = .ok (.bipush 24, 2) := by decide +kernel
theorem dX14_init_376 : decode cX14_init 376 = .ok (.newarray .int, 2) := by decide +kernel
theorem dX14_init_378 : decode cX14_init 378 = .ok (.putfield 145, 3) := by decide +kernel
theorem dX14_init_381 : decode cX14_init 381 = .ok (.aload_n 0, 1) := by decide +kernel
theorem dX14_init_382 : decode cX14_init 382 = .ok (.sipush 1600, 3) := by decide +kernel
theorem dX14_init_385 : decode cX14_init 385 = .ok (.newarray .int, 2) := by decide +kernel
theorem dX14_init_387 : decode cX14_init 387 = .ok (.putfield 148, 3) := by decide +kernel
theorem dX14_init_390 : decode cX14_init 390 = .ok (.aload_n 0, 1) := by decide +kernel
theorem dX14_init_391 : decode cX14_init 391 = .ok (.new 71, 3) := by decide +kernel
theorem dX14_init_394 : decode cX14_init 394 = .ok (.dup, 1) := by decide +kernel
theorem dX14_init_395 : decode cX14_init 395 = .ok (.invokespecial 73, 3) := by decide +kernel
theorem dX14_init_398 : decode cX14_init 398 = .ok (.putfield 151, 3) := by decide +kernel
theorem dX14_init_401 : decode cX14_init 401 = .ok (.aload_n 0, 1) := by decide +kernel
theorem dX14_init_402 : decode cX14_init 402 = .ok (.bipush 40, 2) := by decide +kernel
theorem dX14_init_404 : decode cX14_init 404 = .ok (.newarray .int, 2) := by decide +kernel
theorem dX14_init_406 : decode cX14_init 406 = .ok (.putfield 154, 3) := by decide +kernel
theorem dX14_init_409 : decode cX14_init 409 = .ok (.aload_n 0, 1) := by decide +kernel
theorem dX14_init_410 : decode cX14_init 410 = .ok (.bipush 40, 2) := by decide +kernel
theorem dX14_init_412 : decode cX14_init 412 = .ok (.newarray .int, 2) := by decide +kernel
theorem dX14_init_414 : decode cX14_init 414 = .ok (.putfield 157, 3) := by decide +kernel
theorem dX14_init_417 : decode cX14_init 417 = .ok (.return_, 1) := by decide +kernel
end
section
def EJ5_init_d00dfV : List (Nat × Nat) := []
def EJ4_init_da8c8V : List (Nat × Nat) := []
set_option maxHeartbeats 4000000 in
set_option maxRecDepth 20000 in
theorem uJ5_init_d00dfV (l : Launch) (dC : Nat → ClassId) (dI : Nat → Nat → Nat) (ca : Nat → ClassId) (base : Nat) (B : jF) (hB : jBok B) (hAp : jAp (dC, dI)) (hB0 : ∀ n G a H, B 0 n G a H ↔ jOb (dC, dI) 0 4 (Fz0 n G) a H) (hB198 : ∀ n G a H, B 198 n G a H ↔ jAr (dC, dI) (ca 0) (fun j z => jBf j z) n a H) (G0 : jT) (H0 : Heap) (r0 : Nat) (a1 : Int32) (LC LS : Nat) : Met l yJ5_init_d00df (jw yJ5_init_d00df cJ5_init_d00df 2 none) ({ frames := 1, cells := LC - H0.size, slots := LS - jTot H0, locals := 31 }) (va_Pc [.ref r0, .int a1] (fun U => U.heap = H0 ∧ jX B base G0 [] H0 ∧ jG dC dI ca base U ∧ va_at (dC, dI) vwCl (r0, .inr (0, [.null, .int 0, .int 0, .int 0])) H0 ∧ (∀ t, G0 r0 ≠ some t) ∧ base ≤ r0 ∧ jP (dC, dI) G0 H0 [] ∧ H0.size + 1 ≤ LC ∧ jTot H0 + a1.toInt.toNat ≤ LS ∧ 1 ≤ a1.toInt ∧ a1.toInt ≤ 400)) (va_Qv (S := Int32 × Nat × Nat × jT) (fun u => u.1.toInt = 0 ∧ u.2.2.1 = a1.toInt ∧ H0.size ≤ u.2.1) (fun u t => jRa (dC, dI) B base G0 u.2.2.2 EJ5_init_d00dfV H0 (1) (a1.toInt.toNat) [(r0, 0, 3, .int u.1), (r0, 0, 0, .ref u.2.1)] t.heap ∧ u.2.2.2 u.2.1 = some (198, u.2.2.1) ∧ (jNk [1, 2, 3, 4, 5, 6, 7, 8, 9, 10, 11, 12, 13, 14, 15, 16, 17, 175]) G0 u.2.2.2 ∧ u.2.2.2 r0 = some (0, 0) ∧ jKx r0 G0 u.2.2.2 H0 t.heap) (jA base)) (LC - H0.size) (LS - jTot H0) (jA base) := by
  refine Met.ofW (cc := cJ5_init_d00df) (maxL := 2) (ret := none) (by decide) rfl ?_
  intro p e s m args below meth c s₁ Bd hml hv
  obtain ⟨rfl, hH0, hX, hG, hraw0, hnr0, hbr0, hP0, hLC0, hLS0, hp0, hp1⟩ := hv
  have hK := hG.1
  have hx := Bd.exec
  have hb := Bd.bytes
  have hr := Bd.returns
  have hts := atoms_spec (ws := (jw yJ5_init_d00df cJ5_init_d00df 2 none)) Bd.pre
  have htw : ∀ w ∈ jWl, w.before _ s = true := fun w h => hts w (List.mem_cons_of_mem _ h)
  have hown : s.vm.findClass RJ5 = some m.cls := findClass_of_methodNamed Bd.named
  have hlocks := Bd.notSynchronized
  obtain ⟨Q, hQ⟩ : ∃ Q, Q = MQ below (va_Qv (S := Int32 × Nat × Nat × jT) (fun u => u.1.toInt = 0 ∧ u.2.2.1 = a1.toInt ∧ H0.size ≤ u.2.1) (fun u t => jRa (dC, dI) B base G0 u.2.2.2 EJ5_init_d00dfV H0 (1) (a1.toInt.toNat) [(r0, 0, 3, .int u.1), (r0, 0, 0, .ref u.2.1)] t.heap ∧ u.2.2.2 u.2.1 = some (198, u.2.2.1) ∧ (jNk [1, 2, 3, 4, 5, 6, 7, 8, 9, 10, 11, 12, 13, 14, 15, 16, 17, 175]) G0 u.2.2.2 ∧ u.2.2.2 r0 = some (0, 0) ∧ jKx r0 G0 u.2.2.2 H0 t.heap) (jA base)) ([.ref r0, .int a1] : List Value).toArray s (LC - H0.size) (LS - jTot H0) (jA base) := ⟨_, rfl⟩
  rw [← hQ]
  have hl := lv_entry ([.ref r0, .int a1]) (n := 2) (Nat.le_of_ble_eq_true rfl)
  rw [lg_entry_eq]
  generalize (lg_sl ([.ref r0, .int a1]) ++ List.replicate (2 - (lg_sl ([.ref r0, .int a1])).length) Slot.unset).toArray = ls at hl ⊢
  have hl : lv_has ls 2 [(0, .ref r0), (1, .int a1)] := hl
  generalize hR : (headSpec (jw yJ5_init_d00df cJ5_init_d00df 2 none) ({ frames := 1, cells := LC - H0.size, slots := LS - jTot H0, locals := 31 })).room = R
  subst hH0
  have hh : jSt (dC, dI) B base G0 G0 EJ5_init_d00dfV s.heap 0 0 [] [] [] s.heap [] := jSt.start hX hP0 jMc.nil jIs.nil
  clear hX hP0
  have hk0 : (0 : Int32).toInt = 0 := by decide
  have hk1 : (1 : Int32).toInt = 1 := by decide
  have hly_0_0 := htw (u_lay RJ4 TJ4 0) (jWc_wsJ40 _ (u_in_lay (by decide)))
  have hly_0_1 := htw (u_lay RJ4 TJ4 1) (jWc_wsJ40 _ (u_in_lay (by decide)))
  have hlk_15 := (htw (.fieldLink RJ5 15 "java/lang/AbstractStringBuilder" "value" "[B") (jWr_13 _ (List.mem_of_getElem? (i := 11) rfl)))
  have hlk_22 := (htw (.fieldLink RJ5 22 "java/lang/AbstractStringBuilder" "coder" "B") (jWr_13 _ (List.mem_of_getElem? (i := 12) rfl)))
  have hrg_a1 := jb_rng a1
  have hbs : base ≤ s.heap.size := Nat.le_of_lt (Nat.lt_of_le_of_lt hbr0 hraw0.lt)
  have hRc : R.cells = LC - s.heap.size := by rw [← hR]; rfl
  have hRs : R.slots = LS - jTot s.heap := by rw [← hR]; rfl
  have hin2 : meth.name = "<init>" := (name_of_methodNamed Bd.named Bd.method).1
  have hkp : jKx r0 G0 G0 s.heap s.heap := jKx.rf
  refine lv_aload_n hx hb dJ5_init_d00df_0 rfl (lv_at hl 0 rfl) ?_
  refine W.objInit hx hb hown (htw (.methodLink RJ5 3 objectInit) (jWr_13 _ (List.mem_of_getElem? (i := 9) rfl))) (htw (.instanceMethod objectInit) (jWr_1 _ (List.mem_of_getElem? (i := 10) rfl))) (htw (.code objectInit ⟨#[0xb1]⟩ 1 none) (jWr_1 _ (List.mem_of_getElem? (i := 11) rfl))) rfl (by rw [hml]; exact hl.1) rfl dJ5_init_d00df_1 (by rw [← hR]; exact Nat.le_of_ble_eq_true rfl) (by rw [← hR]; exact Nat.le_of_ble_eq_true rfl) ?_
  refine W.eq (g2 := F0 m 4 ls []) rfl ?_
  refine va_gets hx hb hG.2.2.2.2.1 hh.1 hown (htw (.fieldLink RJ5 18 "java/lang/String" "COMPACT_STRINGS" "Z") (jWr_13 _ (List.mem_of_getElem? (i := 10) rfl))) (fun _ h9 => h9) dJ5_init_d00df_4 ?_
  refine lv_if_eq (tgt := 25) hx hb dJ5_init_d00df_7 (by decide) (fun c_2 => ?_) (fun c_2 => ?_)
  · skip
    exact absurd c_2 (by decide)
  · skip
    refine lv_aload_n hx hb dJ5_init_d00df_10 rfl (lv_at hl 0 rfl) ?_
    refine lv_iload_n hx hb dJ5_init_d00df_11 rfl (lv_at hl 1 rfl) ?_
    have hsx9 := hh.1.1
    have hsz_3 := hh.2.2.2.2.2.1
    have htt_3 := hh.2.2.2.2.2.2.1
    refine j7_newiK hx hb hK hh hB (atype := .byte) (ty := .byte) (htw (.arrayClass .byte) (jWr_3 _ (List.mem_of_getElem? (i := 9) rfl))) rfl rfl (fun _ h => h) hB198 0 rfl (by decide) (by decide) hbs (x := a1.toInt) rfl (by omega) (fun j => by first | trivial | decide | rfl | exact Or.inl rfl | exact Or.inr (Or.inl (by decide)) | (refine ⟨?_, ?_⟩ <;> decide)) (by rw [hRc]; omega) (by rw [hRs]; omega) dJ5_init_d00df_12 (fun H_3 hfr_3 hh_3 => ?_)
    have hh_3 : jSt (dC, dI) B base G0 (va_up G0 s.heap.size (some (198, (a1.toInt).toNat))) EJ5_init_d00dfV s.heap (0 + 1) (0 + (a1.toInt).toNat) [] [] [] H_3 [] := hh_3
    have hN_3 : (jNk [1, 2, 3, 4, 5, 6, 7, 8, 9, 10, 11, 12, 13, 14, 15, 16, 17, 175]) G0 (va_up G0 s.heap.size (some (198, (a1.toInt).toNat))) := jNk.new (by decide)
    have hgn_3 : (va_up G0 s.heap.size (some (198, (a1.toInt).toNat))) s.heap.size = some (198, (a1.toInt).toNat) := jUp_self
    have hle_3 : jLe G0 (va_up G0 s.heap.size (some (198, (a1.toInt).toNat))) := jLe.new hh.2.1.fresh
    have hke_3 : jKe G0 (va_up G0 s.heap.size (some (198, (a1.toInt).toNat))) s.heap H_3 := jKe.new hfr_3
    have hsy_3 : s.heap.size ≤ s.heap.size := hh.1.1
    generalize (va_up G0 s.heap.size (some (198, (a1.toInt).toNat))) = G_3 at hN_3 hgn_3 hle_3 hke_3 hh_3
    generalize hnc_3 : (a1.toInt).toNat = nc_3 at hgn_3 hh_3 ⊢
    clear hh
    have hNn_3 : (jNk [1, 2, 3, 4, 5, 6, 7, 8, 9, 10, 11, 12, 13, 14, 15, 16, 17, 175]) G0 G_3 := (jNk.rf).tr hN_3
    have hkp_4 := hkp.tr hke_3
    have hraw_5n := hke_3.nr hraw0.lt hnr0
    have hraw_5 := hraw0.kept (hke_3.1 _ hraw0.lt)
    refine j7_putR hx hb hown hK hh_3 hB hAp hraw_5 hraw_5n hbr0 (C := RJ4) (T := TJ4) (N := 4) rfl (i := 0) (by decide) (Nat.le_of_ble_eq_true rfl) hly_0_0 rfl hlk_15 (ty := (.array .byte)) (v := .ref s.heap.size) (by decide +kernel) rfl rfl dJ5_init_d00df_14 (fun H_6 locs_6 hraw_6 hr_6 hh_6 => ?_)
    have hraw_6 : va_at (dC, dI) vwCl (r0, .inr (0, [.ref s.heap.size, .int 0, .int 0, .int 0])) H_6 := hraw_6
    have hkp_7 := hkp_4.put hr_6
    clear hh_3
    refine lv_aload_n hx hb dJ5_init_d00df_17 rfl (lv_at hl 0 rfl) ?_
    refine lv_iconst (v := 0) hx hb dJ5_init_d00df_18 (by decide) ?_
    refine j7_putR hx hb hown hK hh_6 hB hAp hraw_6 hraw_5n hbr0 (C := RJ4) (T := TJ4) (N := 4) rfl (i := 1) (by decide) (Nat.le_of_ble_eq_true rfl) hly_0_1 rfl hlk_22 (ty := .byte) (v := .int 0) (by decide +kernel) rfl rfl dJ5_init_d00df_19 (fun H_8 locs_8 hraw_8 hr_8 hh_8 => ?_)
    have hraw_8 : va_at (dC, dI) vwCl (r0, .inr (0, [.ref s.heap.size, .int 0, .int 0, .int 0])) H_8 := hraw_8
    have hkp_9 := hkp_7.put hr_8
    clear hh_6
    refine lv_goto (tgt := 38) hx hb dJ5_init_d00df_22 (by decide) ?_
    have hsz_10 := hh_8.2.2.2.2.2.1
    have htt_10 := hh_8.2.2.2.2.2.2.1
    refine W.room (fun hrc_10 hrs_10 => ?_)
    refine W.widen (k := LC - s.heap.size) (n := LS - jTot s.heap) (by omega) (by omega) ?_
    rw [hQ]
    have hle_11 : jLe G_3 (va_up G_3 r0 (some (0, 0))) := jLe.typ hraw_5n
    have hg_12 := (jLe.rf).tr hle_11 _ _ hgn_3
    have hfa_11 : jRk (va_up G_3 r0 (some (0, 0))) 198 1000 (.ref s.heap.size) ∧ jI 0 0 (.int 0) ∧ jZb (.int 0) ∧ jI 0 1000 (.int 0) ∧ True := ⟨⟨_, _, rfl, hg_12, by omega⟩, ⟨_, rfl, by omega, by omega⟩, ⟨_, rfl, Or.inl rfl⟩, ⟨_, rfl, by omega, by omega⟩, trivial⟩
    have hh_11 := hh_8.typ (k := 0) (n := 0) hB hraw_5n hbr0 hraw_8.lt (jOb.of (C := RJ4) (T := TJ4) (N := 4) (F := Fz0) hB0 rfl hraw_8 (show jFx (Fz0 0 (va_up G_3 r0 (some (0, 0)))) [.ref s.heap.size, .int 0, .int 0, .int 0] from hfa_11))
    have hgn_11 : (va_up G_3 r0 (some (0, 0))) r0 = some (0, 0) := jUp_self
    have hN_11 : (jNk [1, 2, 3, 4, 5, 6, 7, 8, 9, 10, 11, 12, 13, 14, 15, 16, 17, 175]) G_3 (va_up G_3 r0 (some (0, 0))) := jNk.new (by decide)
    have hNn_11 : (jNk [1, 2, 3, 4, 5, 6, 7, 8, 9, 10, 11, 12, 13, 14, 15, 16, 17, 175]) G0 (va_up G_3 r0 (some (0, 0))) := (hNn_3).tr hN_11
    have hkp_13 := hkp_9.typ (t := some (0, 0))
    have hg_14 := (hle_11) _ _ hgn_3
    have hh_15 := hh_11.more (P1 := [(r0, 0, 3, .int 0), (r0, 0, 0, .ref s.heap.size)]) (jP.cons hgn_11 (jf.raw (C := RJ4) (T := TJ4) (N := 4) rfl hraw_8 (i := 3) (by decide)) (jP.cons hgn_11 (jf.raw (C := RJ4) (T := TJ4) (N := 4) rfl hraw_8 (i := 0) (by decide)) jP.nil))
    exact W.vret hx hb hr (fun t ht hW => ⟨⟨(0, s.heap.size, nc_3, (va_up G_3 r0 (some (0, 0)))), rfl, by (try dsimp only); exact ⟨(by first | omega | rfl | assumption | fail), (by first | omega | rfl | assumption | fail), (by first | omega | rfl | assumption | fail)⟩, ⟨hh_15.ra (by first | (simp only; omega) | omega) (by first | (simp only; omega) | omega) (M1 := [(r0, 0, 3, .int 0), (r0, 0, 0, .ref s.heap.size)]) [0, 1] rfl ht, hg_14, hNn_11, hgn_11, by rw [ht]; exact hkp_13⟩⟩, by rw [ht]; try exact hh_15.1.1, fun q h9 hq => by rw [ht]; try exact hh_15.1.2.1 q h9 hq⟩) hh_15.1.2.2 dJ5_init_d00df_38
set_option maxHeartbeats 4000000 in
set_option maxRecDepth 20000 in
theorem uJ4_init_da8c8V (l : Launch) (dC : Nat → ClassId) (dI : Nat → Nat → Nat) (ca : Nat → ClassId) (base : Nat) (B : jF) (hB : jBok B) (hAp : jAp (dC, dI)) (hB0 : ∀ n G a H, B 0 n G a H ↔ jOb (dC, dI) 0 4 (Fz0 n G) a H) (hB196 : ∀ n G a H, B 196 n G a H ↔ jAr (dC, dI) (ca 0) (fun j z => jBf j z) n a H) (hB198 : ∀ n G a H, B 198 n G a H ↔ jAr (dC, dI) (ca 0) (fun j z => jBf j z) n a H) (G0 : jT) (H0 : Heap) (r0 : Nat) (LC LS : Nat) : Met l yJ4_init_da8c8 (jw yJ4_init_da8c8 cJ4_init_da8c8 1 none) ({ frames := 2, cells := LC - H0.size, slots := LS - jTot H0, locals := 52 }) (va_Pc [.ref r0] (fun U => U.heap = H0 ∧ jX B base G0 [] H0 ∧ jG dC dI ca base U ∧ va_at (dC, dI) vwCl (r0, .inr (0, [.null, .int 0, .int 0, .int 0])) H0 ∧ (∀ t, G0 r0 ≠ some t) ∧ base ≤ r0 ∧ jP (dC, dI) G0 H0 [] ∧ H0.size + 1 ≤ LC ∧ jTot H0 + 16 ≤ LS ∧ True)) (va_Qv (S := Int32 × Nat × Nat × jT) (fun u => u.1.toInt = 0 ∧ u.2.2.1 = 16 ∧ H0.size ≤ u.2.1) (fun u t => jRa (dC, dI) B base G0 u.2.2.2 EJ4_init_da8c8V H0 (1) (16) [(r0, 0, 3, .int u.1), (r0, 0, 0, .ref u.2.1)] t.heap ∧ u.2.2.2 u.2.1 = some (198, u.2.2.1) ∧ (jNk [1, 2, 3, 4, 5, 6, 7, 8, 9, 10, 11, 12, 13, 14, 15, 16, 17, 175]) G0 u.2.2.2 ∧ u.2.2.2 r0 = some (0, 0) ∧ jKx r0 G0 u.2.2.2 H0 t.heap) (jA base)) (LC - H0.size) (LS - jTot H0) (jA base) := by
  refine Met.ofW (cc := cJ4_init_da8c8) (maxL := 1) (ret := none) (by decide) rfl ?_
  intro p e s m args below meth c s₁ Bd hml hv
  obtain ⟨rfl, hH0, hX, hG, hraw0, hnr0, hbr0, hP0, hLC0, hLS0, hp0⟩ := hv
  have hK := hG.1
  have hx := Bd.exec
  have hb := Bd.bytes
  have hr := Bd.returns
  have hts := atoms_spec (ws := (jw yJ4_init_da8c8 cJ4_init_da8c8 1 none)) Bd.pre
  have htw : ∀ w ∈ jWl, w.before _ s = true := fun w h => hts w (List.mem_cons_of_mem _ h)
  have hown : s.vm.findClass RJ4 = some m.cls := findClass_of_methodNamed Bd.named
  have hlocks := Bd.notSynchronized
  obtain ⟨Q, hQ⟩ : ∃ Q, Q = MQ below (va_Qv (S := Int32 × Nat × Nat × jT) (fun u => u.1.toInt = 0 ∧ u.2.2.1 = 16 ∧ H0.size ≤ u.2.1) (fun u t => jRa (dC, dI) B base G0 u.2.2.2 EJ4_init_da8c8V H0 (1) (16) [(r0, 0, 3, .int u.1), (r0, 0, 0, .ref u.2.1)] t.heap ∧ u.2.2.2 u.2.1 = some (198, u.2.2.1) ∧ (jNk [1, 2, 3, 4, 5, 6, 7, 8, 9, 10, 11, 12, 13, 14, 15, 16, 17, 175]) G0 u.2.2.2 ∧ u.2.2.2 r0 = some (0, 0) ∧ jKx r0 G0 u.2.2.2 H0 t.heap) (jA base)) ([.ref r0] : List Value).toArray s (LC - H0.size) (LS - jTot H0) (jA base) := ⟨_, rfl⟩
  rw [← hQ]
  have hl := lv_entry ([.ref r0]) (n := 1) (Nat.le_of_ble_eq_true rfl)
  rw [lg_entry_eq]
  generalize (lg_sl ([.ref r0]) ++ List.replicate (1 - (lg_sl ([.ref r0])).length) Slot.unset).toArray = ls at hl ⊢
  have hl : lv_has ls 1 [(0, .ref r0)] := hl
  generalize hR : (headSpec (jw yJ4_init_da8c8 cJ4_init_da8c8 1 none) ({ frames := 2, cells := LC - H0.size, slots := LS - jTot H0, locals := 52 })).room = R
  subst hH0
  have hh : jSt (dC, dI) B base G0 G0 EJ4_init_da8c8V s.heap 0 0 [] [] [] s.heap [] := jSt.start hX hP0 jMc.nil jIs.nil
  clear hX hP0
  have hk0 : (0 : Int32).toInt = 0 := by decide
  have hk1 : (1 : Int32).toInt = 1 := by decide
  have hk16 : (16 : Int32).toInt = 16 := by decide
  have hbs : base ≤ s.heap.size := Nat.le_of_lt (Nat.lt_of_le_of_lt hbr0 hraw0.lt)
  have hRc : R.cells = LC - s.heap.size := by rw [← hR]; rfl
  have hRs : R.slots = LS - jTot s.heap := by rw [← hR]; rfl
  have hin2 : meth.name = "<init>" := (name_of_methodNamed Bd.named Bd.method).1
  have hkp : jKx r0 G0 G0 s.heap s.heap := jKx.rf
  refine lv_aload_n hx hb dJ4_init_da8c8_0 rfl (lv_at hl 0 rfl) ?_
  refine lv_bipush (v := 16) hx hb dJ4_init_da8c8_1 (by decide) ?_
  have hsz_1 := hh.2.2.2.2.2.1
  have htt_1 := hh.2.2.2.2.2.2.1
  refine W.room (fun hrc_1 hrs_1 => ?_)
  refine va_callv (A0 := jA base) (H0 := s.heap) (va_runI (As := [.int 16]) (rest := []) ⟨hx, hb, hml, hown, hts⟩ (uJ5_init_d00dfV l dC dI ca base B hB hAp hB0 hB198 G0 s.heap r0 16 LC LS) (cwI 1 hts (jgW (jWr_13 _ (List.mem_of_getElem? (i := 8) rfl))) rfl rfl rfl (htw (.initialized RJ5) (jWr_13 _ (List.mem_of_getElem? (i := 7) rfl))) (htw (.methodLink RJ4 1 yJ5_init_d00df) (jWr_13 _ (List.mem_of_getElem? (i := 5) rfl))) (htw (.instanceMethod yJ5_init_d00df) (jWr_13 _ (List.mem_of_getElem? (i := 6) rfl))) rfl (by decide +kernel) ⟨by rw [← hR]; exact Nat.le_of_ble_eq_true rfl, by rw [← hR]; exact Nat.le_of_ble_eq_true rfl⟩) ⟨fun a U g mk q => by obtain ⟨q0, q1, q2, qK, q10, q11, q12, q13, q14⟩ := q; exact ⟨q0, q1, q2, jG.calling g mk a qK, q10, q11, q12, q13, q14⟩, fun U hU hW => ⟨rfl, hU, hh.2.1, hG.step hW hU hh.1, hraw0, hnr0, hbr0, jP.nil, (by omega), (by omega), by first | omega | (refine ⟨?_, ?_⟩ <;> (first | omega | rfl | assumption | decide | exact Or.inl rfl | exact Or.inr rfl | (simp only; omega)))⟩⟩ rfl rfl hl.1 rfl (lv_room (Nat.le_of_ble_eq_true rfl)) dJ4_init_da8c8_3 ⟨by rw [hRc]; omega, by rw [hRs]; omega⟩) hh.1 (fun q _ h => h) (fun q h => h) (fun u_1 t_1 H_1 locs_1 ht_1 hvm_1 hr_2 hb_1 hz_1 hk_1 hS_1 => ?_)
  obtain ⟨qc_1, xa_1, m_xa_1, G_1⟩ := u_1
  rw [ht_1] at hb_1
  simp only at hb_1
  obtain ⟨⟨hb_11, hb_12, hb_13, hb_14, hb_15, hb_16⟩, hgq_1_0, hN_1, hgc_1, hbX_1⟩ := hb_1
  have hh_1 : jSt (dC, dI) B base G0 G_1 EJ4_init_da8c8V s.heap (0 + (1)) (0 + (16)) [(r0, 0, 3, .int qc_1), (r0, 0, 0, .ref xa_1)] [] [] H_1 locs_1 := (hh.callG hb_11 hb_12 hb_13 hb_14 hb_15 hS_1 rfl (L1 := []) [] rfl rfl (M1 := []) [] rfl rfl (I1 := []) [] rfl rfl).more hb_16
  have hNn_1 : (jNk [1, 2, 3, 4, 5, 6, 7, 8, 9, 10, 11, 12, 13, 14, 15, 16, 17, 175]) G0 G_1 := (jNk.rf).tr hN_1
  try simp only at hr_2
  obtain ⟨hr_2_0, hr_2_1, hr_2_2⟩ := hr_2
  have hkp_3 := hkp.self hbX_1
  have hsz_4 := hh_1.2.2.2.2.2.1
  have htt_4 := hh_1.2.2.2.2.2.2.1
  refine W.room (fun hrc_4 hrs_4 => ?_)
  refine W.widen (k := LC - s.heap.size) (n := LS - jTot s.heap) (by omega) (by omega) ?_
  rw [hQ]
  exact W.vret hx hb hr (fun t ht hW => ⟨⟨(qc_1, xa_1, m_xa_1, G_1), rfl, by (try dsimp only); exact ⟨(by first | omega | rfl | assumption | fail), (by first | omega | rfl | assumption | fail), (by first | omega | rfl | assumption | fail)⟩, ⟨hh_1.ra (by first | (simp only; omega) | omega) (by first | (simp only; omega) | omega) (M1 := [(r0, 0, 3, .int qc_1), (r0, 0, 0, .ref xa_1)]) [0, 1] rfl ht, hgq_1_0, hNn_1, hgc_1, by rw [ht]; exact hkp_3⟩⟩, by rw [ht]; try exact hh_1.1.1, fun q h9 hq => by rw [ht]; try exact hh_1.1.2.1 q h9 hq⟩) hh_1.1.2.2 dJ4_init_da8c8_6
end
