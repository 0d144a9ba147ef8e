theorem dX4_unitsOf_0 : decode cX4_unitsOf 0 = .ok (.aload_n 0, 1) := by decide +kernel
theorem dX4_unitsOf_1 : decode cX4_unitsOf 1 = .ok (.iload_n 1, 1) := by decide +kernel
theorem dX4_unitsOf_2 : decode cX4_unitsOf 2 = .ok (.invokevirtual 63, 3) := by decide +kernel
theorem dX4_unitsOf_5 : decode cX4_unitsOf 5 = .ok (.iconst 3, 1) := by decide +kernel
theorem dX4_unitsOf_6 : decode cX4_unitsOf 6 = .ok (.if_icmp .ne 16, 3) := by decide +kernel
theorem dX4_unitsOf_9 : decode cX4_unitsOf 9 = .ok (.aload_n 0, 1) := by decide +kernel
theorem dX4_unitsOf_10 : decode cX4_unitsOf 10 = .ok (.getfield 18, 3) := by decide +kernel
theorem dX4_unitsOf_13 : decode cX4_unitsOf 13 = .ok (.iload_n 1, 1) := by decide +kernel
theorem dX4_unitsOf_14 : decode cX4_unitsOf 14 = .ok (.iaload, 1) := by decide +kernel
theorem dX4_unitsOf_15 : decode cX4_unitsOf 15 = .ok (.iconst 0, 1) := by decide +kernel
theorem dX4_unitsOf_16 : decode cX4_unitsOf 16 = .ok (.invokestatic 86, 3) := by decide +kernel
theorem dX4_unitsOf_19 : decode cX4_unitsOf 19 = .ok (.goto 4, 3) := by decide +kernel
theorem dX4_unitsOf_22 : decode cX4_unitsOf 22 = .ok (.iconst 0, 1) := by decide +kernel
theorem dX4_unitsOf_23 : decode cX4_unitsOf 23 = .ok (.newarray .int, 2) := by decide +kernel
theorem dX4_unitsOf_25 : decode cX4_unitsOf 25 = .ok (.astore_n 2, 1) := by decide +kernel
theorem dX4_unitsOf_26 : decode cX4_unitsOf 26 = .ok (.iconst 0, 1) := by decide +kernel
theorem dX4_unitsOf_27 : decode cX4_unitsOf 27 = .ok (.istore_n 3, 1) := by decide +kernel
theorem dX4_unitsOf_28 : decode cX4_unitsOf 28 = .ok (.iload_n 3, 1) := by decide +kernel
theorem dX4_unitsOf_29 : decode cX4_unitsOf 29 = .ok (.aload_n 2, 1) := by decide +kernel
theorem dX4_unitsOf_30 : decode cX4_unitsOf 30 = .ok (.arraylength, 1) := by decide +kernel
theorem dX4_unitsOf_31 : decode cX4_unitsOf 31 = .ok (.if_icmp .ge 18, 3) := by decide +kernel
theorem dX4_unitsOf_34 : decode cX4_unitsOf 34 = .ok (.aload_n 2, 1) := by decide +kernel
theorem dX4_unitsOf_35 : decode cX4_unitsOf 35 = .ok (.iload_n 3, 1) := by decide +kernel
theorem dX4_unitsOf_36 : decode cX4_unitsOf 36 = .ok (.aload_n 0, 1) := by decide +kernel
theorem dX4_unitsOf_37 : decode cX4_unitsOf 37 = .ok (.iload_n 1, 1) := by decide +kernel
theorem dX4_unitsOf_38 : decode cX4_unitsOf 38 = .ok (.iload_n 3, 1) := by decide +kernel
theorem dX4_unitsOf_39 : decode cX4_unitsOf 39 = .ok (.invokevirtual 80, 3) := by decide +kernel
theorem dX4_unitsOf_42 : decode cX4_unitsOf 42 = .ok (.iastore, 1) := by decide +kernel
theorem dX4_unitsOf_43 : decode cX4_unitsOf 43 = .ok (.iinc 3 1, 3) := by decide +kernel
theorem dX4_unitsOf_46 : decode cX4_unitsOf 46 = .ok (.goto (-18), 3) := by decide +kernel
theorem dX4_unitsOf_49 : decode cX4_unitsOf 49 = .ok (.aload_n 2, 1) := by decide +kernel
theorem dX4_unitsOf_50 : decode cX4_unitsOf 50 = .ok (.areturn, 1) := by decide +kernel
theorem dJ5_init_d00df_0 : decode cJ5_init_d00df 0 = .ok (.aload_n 0, 1) := by decide +kernel
theorem dJ5_init_d00df_1 : decode cJ5_init_d00df 1 = .ok (.invokespecial 3, 3) := by decide +kernel
theorem dJ5_init_d00df_4 : decode cJ5_init_d00df 4 = .ok (.getstatic 18, 3) := by decide +kernel
theorem dJ5_init_d00df_7 : decode cJ5_init_d00df 7 = .ok (.ifCond .eq 18, 3) := by decide +kernel
theorem dJ5_init_d00df_10 : decode cJ5_init_d00df 10 = .ok (.aload_n 0, 1) := by decide +kernel
theorem dJ5_init_d00df_11 : decode cJ5_init_d00df 11 = .ok (.iload_n 1, 1) := by decide +kernel
theorem dJ5_init_d00df_12 : decode cJ5_init_d00df 12 = .ok (.newarray .byte, 2) := by decide +kernel
theorem dJ5_init_d00df_14 : decode cJ5_init_d00df 14 = .ok (.putfield 15, 3) := by decide +kernel
theorem dJ5_init_d00df_17 : decode cJ5_init_d00df 17 = .ok (.aload_n 0, 1) := by decide +kernel
theorem dJ5_init_d00df_18 : decode cJ5_init_d00df 18 = .ok (.iconst 0, 1) := by decide +kernel
theorem dJ5_init_d00df_19 : decode cJ5_init_d00df 19 = .ok (.putfield 22, 3) := by decide +kernel
theorem dJ5_init_d00df_22 : decode cJ5_init_d00df 22 = .ok (.goto 16, 3) := by decide +kernel
theorem dJ5_init_d00df_25 : decode cJ5_init_d00df 25 = .ok (.aload_n 0, 1) := by decide +kernel
theorem dJ5_init_d00df_26 : decode cJ5_init_d00df 26 = .ok (.iload_n 1, 1) := by decide +kernel
theorem dJ5_init_d00df_27 : decode cJ5_init_d00df 27 = .ok (.invokestatic 26, 3) := by decide +kernel
theorem dJ5_init_d00df_30 : decode cJ5_init_d00df 30 = .ok (.putfield 15, 3) := by decide +kernel
theorem dJ5_init_d00df_33 : decode cJ5_init_d00df 33 = .ok (.aload_n 0, 1) := by decide +kernel
theorem dJ5_init_d00df_34 : decode cJ5_init_d00df 34 = .ok (.iconst 1, 1) := by decide +kernel
theorem dJ5_init_d00df_35 : decode cJ5_init_d00df 35 = .ok (.putfield 22, 3) := by decide +kernel
theorem dJ5_init_d00df_38 : decode cJ5_init_d00df 38 = .ok (.return_, 1) := by decide +kernel
theorem dJ4_init_da8c8_0 : decode cJ4_init_da8c8 0 = .ok (.aload_n 0, 1) := by decide +kernel
theorem dJ4_init_da8c8_1 : decode cJ4_init_da8c8 1 = .ok (.bipush 16, 2) := by decide +kernel
theorem dJ4_init_da8c8_3 : decode cJ4_init_da8c8 3 = .ok (.invokespecial 1, 3) := by decide +kernel
theorem dJ4_init_da8c8_6 : decode cJ4_init_da8c8 6 = .ok (.return_, 1) := by decide +kernel
def EJ5_init_d00df : List (Nat × Nat) := []
def EJ4_init_da8c8 : List (Nat × Nat) := []
def EX4_unitsOf : List (Nat × Nat) := [(101, 0)]
set_option maxHeartbeats 4000000 in
set_option maxRecDepth 20000 in
theorem uJ5_init_d00df (l : Launch) (dC : Nat → ClassId) (dI : Nat → Nat → Nat) (ca : Nat → ClassId) (base : Nat) (B : jF) (hB : jBok B) (hAp : jAp (dC, dI)) (hB0 : ∀ n G a H, B 0 n G a H ↔ jOb (dC, dI) 0 4 (Fz0 n G) a H) (hB196 : ∀ n G a H, B 196 n G a H ↔ jAr (dC, dI) (ca 0) (fun j z => jBf j z) n a H) (G0 : jT) (H0 : Heap) (r0 : Nat) (a1 : Int32) (LC LS : Nat) : Met l yJ5_init_d00df (jw yJ5_init_d00df cJ5_init_d00df 2 none) ({ frames := 1, cells := LC - H0.size, slots := LS - jTot H0, locals := 31 }) (va_Pc [.ref r0, .int a1] (fun U => U.heap = H0 ∧ jX B base G0 [] H0 ∧ jG dC dI ca base U ∧ va_at (dC, dI) vwCl (r0, .inr (0, [.null, .int 0, .int 0, .int 0])) H0 ∧ (∀ t, G0 r0 ≠ some t) ∧ base ≤ r0 ∧ jP (dC, dI) G0 H0 [] ∧ H0.size + 1 ≤ LC ∧ jTot H0 + a1.toInt.toNat ≤ LS ∧ 1 ≤ a1.toInt ∧ a1.toInt ≤ 400)) (va_Qv (S := jT) (fun u => True) (fun u t => jRa (dC, dI) B base G0 u EJ5_init_d00df H0 (1) (a1.toInt.toNat) [] t.heap ∧ (jNk [1, 2, 3, 4, 5, 6, 7, 8, 9, 10, 11, 12, 13, 14, 15, 16]) G0 u ∧ u r0 = some (0, 0) ∧ jKx r0 G0 u H0 t.heap) (jA base)) (LC - H0.size) (LS - jTot H0) (jA base) := by
  refine Met.ofW (cc := cJ5_init_d00df) (maxL := 2) (ret := none) (by decide) rfl ?_
  intro p e s m args below meth c s₁ Bd hml hv
  obtain ⟨rfl, hH0, hX, hG, hraw0, hnr0, hbr0, hP0, hLC0, hLS0, hp0, hp1⟩ := hv
  have hK := hG.1
  have hx := Bd.exec
  have hb := Bd.bytes
  have hr := Bd.returns
  have hts := atoms_spec (ws := (jw yJ5_init_d00df cJ5_init_d00df 2 none)) Bd.pre
  have htw : ∀ w ∈ jWl, w.before _ s = true := fun w h => hts w (List.mem_cons_of_mem _ h)
  have hown : s.vm.findClass RJ5 = some m.cls := findClass_of_methodNamed Bd.named
  have hlocks := Bd.notSynchronized
  obtain ⟨Q, hQ⟩ : ∃ Q, Q = MQ below (va_Qv (S := jT) (fun u => True) (fun u t => jRa (dC, dI) B base G0 u EJ5_init_d00df H0 (1) (a1.toInt.toNat) [] t.heap ∧ (jNk [1, 2, 3, 4, 5, 6, 7, 8, 9, 10, 11, 12, 13, 14, 15, 16]) G0 u ∧ u r0 = some (0, 0) ∧ jKx r0 G0 u H0 t.heap) (jA base)) ([.ref r0, .int a1] : List Value).toArray s (LC - H0.size) (LS - jTot H0) (jA base) := ⟨_, rfl⟩
  rw [← hQ]
  have hl := lv_entry ([.ref r0, .int a1]) (n := 2) (Nat.le_of_ble_eq_true rfl)
  rw [lg_entry_eq]
  generalize (lg_sl ([.ref r0, .int a1]) ++ List.replicate (2 - (lg_sl ([.ref r0, .int a1])).length) Slot.unset).toArray = ls at hl ⊢
  have hl : lv_has ls 2 [(0, .ref r0), (1, .int a1)] := hl
  generalize hR : (headSpec (jw yJ5_init_d00df cJ5_init_d00df 2 none) ({ frames := 1, cells := LC - H0.size, slots := LS - jTot H0, locals := 31 })).room = R
  subst hH0
  have hh : jSt (dC, dI) B base G0 G0 EJ5_init_d00df s.heap 0 0 [] [] [] s.heap [] := jSt.start hX hP0 jMc.nil jIs.nil
  clear hX hP0
  have hk0 : (0 : Int32).toInt = 0 := by decide
  have hk1 : (1 : Int32).toInt = 1 := by decide
  have hly_0_0 := htw (u_lay RJ4 TJ4 0) (jWc_wsJ40 _ (u_in_lay (by decide)))
  have hly_0_1 := htw (u_lay RJ4 TJ4 1) (jWc_wsJ40 _ (u_in_lay (by decide)))
  have hlk_15 := (htw (.fieldLink RJ5 15 "java/lang/AbstractStringBuilder" "value" "[B") (jWr_13 _ (List.mem_of_getElem? (i := 11) rfl)))
  have hlk_22 := (htw (.fieldLink RJ5 22 "java/lang/AbstractStringBuilder" "coder" "B") (jWr_13 _ (List.mem_of_getElem? (i := 12) rfl)))
  have hrg_a1 := jb_rng a1
  have hbs : base ≤ s.heap.size := Nat.le_of_lt (Nat.lt_of_le_of_lt hbr0 hraw0.lt)
  have hRc : R.cells = LC - s.heap.size := by rw [← hR]; rfl
  have hRs : R.slots = LS - jTot s.heap := by rw [← hR]; rfl
  have hin2 : meth.name = "<init>" := (name_of_methodNamed Bd.named Bd.method).1
  have hkp : jKx r0 G0 G0 s.heap s.heap := jKx.rf
  refine lv_aload_n hx hb dJ5_init_d00df_0 rfl (lv_at hl 0 rfl) ?_
  refine W.objInit hx hb hown (htw (.methodLink RJ5 3 objectInit) (jWr_13 _ (List.mem_of_getElem? (i := 9) rfl))) (htw (.instanceMethod objectInit) (jWr_1 _ (List.mem_of_getElem? (i := 10) rfl))) (htw (.code objectInit ⟨#[0xb1]⟩ 1 none) (jWr_1 _ (List.mem_of_getElem? (i := 11) rfl))) rfl (by rw [hml]; exact hl.1) rfl dJ5_init_d00df_1 (by rw [← hR]; exact Nat.le_of_ble_eq_true rfl) (by rw [← hR]; exact Nat.le_of_ble_eq_true rfl) ?_
  refine W.eq (g2 := F0 m 4 ls []) rfl ?_
  refine va_gets hx hb hG.2.2.2.2.1 hh.1 hown (htw (.fieldLink RJ5 18 "java/lang/String" "COMPACT_STRINGS" "Z") (jWr_13 _ (List.mem_of_getElem? (i := 10) rfl))) (fun _ h9 => h9) dJ5_init_d00df_4 ?_
  refine lv_if_eq (tgt := 25) hx hb dJ5_init_d00df_7 (by decide) (fun c_2 => ?_) (fun c_2 => ?_)
  · skip
    exact absurd c_2 (by decide)
  · skip
    refine lv_aload_n hx hb dJ5_init_d00df_10 rfl (lv_at hl 0 rfl) ?_
    refine lv_iload_n hx hb dJ5_init_d00df_11 rfl (lv_at hl 1 rfl) ?_
    have hsz_3 := hh.2.2.2.2.2.1
    have htt_3 := hh.2.2.2.2.2.2.1
    refine j7_newiK hx hb hK hh hB (atype := .byte) (ty := .byte) (htw (.arrayClass .byte) (jWr_3 _ (List.mem_of_getElem? (i := 9) rfl))) rfl rfl (fun _ h => h) hB196 0 rfl (by decide) (by decide) hbs (x := a1.toInt) rfl (by omega) (fun j => by first | trivial | decide | rfl | exact Or.inl rfl | (refine ⟨?_, ?_⟩ <;> decide)) (by rw [hRc]; omega) (by rw [hRs]; omega) dJ5_init_d00df_12 (fun H_3 hfr_3 hh_3 => ?_)
    have hh_3 : jSt (dC, dI) B base G0 (va_up G0 s.heap.size (some (196, (a1.toInt).toNat))) EJ5_init_d00df s.heap (0 + 1) (0 + (a1.toInt).toNat) [] [] [] H_3 [] := hh_3
    have hN_3 : (jNk [1, 2, 3, 4, 5, 6, 7, 8, 9, 10, 11, 12, 13, 14, 15, 16]) G0 (va_up G0 s.heap.size (some (196, (a1.toInt).toNat))) := jNk.new (by decide)
    have hgn_3 : (va_up G0 s.heap.size (some (196, (a1.toInt).toNat))) s.heap.size = some (196, (a1.toInt).toNat) := jUp_self
    have hle_3 : jLe G0 (va_up G0 s.heap.size (some (196, (a1.toInt).toNat))) := jLe.new hh.2.1.fresh
    have hke_3 : jKe G0 (va_up G0 s.heap.size (some (196, (a1.toInt).toNat))) s.heap H_3 := jKe.new hfr_3
    have hsy_3 : s.heap.size ≤ s.heap.size := hh.1.1
    generalize (va_up G0 s.heap.size (some (196, (a1.toInt).toNat))) = G_3 at hN_3 hgn_3 hle_3 hke_3 hh_3
    generalize hnc_3 : (a1.toInt).toNat = nc_3 at hgn_3 hh_3 ⊢
    clear hh
    have hNn_3 : (jNk [1, 2, 3, 4, 5, 6, 7, 8, 9, 10, 11, 12, 13, 14, 15, 16]) G0 G_3 := (jNk.rf).tr hN_3
    have hkp_4 := hkp.tr hke_3
    have hraw_5n := hke_3.nr hraw0.lt hnr0
    have hraw_5 := hraw0.kept (hke_3.1 _ hraw0.lt)
    refine j7_putR hx hb hown hK hh_3 hB hAp hraw_5 hraw_5n hbr0 (C := RJ4) (T := TJ4) (N := 4) rfl (i := 0) (by decide) (Nat.le_of_ble_eq_true rfl) hly_0_0 rfl hlk_15 (ty := (.array .byte)) (v := .ref s.heap.size) (by decide +kernel) rfl rfl dJ5_init_d00df_14 (fun H_6 locs_6 hraw_6 hr_6 hh_6 => ?_)
    have hraw_6 : va_at (dC, dI) vwCl (r0, .inr (0, [.ref s.heap.size, .int 0, .int 0, .int 0])) H_6 := hraw_6
    have hkp_7 := hkp_4.put hr_6
    clear hh_3
    refine lv_aload_n hx hb dJ5_init_d00df_17 rfl (lv_at hl 0 rfl) ?_
    refine lv_iconst (v := 0) hx hb dJ5_init_d00df_18 (by decide) ?_
    refine j7_putR hx hb hown hK hh_6 hB hAp hraw_6 hraw_5n hbr0 (C := RJ4) (T := TJ4) (N := 4) rfl (i := 1) (by decide) (Nat.le_of_ble_eq_true rfl) hly_0_1 rfl hlk_22 (ty := .byte) (v := .int 0) (by decide +kernel) rfl rfl dJ5_init_d00df_19 (fun H_8 locs_8 hraw_8 hr_8 hh_8 => ?_)
    have hraw_8 : va_at (dC, dI) vwCl (r0, .inr (0, [.ref s.heap.size, .int 0, .int 0, .int 0])) H_8 := hraw_8
    have hkp_9 := hkp_7.put hr_8
    clear hh_6
    refine lv_goto (tgt := 38) hx hb dJ5_init_d00df_22 (by decide) ?_
    have hsz_10 := hh_8.2.2.2.2.2.1
    have htt_10 := hh_8.2.2.2.2.2.2.1
    refine W.room (fun hrc_10 hrs_10 => ?_)
    refine W.widen (k := LC - s.heap.size) (n := LS - jTot s.heap) (by omega) (by omega) ?_
    rw [hQ]
    have hle_11 : jLe G_3 (va_up G_3 r0 (some (0, 0))) := jLe.typ hraw_5n
    have hg_12 := (jLe.rf).tr hle_11 _ _ hgn_3
    have hfa_11 : jRk (va_up G_3 r0 (some (0, 0))) 196 1000 (.ref s.heap.size) ∧ jI 0 0 (.int 0) ∧ jZb (.int 0) ∧ jI 0 1000 (.int 0) ∧ True := ⟨⟨_, _, rfl, hg_12, by omega⟩, ⟨_, rfl, by omega, by omega⟩, ⟨_, rfl, Or.inl rfl⟩, ⟨_, rfl, by omega, by omega⟩, trivial⟩
    have hh_11 := hh_8.typ (k := 0) (n := 0) hB hraw_5n hbr0 hraw_8.lt (jOb.of (C := RJ4) (T := TJ4) (N := 4) (F := Fz0) hB0 rfl hraw_8 (show jFx (Fz0 0 (va_up G_3 r0 (some (0, 0)))) [.ref s.heap.size, .int 0, .int 0, .int 0] from hfa_11))
    have hgn_11 : (va_up G_3 r0 (some (0, 0))) r0 = some (0, 0) := jUp_self
    have hN_11 : (jNk [1, 2, 3, 4, 5, 6, 7, 8, 9, 10, 11, 12, 13, 14, 15, 16]) G_3 (va_up G_3 r0 (some (0, 0))) := jNk.new (by decide)
    have hNn_11 : (jNk [1, 2, 3, 4, 5, 6, 7, 8, 9, 10, 11, 12, 13, 14, 15, 16]) G0 (va_up G_3 r0 (some (0, 0))) := (hNn_3).tr hN_11
    have hkp_13 := hkp_9.typ (t := some (0, 0))
    exact W.vret hx hb hr (fun t ht hW => ⟨⟨(va_up G_3 r0 (some (0, 0))), rfl, trivial, ⟨hh_11.ra (by first | omega | (simp only; omega)) (by first | omega | (simp only; omega)) (M1 := []) [] rfl ht, hNn_11, hgn_11, by rw [ht]; exact hkp_13⟩⟩, by rw [ht]; try exact hh_11.1.1, fun q h9 hq => by rw [ht]; try exact hh_11.1.2.1 q h9 hq⟩) hh_11.1.2.2 dJ5_init_d00df_38
set_option maxHeartbeats 4000000 in
set_option maxRecDepth 20000 in
theorem uJ4_init_da8c8 (l : Launch) (dC : Nat → ClassId) (dI : Nat → Nat → Nat) (ca : Nat → ClassId) (base : Nat) (B : jF) (hB : jBok B) (hAp : jAp (dC, dI)) (hB0 : ∀ n G a H, B 0 n G a H ↔ jOb (dC, dI) 0 4 (Fz0 n G) a H) (hB196 : ∀ n G a H, B 196 n G a H ↔ jAr (dC, dI) (ca 0) (fun j z => jBf j z) n a H) (G0 : jT) (H0 : Heap) (r0 : Nat) (LC LS : Nat) : Met l yJ4_init_da8c8 (jw yJ4_init_da8c8 cJ4_init_da8c8 1 none) ({ frames := 2, cells := LC - H0.size, slots := LS - jTot H0, locals := 52 }) (va_Pc [.ref r0] (fun U => U.heap = H0 ∧ jX B base G0 [] H0 ∧ jG dC dI ca base U ∧ va_at (dC, dI) vwCl (r0, .inr (0, [.null, .int 0, .int 0, .int 0])) H0 ∧ (∀ t, G0 r0 ≠ some t) ∧ base ≤ r0 ∧ jP (dC, dI) G0 H0 [] ∧ H0.size + 1 ≤ LC ∧ jTot H0 + 16 ≤ LS ∧ True)) (va_Qv (S := jT) (fun u => True) (fun u t => jRa (dC, dI) B base G0 u EJ4_init_da8c8 H0 (1) (16) [] t.heap ∧ (jNk [1, 2, 3, 4, 5, 6, 7, 8, 9, 10, 11, 12, 13, 14, 15, 16]) G0 u ∧ u r0 = some (0, 0) ∧ jKx r0 G0 u H0 t.heap) (jA base)) (LC - H0.size) (LS - jTot H0) (jA base) := by
  refine Met.ofW (cc := cJ4_init_da8c8) (maxL := 1) (ret := none) (by decide) rfl ?_
  intro p e s m args below meth c s₁ Bd hml hv
  obtain ⟨rfl, hH0, hX, hG, hraw0, hnr0, hbr0, hP0, hLC0, hLS0, hp0⟩ := hv
  have hK := hG.1
  have hx := Bd.exec
  have hb := Bd.bytes
  have hr := Bd.returns
  have hts := atoms_spec (ws := (jw yJ4_init_da8c8 cJ4_init_da8c8 1 none)) Bd.pre
  have htw : ∀ w ∈ jWl, w.before _ s = true := fun w h => hts w (List.mem_cons_of_mem _ h)
  have hown : s.vm.findClass RJ4 = some m.cls := findClass_of_methodNamed Bd.named
  have hlocks := Bd.notSynchronized
  obtain ⟨Q, hQ⟩ : ∃ Q, Q = MQ below (va_Qv (S := jT) (fun u => True) (fun u t => jRa (dC, dI) B base G0 u EJ4_init_da8c8 H0 (1) (16) [] t.heap ∧ (jNk [1, 2, 3, 4, 5, 6, 7, 8, 9, 10, 11, 12, 13, 14, 15, 16]) G0 u ∧ u r0 = some (0, 0) ∧ jKx r0 G0 u H0 t.heap) (jA base)) ([.ref r0] : List Value).toArray s (LC - H0.size) (LS - jTot H0) (jA base) := ⟨_, rfl⟩
  rw [← hQ]
  have hl := lv_entry ([.ref r0]) (n := 1) (Nat.le_of_ble_eq_true rfl)
  rw [lg_entry_eq]
  generalize (lg_sl ([.ref r0]) ++ List.replicate (1 - (lg_sl ([.ref r0])).length) Slot.unset).toArray = ls at hl ⊢
  have hl : lv_has ls 1 [(0, .ref r0)] := hl
  generalize hR : (headSpec (jw yJ4_init_da8c8 cJ4_init_da8c8 1 none) ({ frames := 2, cells := LC - H0.size, slots := LS - jTot H0, locals := 52 })).room = R
  subst hH0
  have hh : jSt (dC, dI) B base G0 G0 EJ4_init_da8c8 s.heap 0 0 [] [] [] s.heap [] := jSt.start hX hP0 jMc.nil jIs.nil
  clear hX hP0
  have hk0 : (0 : Int32).toInt = 0 := by decide
  have hk1 : (1 : Int32).toInt = 1 := by decide
  have hk16 : (16 : Int32).toInt = 16 := by decide
  have hbs : base ≤ s.heap.size := Nat.le_of_lt (Nat.lt_of_le_of_lt hbr0 hraw0.lt)
  have hRc : R.cells = LC - s.heap.size := by rw [← hR]; rfl
  have hRs : R.slots = LS - jTot s.heap := by rw [← hR]; rfl
  have hin2 : meth.name = "<init>" := (name_of_methodNamed Bd.named Bd.method).1
  have hkp : jKx r0 G0 G0 s.heap s.heap := jKx.rf
  refine lv_aload_n hx hb dJ4_init_da8c8_0 rfl (lv_at hl 0 rfl) ?_
  refine lv_bipush (v := 16) hx hb dJ4_init_da8c8_1 (by decide) ?_
  have hsz_1 := hh.2.2.2.2.2.1
  have htt_1 := hh.2.2.2.2.2.2.1
  refine W.room (fun hrc_1 hrs_1 => ?_)
  refine va_callv (A0 := jA base) (H0 := s.heap) (va_runI (As := [.int 16]) (rest := []) ⟨hx, hb, hml, hown, hts⟩ (uJ5_init_d00df l dC dI ca base B hB hAp hB0 hB196 G0 s.heap r0 16 LC LS) (cwI 1 hts (jgW (jWr_13 _ (List.mem_of_getElem? (i := 8) rfl))) rfl rfl rfl (htw (.initialized RJ5) (jWr_13 _ (List.mem_of_getElem? (i := 7) rfl))) (htw (.methodLink RJ4 1 yJ5_init_d00df) (jWr_13 _ (List.mem_of_getElem? (i := 5) rfl))) (htw (.instanceMethod yJ5_init_d00df) (jWr_13 _ (List.mem_of_getElem? (i := 6) rfl))) rfl (by decide +kernel) ⟨by rw [← hR]; exact Nat.le_of_ble_eq_true rfl, by rw [← hR]; exact Nat.le_of_ble_eq_true rfl⟩) ⟨fun a U g mk q => by obtain ⟨q0, q1, q2, qK, q10, q11, q12, q13, q14⟩ := q; exact ⟨q0, q1, q2, jG.calling g mk a qK, q10, q11, q12, q13, q14⟩, fun U hU hW => ⟨rfl, hU, hh.2.1, hG.step hW hU hh.1, hraw0, hnr0, hbr0, jP.nil, (by omega), (by omega), by first | omega | (refine ⟨?_, ?_⟩ <;> (first | omega | rfl | assumption | decide | exact Or.inl rfl | exact Or.inr rfl | (simp only; omega)))⟩⟩ rfl rfl hl.1 rfl (lv_room (Nat.le_of_ble_eq_true rfl)) dJ4_init_da8c8_3 ⟨by rw [hRc]; omega, by rw [hRs]; omega⟩) hh.1 (fun q _ h => h) (fun q h => h) (fun u_1 t_1 H_1 locs_1 ht_1 hvm_1 hr_2 hb_1 hz_1 hk_1 hS_1 => ?_)
  rw [ht_1] at hb_1
  obtain ⟨G_1, rfl⟩ : ∃ z, z = u_1 := ⟨_, rfl⟩
  try simp only at hb_1
  obtain ⟨⟨hb_11, hb_12, hb_13, hb_14, hb_15, hb_16⟩, hN_1, hgc_1, hbX_1⟩ := hb_1
  have hh_1 : jSt (dC, dI) B base G0 G_1 EJ4_init_da8c8 s.heap (0 + (1)) (0 + ((16 : Int).toNat)) [] [] [] H_1 locs_1 := (hh.callG hb_11 hb_12 hb_13 hb_14 hb_15 hS_1 rfl (L1 := []) [] rfl rfl (M1 := []) [] rfl rfl (I1 := []) [] rfl rfl).more hb_16
  have hNn_1 : (jNk [1, 2, 3, 4, 5, 6, 7, 8, 9, 10, 11, 12, 13, 14, 15, 16]) G0 G_1 := (jNk.rf).tr hN_1
  try simp only at hr_2
  have hkp_3 := hkp.self hbX_1
  have hsz_4 := hh_1.2.2.2.2.2.1
  have htt_4 := hh_1.2.2.2.2.2.2.1
  refine W.room (fun hrc_4 hrs_4 => ?_)
  refine W.widen (k := LC - s.heap.size) (n := LS - jTot s.heap) (by omega) (by omega) ?_
  rw [hQ]
  exact W.vret hx hb hr (fun t ht hW => ⟨⟨G_1, rfl, trivial, ⟨hh_1.ra (by first | omega | (simp only; omega)) (by first | omega | (simp only; omega)) (M1 := []) [] rfl ht, hNn_1, hgc_1, by rw [ht]; exact hkp_3⟩⟩, by rw [ht]; try exact hh_1.1.1, fun q h9 hq => by rw [ht]; try exact hh_1.1.2.1 q h9 hq⟩) hh_1.1.2.2 dJ4_init_da8c8_6
set_option maxHeartbeats 4000000 in
set_option maxRecDepth 20000 in
theorem uX4_unitsOf (l : Launch) (dC : Nat → ClassId) (dI : Nat → Nat → Nat) (ca : Nat → ClassId) (base : Nat) (B : jF) (hB : jBok B) (hAp : jAp (dC, dI)) (hB6 : ∀ n G a H, B 6 n G a H ↔ jOb (dC, dI) 6 12 (F6 n G) a H) (hB101 : ∀ n G a H, B 101 n G a H ↔ jAr (dC, dI) (ca 1) (fun j z => True) n a H) (hB140 : ∀ n G a H, B 140 n G a H ↔ jAr (dC, dI) (ca 1) (fun j z => True) n a H) (hB141 : ∀ n G a H, B 141 n G a H ↔ jAr (dC, dI) (ca 1) (fun j z => True) n a H) (hB142 : ∀ n G a H, B 142 n G a H ↔ jAr (dC, dI) (ca 1) (fun j z => True) n a H) (hB146 : ∀ n G a H, B 146 n G a H ↔ jAr (dC, dI) (ca 1) (fun j z => True) n a H) (G0 : jT) (H0 : Heap) (r0 : Nat) (a1 : Int32) (pv : Int32) (wk : Nat) (wi : Nat) (wz : Nat) (fk : Nat → Int32) (fi : Nat → Int32) (fz : Nat → Int32) (LC LS : Nat) : Met l yX4_unitsOf (jw yX4_unitsOf cX4_unitsOf 4 (some (.array .int))) ({ frames := 2, cells := LC - H0.size, slots := LS - jTot H0, locals := 44 }) (va_Pc [.ref r0, .int a1] (fun U => U.heap = H0 ∧ jX B base G0 [] H0 ∧ jG dC dI ca base U ∧ G0 r0 = some (6, 0) ∧ G0 wk = some (140, 1502) ∧ G0 wi = some (141, 1502) ∧ G0 wz = some (142, 1502) ∧ jP (dC, dI) G0 H0 [(r0, 6, 7, .int pv), (r0, 6, 0, .ref wk), (r0, 6, 1, .ref wi), (r0, 6, 2, .ref wz)] ∧ jMc (dC, dI) G0 H0 [(wk, 140, 1502, ca 1, fk), (wi, 141, 1502, ca 1, fi), (wz, 142, 1502, ca 1, fz)] ∧ H0.size + 1 ≤ LC ∧ jTot H0 + 3000 ≤ LS ∧ 0 ≤ pv.toInt ∧ pv.toInt ≤ 1502 ∧ jJs fk fi fz)) (jQx (S := Nat × jT) (fun v u => jRf u.2 101 u.1 v ∧ jNwv v H0 ∧ u.1 ≤ 3000) (fun u t => jRa (dC, dI) B base G0 u.2 EX4_unitsOf H0 (1) (u.1) [] t.heap ∧ (jNk [0, 1, 2, 3, 4, 5, 6, 7, 8, 9, 10, 11, 12, 13, 14, 15, 16]) G0 u.2) (jA base)) (LC - H0.size) (LS - jTot H0) (jA base) := by
  refine Met.ofW (cc := cX4_unitsOf) (maxL := 4) (ret := (some (.array .int))) (by decide) rfl ?_
  intro p e s m args below meth c s₁ Bd hml hv
  obtain ⟨rfl, hH0, hX, hG, hg_r0, hg_wk, hg_wi, hg_wz, hP0, hM0, hLC0, hLS0, hp0, hp1, hp2⟩ := hv
  have hK := hG.1
  have hx := Bd.exec
  have hb := Bd.bytes
  have hr := Bd.returns
  have hts := atoms_spec (ws := (jw yX4_unitsOf cX4_unitsOf 4 (some (.array .int)))) Bd.pre
  have htw : ∀ w ∈ jWl, w.before _ s = true := fun w h => hts w (List.mem_cons_of_mem _ h)
  have hown : s.vm.findClass RX4 = some m.cls := findClass_of_methodNamed Bd.named
  have hlocks := Bd.notSynchronized
  obtain ⟨Q, hQ⟩ : ∃ Q, Q = MQ below (jQx (S := Nat × jT) (fun v u => jRf u.2 101 u.1 v ∧ jNwv v H0 ∧ u.1 ≤ 3000) (fun u t => jRa (dC, dI) B base G0 u.2 EX4_unitsOf H0 (1) (u.1) [] t.heap ∧ (jNk [0, 1, 2, 3, 4, 5, 6, 7, 8, 9, 10, 11, 12, 13, 14, 15, 16]) G0 u.2) (jA base)) ([.ref r0, .int a1] : List Value).toArray s (LC - H0.size) (LS - jTot H0) (jA base) := ⟨_, rfl⟩
  rw [← hQ]
  have hl := lv_entry ([.ref r0, .int a1]) (n := 4) (Nat.le_of_ble_eq_true rfl)
  rw [lg_entry_eq]
  generalize (lg_sl ([.ref r0, .int a1]) ++ List.replicate (4 - (lg_sl ([.ref r0, .int a1])).length) Slot.unset).toArray = ls at hl ⊢
  have hl : lv_has ls 4 [(0, .ref r0), (1, .int a1)] := hl
  generalize hR : (headSpec (jw yX4_unitsOf cX4_unitsOf 4 (some (.array .int))) ({ frames := 2, cells := LC - H0.size, slots := LS - jTot H0, locals := 44 })).room = R
  subst hH0
  have hh : jSt (dC, dI) B base G0 G0 EX4_unitsOf s.heap 0 0 [(r0, 6, 7, .int pv), (r0, 6, 0, .ref wk), (r0, 6, 1, .ref wi), (r0, 6, 2, .ref wz)] [(wk, 140, 1502, ca 1, fk), (wi, 141, 1502, ca 1, fi), (wz, 142, 1502, ca 1, fz)] [] s.heap [] := jSt.start hX hP0 hM0 jIs.nil
  clear hX hP0
  have hk0 : (0 : Int32).toInt = 0 := by decide
  have hk1 : (1 : Int32).toInt = 1 := by decide
  have hk3 : (3 : Int32).toInt = 3 := by decide
  have hly_6_2 := htw (u_lay RX4 TX4 2) (jWc_wsX40 _ (u_in_lay (by decide)))
  have hlk_18 := (htw (.fieldLink RX4 18 "ProofServer$Json" "sizes" "[I") (jWr_3 _ (List.mem_of_getElem? (i := 23) rfl)))
  have hrg_a1 := jb_rng a1
  have hbs : base ≤ s.heap.size := Nat.le_of_lt (Nat.lt_of_le_of_lt (hh.ab hg_r0).1 (hh.ab hg_r0).2)
  have hRc : R.cells = LC - s.heap.size := by rw [← hR]; rfl
  have hRs : R.slots = LS - jTot s.heap := by rw [← hR]; rfl
  refine lv_aload_n hx hb dX4_unitsOf_0 rfl (lv_at hl 0 rfl) ?_
  refine lv_iload_n hx hb dX4_unitsOf_1 rfl (lv_at hl 1 rfl) ?_
  have hsz_1 := hh.2.2.2.2.2.1
  have htt_1 := hh.2.2.2.2.2.2.1
  refine W.room (fun hrc_1 hrs_1 => ?_)
  refine va_calli (A0 := jA base) (H0 := s.heap) (va_runV (As := [.int a1]) (rest := []) ⟨hx, hb, hml, hown, hts⟩ (uX4_kindOfK l dC dI ca base B hB hAp hB6 hB140 G0 s.heap r0 a1 pv wk wi wz fk fi fz) (cwV 1 hts (jgV (jWr_23 _ (List.mem_of_getElem? (i := 14) rfl)) (jWr_23 _ (List.mem_of_getElem? (i := 15) rfl)) (jWr_23 _ (List.mem_of_getElem? (i := 16) rfl)) (jWr_1 _ (List.mem_of_getElem? (i := 22) rfl)) (jWr_23 _ (List.mem_of_getElem? (i := 17) rfl))) rfl rfl rfl (by decide +kernel) ⟨by rw [← hR]; exact Nat.le_of_ble_eq_true rfl, by rw [← hR]; exact Nat.le_of_ble_eq_true rfl⟩) ⟨fun a U g mk q => by obtain ⟨q0, q1, q2, qK, q10, q11, q12, q13, q14, q15, q16⟩ := q; exact ⟨q0, q1, q2, jG.calling g mk a qK, q10, q11, q12, q13, q14, q15, q16⟩, hh.recv (C := RX4) (T := TX4) (N := 12) hB6 rfl (by decide) hg_r0 hK, fun U hU hW => ⟨rfl, hU, hh.2.1, hG.step hW hU hh.1, hg_r0, hg_wk, hg_wi, hg_wz, (hh.2.2.1.sub (L1 := [(r0, 6, 7, .int pv), (r0, 6, 0, .ref wk), (r0, 6, 1, .ref wi), (r0, 6, 2, .ref wz)]) [0, 1, 2, 3] rfl), (hh.2.2.2.2.2.2.2.1.sub (L1 := [(wk, 140, 1502, ca 1, fk), (wi, 141, 1502, ca 1, fi), (wz, 142, 1502, ca 1, fz)]) [0, 1, 2] rfl), by first | omega | (refine ⟨?_, ?_⟩ <;> (first | omega | rfl | assumption | decide | exact Or.inl rfl | exact Or.inr rfl | (simp only; omega)))⟩⟩ rfl rfl hl.1 rfl (lv_room (Nat.le_of_ble_eq_true rfl)) dX4_unitsOf_2 ⟨by rw [hRc]; show _ + 0 ≤ _; omega, by rw [hRs]; show _ + 0 ≤ _; omega⟩) hh.1 (fun q _ h => h) (fun q h => h) (fun r_2 u_1 t_1 H_1 locs_1 ht_1 hvm_1 hr_2 hb_1 hz_1 hk_1 hS_1 => ?_)
  rw [ht_1] at hb_1
  obtain ⟨hb_11, hb_12, hb_13, hb_14, hb_15⟩ := hb_1
  have hh_1 : jSt (dC, dI) B base G0 G0 EX4_unitsOf s.heap 0 0 [(r0, 6, 7, .int pv), (r0, 6, 0, .ref wk), (r0, 6, 1, .ref wi), (r0, 6, 2, .ref wz)] [(wk, 140, 1502, ca 1, fk), (wi, 141, 1502, ca 1, fi), (wz, 142, 1502, ca 1, fz)] [] H_1 locs_1 := ((hh.call hb_11 hb_12 hb_13 hb_14 hS_1 rfl (L1 := [(r0, 6, 7, .int pv), (r0, 6, 0, .ref wk), (r0, 6, 1, .ref wi), (r0, 6, 2, .ref wz)]) [0, 1, 2, 3] rfl rfl (M1 := [(wk, 140, 1502, ca 1, fk), (wi, 141, 1502, ca 1, fi), (wz, 142, 1502, ca 1, fz)]) [0, 1, 2] rfl rfl (I1 := []) [] rfl rfl).more hb_15)
  clear hh ht_1 hvm_1 hz_1 hk_1 hS_1 hb_11 hb_12 hb_13 hb_14 hb_15
  refine lv_iconst (v := 3) hx hb dX4_unitsOf_5 (by decide) ?_
  have C23 : ∀ (w0_3 : Int32) (H_3 : Heap) (locs_3 : List Loc), jSt (dC, dI) B base G0 G0 EX4_unitsOf s.heap 0 0 [(r0, 6, 7, .int pv), (r0, 6, 0, .ref wk), (r0, 6, 1, .ref wi), (r0, 6, 2, .ref wz)] [(wk, 140, 1502, ca 1, fk), (wi, 141, 1502, ca 1, fi), (wz, 142, 1502, ca 1, fz)] [] H_3 locs_3 → (0 ≤ w0_3.toInt ∧ w0_3.toInt ≤ 3000) → ∀ ls : Array Slot, lv_has ls 4 [(0, .ref r0), (1, .int a1)] → W p l e R s m ([.ref r0, .int a1] : List Value).toArray below meth c H_3 locs_3 0 0 Q (F0 m 23 ls [.int w0_3]) := by
    intro w0_3 H_3 locs_3 hh_3  hi_3 ls hl
    obtain ⟨hi_3_0, hi_3_1⟩ := hi_3
    try clear hr_2
    have hsz_4 := hh_3.2.2.2.2.2.1
    have htt_4 := hh_3.2.2.2.2.2.2.1
    refine j7_newiK hx hb hK hh_3 hB (atype := .int) (ty := .int) (htw (.arrayClass .int) (jWr_3 _ (List.mem_of_getElem? (i := 20) rfl))) rfl rfl (fun _ h => h) hB101 1 rfl (by decide) (by decide) hbs (x := w0_3.toInt) rfl (by omega) (fun j => by first | trivial | decide | rfl | exact Or.inl rfl | (refine ⟨?_, ?_⟩ <;> decide)) (by rw [hRc]; omega) (by rw [hRs]; omega) dX4_unitsOf_23 (fun H_4 hfr_4 hh_4 => ?_)
    have hh_4 : jSt (dC, dI) B base G0 (va_up G0 H_3.size (some (101, (w0_3.toInt).toNat))) EX4_unitsOf s.heap (0 + 1) (0 + (w0_3.toInt).toNat) [(r0, 6, 7, .int pv), (r0, 6, 0, .ref wk), (r0, 6, 1, .ref wi), (r0, 6, 2, .ref wz)] [(wk, 140, 1502, ca 1, fk), (wi, 141, 1502, ca 1, fi), (wz, 142, 1502, ca 1, fz)] [] H_4 locs_3 := hh_4
    have hN_4 : (jNk [0, 1, 2, 3, 4, 5, 6, 7, 8, 9, 10, 11, 12, 13, 14, 15, 16]) G0 (va_up G0 H_3.size (some (101, (w0_3.toInt).toNat))) := jNk.new (by decide)
    have hgn_4 : (va_up G0 H_3.size (some (101, (w0_3.toInt).toNat))) H_3.size = some (101, (w0_3.toInt).toNat) := jUp_self
    have hle_4 : jLe G0 (va_up G0 H_3.size (some (101, (w0_3.toInt).toNat))) := jLe.new hh_3.2.1.fresh
    have hke_4 : jKe G0 (va_up G0 H_3.size (some (101, (w0_3.toInt).toNat))) H_3 H_4 := jKe.new hfr_4
    have hsy_4 : s.heap.size ≤ H_3.size := hh_3.1.1
    generalize (va_up G0 H_3.size (some (101, (w0_3.toInt).toNat))) = G_4 at hN_4 hgn_4 hle_4 hke_4 hh_4
    generalize hnc_4 : (w0_3.toInt).toNat = nc_4 at hgn_4 hh_4 ⊢
    clear hh_3
    have hNn_4 : (jNk [0, 1, 2, 3, 4, 5, 6, 7, 8, 9, 10, 11, 12, 13, 14, 15, 16]) G0 G_4 := (jNk.rf).tr hN_4
    have hg_5 := hle_4 _ _ hg_r0
    have hg_6 := hle_4 _ _ hg_wk
    have hg_7 := hle_4 _ _ hg_wi
    have hg_8 := hle_4 _ _ hg_wz
    refine lv_astore_n (lv' := [(2, .ref H_3.size), (0, .ref r0), (1, .int a1)]) hx hb dX4_unitsOf_25 rfl hl (by decide) rfl (fun ls hl => ?_)
    refine lv_iconst (v := 0) hx hb dX4_unitsOf_26 (by decide) ?_
    refine lv_istore_n (lv' := [(3, .int 0), (2, .ref H_3.size), (0, .ref r0), (1, .int a1)]) hx hb dX4_unitsOf_27 rfl hl (by decide) rfl (fun ls hl => ?_)
    have L28 : ∀ (N : Nat) (v3_9 : Int32) (H_9 : Heap) (locs_9 : List Loc), jSt (dC, dI) B base G0 G_4 EX4_unitsOf s.heap (0 + 1) (0 + nc_4) [(r0, 6, 7, .int pv), (r0, 6, 0, .ref wk), (r0, 6, 1, .ref wi), (r0, 6, 2, .ref wz)] [(wk, 140, 1502, ca 1, fk), (wi, 141, 1502, ca 1, fi), (wz, 142, 1502, ca 1, fz)] [] H_9 locs_9 → (0 ≤ v3_9.toInt ∧ v3_9.toInt ≤ 3000) → (3001 - v3_9.toInt : Int) < N → ∀ ls : Array Slot, lv_has ls 4 [(0, .ref r0), (1, .int a1), (2, .ref H_3.size), (3, .int v3_9)] → W p l e R s m ([.ref r0, .int a1] : List Value).toArray below meth c H_9 locs_9 (0 + 1) (0 + nc_4) Q (F0 m 28 ls []) := by
      intro N
      induction N with
      | zero => intro v3_9 H_9 locs_9 hh_9  hi_9 hm; exact absurd hm (by omega)
      | succ N L28 =>
        intro v3_9 H_9 locs_9 hh_9  hi_9 hm_9 ls hl
        obtain ⟨hi_9_0, hi_9_1⟩ := hi_9
        refine lv_iload_n hx hb dX4_unitsOf_28 rfl (lv_at hl 3 rfl) ?_
        refine lv_aload_n hx hb dX4_unitsOf_29 rfl (lv_at hl 2 rfl) ?_
        refine j7_len hx hb hK hh_9 hB101 1 rfl (by decide) hgn_4 (by omega) dX4_unitsOf_30 (fun z_10 hz_10 => ?_)
        refine lv_icmp_ge (tgt := 49) hx hb dX4_unitsOf_31 (by decide) (fun c_11 => ?_) (fun c_11 => ?_)
        · skip
          have c_11' : v3_9.toInt ≥ z_10.toInt := jb_ge (rfl) (rfl) c_11
          refine lv_aload_n hx hb dX4_unitsOf_49 rfl (lv_at hl 2 rfl) ?_
          have hsz_12 := hh_9.2.2.2.2.2.1
          have htt_12 := hh_9.2.2.2.2.2.2.1
          refine W.room (fun hrc_12 hrs_12 => ?_)
          refine W.widen (k := LC - s.heap.size) (n := LS - jTot s.heap) (by omega) (by omega) ?_
          rw [hQ]
          exact W.aret (v := .ref H_3.size) hx hb hr (Or.inr ⟨_, rfl⟩) (Or.inr ⟨_, rfl⟩) (fun t ht hW => ⟨⟨.ref H_3.size, (nc_4, G_4), rfl, ⟨⟨_, rfl, hgn_4⟩, ⟨_, rfl, hsy_4⟩, by (try dsimp only); first | omega | rfl | assumption | fail⟩, ⟨hh_9.ra (by first | omega | (simp only; omega)) (by first | omega | (simp only; omega)) (M1 := []) [] rfl ht, hNn_4⟩⟩, by rw [ht]; try exact hh_9.1.1, fun q h9 hq => by rw [ht]; try exact hh_9.1.2.1 q h9 hq⟩) hh_9.1.2.2 dX4_unitsOf_50
        · skip
          have c_11' : v3_9.toInt < z_10.toInt := jb_ge_n (rfl) (rfl) c_11
          refine lv_aload_n hx hb dX4_unitsOf_34 rfl (lv_at hl 2 rfl) ?_
          refine lv_iload_n hx hb dX4_unitsOf_35 rfl (lv_at hl 3 rfl) ?_
          refine lv_aload_n hx hb dX4_unitsOf_36 rfl (lv_at hl 0 rfl) ?_
          refine lv_iload_n hx hb dX4_unitsOf_37 rfl (lv_at hl 1 rfl) ?_
          refine lv_iload_n hx hb dX4_unitsOf_38 rfl (lv_at hl 3 rfl) ?_
          have hsz_13 := hh_9.2.2.2.2.2.1
          have htt_13 := hh_9.2.2.2.2.2.2.1
          refine W.room (fun hrc_13 hrs_13 => ?_)
          refine va_calli (A0 := jA base) (H0 := s.heap) (va_runV (As := [.int a1, .int v3_9]) (rest := [.int v3_9, .ref H_3.size]) ⟨hx, hb, hml, hown, hts⟩ (uX4_unitAt l dC dI ca base B hB hAp hB6 hB140 hB141 hB142 hB146 G_4 H_9 r0 a1 v3_9) (cwV 2 hts (jgV (jWr_25 _ (List.mem_of_getElem? (i := 4) rfl)) (jWr_25 _ (List.mem_of_getElem? (i := 5) rfl)) (jWr_25 _ (List.mem_of_getElem? (i := 6) rfl)) (jWr_1 _ (List.mem_of_getElem? (i := 22) rfl)) (jWr_25 _ (List.mem_of_getElem? (i := 7) rfl))) rfl rfl rfl (by decide +kernel) ⟨by rw [← hR]; exact Nat.le_of_ble_eq_true rfl, by rw [← hR]; exact Nat.le_of_ble_eq_true rfl⟩) ⟨fun a U g mk q => by obtain ⟨q0, q1, q2, qK, q10, q11, q12⟩ := q; exact ⟨q0, q1, q2, jG.calling g mk a qK, q10, q11, q12⟩, hh_9.recv (C := RX4) (T := TX4) (N := 12) hB6 rfl (by decide) hg_5 hK, fun U hU hW => ⟨rfl, hU, hh_9.2.1, hG.step hW hU hh_9.1, hg_5, jP.nil, trivial⟩⟩ rfl rfl hl.1 rfl (lv_room (Nat.le_of_ble_eq_true rfl)) dX4_unitsOf_39 ⟨by rw [hRc]; show _ + 0 ≤ _; omega, by rw [hRs]; show _ + 0 ≤ _; omega⟩) hh_9.1 (fun q _ h => h) (fun q h => h) (fun r_14 u_13 t_13 H_13 locs_13 ht_13 hvm_13 hr_14 hb_13 hz_13 hk_13 hS_13 => ?_)
          rw [ht_13] at hb_13
          obtain ⟨hb_131, hb_132, hb_133, hb_134, hb_135⟩ := hb_13
          have hh_13 : jSt (dC, dI) B base G0 G_4 EX4_unitsOf s.heap (0 + 1) (0 + nc_4) [(r0, 6, 7, .int pv), (r0, 6, 0, .ref wk), (r0, 6, 1, .ref wi), (r0, 6, 2, .ref wz)] [(wk, 140, 1502, ca 1, fk), (wi, 141, 1502, ca 1, fi), (wz, 142, 1502, ca 1, fz)] [] H_13 locs_13 := ((hh_9.call hb_131 hb_132 hb_133 hb_134 hS_13 rfl (L1 := [(r0, 6, 7, .int pv), (r0, 6, 0, .ref wk), (r0, 6, 1, .ref wi), (r0, 6, 2, .ref wz)]) [0, 1, 2, 3] rfl rfl (M1 := [(wk, 140, 1502, ca 1, fk), (wi, 141, 1502, ca 1, fi), (wz, 142, 1502, ca 1, fz)]) [0, 1, 2] rfl rfl (I1 := []) [] rfl rfl).more hb_135)
          clear hh_9 ht_13 hvm_13 hz_13 hk_13 hS_13 hb_131 hb_132 hb_133 hb_134 hb_135
          refine j7_iast hx hb hK hh_13 hB hB101 1 rfl (by decide) (by decide) rfl rfl rfl hgn_4 (x := v3_9.toInt) (rfl) (by omega) (trivial) dX4_unitsOf_42 (fun H_15 locs_15 hh_15 => ?_)
          clear hh_13
          obtain ⟨z_16, ez_16⟩ : ∃ y : Int32, y = v3_9 + 1 := ⟨_, rfl⟩
          refine lv_iinc (v := z_16) (lv' := [(3, .int z_16), (0, .ref r0), (1, .int a1), (2, .ref H_3.size)]) hx hb dX4_unitsOf_43 hl (k := 3) rfl (by rw [ez_16]; rfl) (by decide) rfl (fun ls hl => ?_)
          have hz_16 : z_16.toInt = v3_9.toInt + 1 := by rw [ez_16]; exact jb_iadd2 (rfl) (by decide) (by omega)
          refine lv_goto (tgt := 28) hx hb dX4_unitsOf_46 (by decide) ?_
          refine W.tight (c2 := (0 + 1)) (n2 := (0 + nc_4)) hh_15.2.2.2.2.2.1 hh_15.2.2.2.2.2.2.1 ?_
          exact L28 z_16 _ _ hh_15 (by first | omega | (refine ⟨?_, ?_⟩ <;> (first | omega | rfl | assumption | decide | exact Or.inl rfl | exact Or.inr rfl | (simp only; omega)))) (by omega) _ (lv_sub hl [1, 2, 3, 0] rfl)
    refine W.tight (c2 := (0 + 1)) (n2 := (0 + nc_4)) hh_4.2.2.2.2.2.1 hh_4.2.2.2.2.2.2.1 ?_
    exact L28 (3001 - (0 : Int32).toInt : Int).toNat.succ 0 _ _ hh_4 (by first | omega | (refine ⟨?_, ?_⟩ <;> (first | omega | rfl | assumption | decide | exact Or.inl rfl | exact Or.inr rfl | (simp only; omega)))) (by omega) _ (lv_sub hl [2, 3, 1, 0] rfl)
  refine lv_icmp_ne (tgt := 22) hx hb dX4_unitsOf_6 (by decide) (fun c_17 => ?_) (fun c_17 => ?_)
  · skip
    have c_17' : r_2.toInt ≠ 3 := jb_ne (rfl) ((by decide)) c_17
    try clear hr_2
    refine lv_iconst (v := 0) hx hb dX4_unitsOf_22 (by decide) ?_
    refine W.tight (c2 := 0) (n2 := 0) hh_1.2.2.2.2.2.1 hh_1.2.2.2.2.2.2.1 ?_
    exact C23 0 _ _ hh_1 (by first | omega | (refine ⟨?_, ?_⟩ <;> (first | omega | rfl | assumption | decide | exact Or.inl rfl | exact Or.inr rfl | (simp only; omega)))) _ (lv_sub hl [0, 1] rfl)
  · skip
    have c_17' : r_2.toInt = 3 := jb_ne_n (rfl) ((by decide)) c_17
    first | (have hr_2q := hr_2.resolve_left (by omega); clear hr_2) | (have hr_2q := hr_2.resolve_right (by omega); clear hr_2) | try clear hr_2
    have hj3 := hp2 a1.toInt (by omega) (by omega) (by omega)
    refine lv_aload_n hx hb dX4_unitsOf_9 rfl (lv_at hl 0 rfl) ?_
    refine j7_read hx hb hown hK (C := RX4) (T := TX4) (N := 12) rfl hly_6_2 hlk_18 (hh_1.at 3 rfl) dX4_unitsOf_10 ?_
    refine lv_iload_n hx hb dX4_unitsOf_13 rfl (lv_at hl 1 rfl) ?_
    refine j7_ialdM hx hb hK hh_1 hB142 1 rfl (by decide) hg_wz (x := a1.toInt) (rfl) (by omega) (j := 2) rfl dX4_unitsOf_14 (fun z_18 ez_18 (hz_18 : True) => ?_)
    have hqz_18 : z_18.toInt = jSo fz (a1.toInt) := by unfold jSo; rw [ez_18]
    refine lv_iconst (v := 0) hx hb dX4_unitsOf_15 (by decide) ?_
    have hsz_19 := hh_1.2.2.2.2.2.1
    have htt_19 := hh_1.2.2.2.2.2.2.1
    refine W.room (fun hrc_19 hrs_19 => ?_)
    refine va_mmax hx hb (by rw [hml]; exact hl.1.symm) hown (htw (.methodLink RX4 86 Lib.Math.max.name) (jWr_25 _ (List.mem_of_getElem? (i := 3) rfl))) (htw (.static Lib.Math.max.name) (jWr_3 _ (List.mem_of_getElem? (i := 6) rfl))) (htw (.initialized "java/lang/Math") (jWr_3 _ (List.mem_of_getElem? (i := 7) rfl))) (htw (.code Lib.Math.max.name Lib.Math.max.code 2 (some .int)) (jWr_3 _ (List.mem_of_getElem? (i := 8) rfl))) (by rw [← hR]; exact Nat.le_of_ble_eq_true rfl) (by rw [← hR]; exact Nat.le_of_ble_eq_true rfl) (by rw [hRc]; omega) (by rw [hRs]; omega) dX4_unitsOf_16 ?_
    refine lv_topi (fun z_20 ez_20 => ?_)
    have hz_20 := jb_max ez_20
    refine lv_goto (tgt := 23) hx hb dX4_unitsOf_19 (by decide) ?_
    refine W.tight (c2 := 0) (n2 := 0) hh_1.2.2.2.2.2.1 hh_1.2.2.2.2.2.2.1 ?_
    exact C23 z_20 _ _ hh_1 (by first | omega | (refine ⟨?_, ?_⟩ <;> (first | omega | rfl | assumption | decide | exact Or.inl rfl | exact Or.inr rfl | (simp only; omega)))) _ (lv_sub hl [0, 1] rfl)
