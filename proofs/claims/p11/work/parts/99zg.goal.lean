theorem dX3_init_0 : decode cX3_init 0 = .ok (.aload_n 0, 1) := by decide +kernel
theorem dX3_init_1 : decode cX3_init 1 = .ok (.invokespecial 3, 3) := by decide +kernel
theorem dX3_init_4 : decode cX3_init 4 = .ok (.aload_n 0, 1) := by decide +kernel
theorem dX3_init_5 : decode cX3_init 5 = .ok (.aload_n 1, 1) := by decide +kernel
theorem dX3_init_6 : decode cX3_init 6 = .ok (.putfield 9, 3) := by decide +kernel
theorem dX3_init_9 : decode cX3_init 9 = .ok (.aload_n 0, 1) := by decide +kernel
theorem dX3_init_10 : decode cX3_init 10 = .ok (.aload_n 2, 1) := by decide +kernel
theorem dX3_init_11 : decode cX3_init 11 = .ok (.putfield 15, 3) := by decide +kernel
theorem dX3_init_14 : decode cX3_init 14 = .ok (.aload_n 0, 1) := by decide +kernel
theorem dX3_init_15 : decode cX3_init 15 = .ok (.aload_n 3, 1) := by decide +kernel
theorem dX3_init_16 : decode cX3_init 16 = .ok (.putfield 18, 3) := by decide +kernel
theorem dX3_init_19 : decode cX3_init 19 = .ok (.aload_n 0, 1) := by decide +kernel
theorem dX3_init_20 : decode cX3_init 20 = .ok (.aload 4, 2) := by decide +kernel
theorem dX3_init_22 : decode cX3_init 22 = .ok (.putfield 22, 3) := by decide +kernel
theorem dX3_init_25 : decode cX3_init 25 = .ok (.return_, 1) := by decide +kernel
theorem dX3_withFormula_0 : decode cX3_withFormula 0 = .ok (.new 10, 3) := by decide +kernel
theorem dX3_withFormula_3 : decode cX3_withFormula 3 = .ok (.dup, 1) := by decide +kernel
theorem dX3_withFormula_4 : decode cX3_withFormula 4 = .ok (.aload_n 0, 1) := by decide +kernel
theorem dX3_withFormula_5 : decode cX3_withFormula 5 = .ok (.getfield 9, 3) := by decide +kernel
theorem dX3_withFormula_8 : decode cX3_withFormula 8 = .ok (.aload_n 0, 1) := by decide +kernel
theorem dX3_withFormula_9 : decode cX3_withFormula 9 = .ok (.getfield 15, 3) := by decide +kernel
theorem dX3_withFormula_12 : decode cX3_withFormula 12 = .ok (.aload_n 0, 1) := by decide +kernel
theorem dX3_withFormula_13 : decode cX3_withFormula 13 = .ok (.getfield 18, 3) := by decide +kernel
theorem dX3_withFormula_16 : decode cX3_withFormula 16 = .ok (.aload_n 1, 1) := by decide +kernel
theorem dX3_withFormula_17 : decode cX3_withFormula 17 = .ok (.invokespecial 25, 3) := by decide +kernel
theorem dX3_withFormula_20 : decode cX3_withFormula 20 = .ok (.areturn, 1) := by decide +kernel
theorem dX3_withVariable_0 : decode cX3_withVariable 0 = .ok (.new 10, 3) := by decide +kernel
theorem dX3_withVariable_3 : decode cX3_withVariable 3 = .ok (.dup, 1) := by decide +kernel
theorem dX3_withVariable_4 : decode cX3_withVariable 4 = .ok (.aload_n 0, 1) := by decide +kernel
theorem dX3_withVariable_5 : decode cX3_withVariable 5 = .ok (.getfield 9, 3) := by decide +kernel
theorem dX3_withVariable_8 : decode cX3_withVariable 8 = .ok (.iload_n 1, 1) := by decide +kernel
theorem dX3_withVariable_9 : decode cX3_withVariable 9 = .ok (.invokestatic 28, 3) := by decide +kernel
theorem dX3_withVariable_12 : decode cX3_withVariable 12 = .ok (.aload_n 0, 1) := by decide +kernel
theorem dX3_withVariable_13 : decode cX3_withVariable 13 = .ok (.getfield 15, 3) := by decide +kernel
theorem dX3_withVariable_16 : decode cX3_withVariable 16 = .ok (.aload_n 0, 1) := by decide +kernel
theorem dX3_withVariable_17 : decode cX3_withVariable 17 = .ok (.getfield 18, 3) := by decide +kernel
theorem dX3_withVariable_20 : decode cX3_withVariable 20 = .ok (.aload_n 2, 1) := by decide +kernel
theorem dX3_withVariable_21 : decode cX3_withVariable 21 = .ok (.invokespecial 25, 3) := by decide +kernel
theorem dX3_withVariable_24 : decode cX3_withVariable 24 = .ok (.areturn, 1) := by decide +kernel
def EX3_init : List (Nat × Nat) := []
def EX3_initZ : List (Nat × Nat) := []
def EX3_withFormula : List (Nat × Nat) := []
def EX3_withFormulaZ : List (Nat × Nat) := []
def EX3_withVariable : List (Nat × Nat) := [(101, 0)]
def EX3_withVariableZ : List (Nat × Nat) := [(101, 0)]
set_option maxHeartbeats 4000000 in
set_option maxRecDepth 20000 in
theorem uX3_init (l : Launch) (dC : Nat → ClassId) (dI : Nat → Nat → Nat) (ca : Nat → ClassId) (base : Nat) (B : jF) (hB : jBok B) (hAp : jAp (dC, dI)) (hB5 : ∀ n G a H, B 5 n G a H ↔ jOb (dC, dI) 5 4 (F5 n G) a H) (hB101 : ∀ n G a H, B 101 n G a H ↔ jAr (dC, dI) (ca 1) (fun j z => True) n a H) (hB280 : ∀ n G a H, B 280 n G a H ↔ jAr (dC, dI) (ca 1) (fun j z => -1 ≤ z.toInt) n a H) (hB313 : ∀ n G a H, B 313 n G a H ↔ jAq (dC, dI) (ca 8) (jQk 280 80) n G a H) (G0 : jT) (H0 : Heap) (r0 : Nat) (r1 : Nat) (r2 : Nat) (r3 : Nat) (r4 : Nat) (n1 : Nat) (n2 : Nat) (n3 : Nat) (n4 : Nat) (kn : Nat) (LC LS : Nat) : Met l yX3_init (jw yX3_init cX3_init 5 none) ({ frames := 1, cells := LC - H0.size, slots := LS - jTot H0, locals := 31 }) (va_Pc [.ref r0, .ref r1, .ref r2, .ref r3, .ref r4] (fun U => U.heap = H0 ∧ jX B base G0 [] H0 ∧ jG dC dI ca base U ∧ G0 r1 = some (101, n1) ∧ G0 r2 = some (101, n2) ∧ G0 r3 = some (313, n3) ∧ G0 r4 = some (280, n4) ∧ va_at (dC, dI) vwCl (r0, .inr (5, [.null, .null, .null, .null])) H0 ∧ (∀ t, G0 r0 ≠ some t) ∧ base ≤ r0 ∧ jP (dC, dI) G0 H0 [] ∧ H0.size + 0 ≤ LC ∧ jTot H0 + 0 ≤ LS ∧ n3 = n2 ∧ n1 ≤ 7 ∧ n2 ≤ 9 ∧ kn / 10 = n2 ∧ n4 ≤ 80 ∧ ((kn % 10 = 1 ∧ n1 ≤ 6 ∧ n2 ≤ 8) ∨ (kn % 10 = 2 ∧ 6 < n1) ∨ (kn % 10 = 3 ∧ 8 < n2)))) (va_Qv (S := jT) (fun u => True) (fun u t => jRa (dC, dI) B base G0 u EX3_init H0 (0) (0) [] t.heap ∧ (jNk [0, 1, 2, 3, 4, 6, 7, 8, 9, 10, 11, 12, 13, 14, 15, 16]) G0 u ∧ u r0 = some (5, kn) ∧ jKx r0 G0 u H0 t.heap) (jA base)) (LC - H0.size) (LS - jTot H0) (jA base) := by
  refine Met.ofW (cc := cX3_init) (maxL := 5) (ret := none) (by decide) rfl ?_
  intro p e s m args below meth c s₁ Bd hml hv
  obtain ⟨rfl, hH0, hX, hG, hg_r1, hg_r2, hg_r3, hg_r4, hraw0, hnr0, hbr0, hP0, hLC0, hLS0, hp0, hp1, hp2, hp3, hp4, hp5⟩ := hv
  have hK := hG.1
  have hx := Bd.exec
  have hb := Bd.bytes
  have hr := Bd.returns
  have hts := atoms_spec (ws := (jw yX3_init cX3_init 5 none)) Bd.pre
  have htw : ∀ w ∈ jWl, w.before _ s = true := fun w h => hts w (List.mem_cons_of_mem _ h)
  have hown : s.vm.findClass RX3 = some m.cls := findClass_of_methodNamed Bd.named
  have hlocks := Bd.notSynchronized
  obtain ⟨Q, hQ⟩ : ∃ Q, Q = MQ below (va_Qv (S := jT) (fun u => True) (fun u t => jRa (dC, dI) B base G0 u EX3_init H0 (0) (0) [] t.heap ∧ (jNk [0, 1, 2, 3, 4, 6, 7, 8, 9, 10, 11, 12, 13, 14, 15, 16]) G0 u ∧ u r0 = some (5, kn) ∧ jKx r0 G0 u H0 t.heap) (jA base)) ([.ref r0, .ref r1, .ref r2, .ref r3, .ref r4] : List Value).toArray s (LC - H0.size) (LS - jTot H0) (jA base) := ⟨_, rfl⟩
  rw [← hQ]
  have hl := lv_entry ([.ref r0, .ref r1, .ref r2, .ref r3, .ref r4]) (n := 5) (Nat.le_of_ble_eq_true rfl)
  rw [lg_entry_eq]
  generalize (lg_sl ([.ref r0, .ref r1, .ref r2, .ref r3, .ref r4]) ++ List.replicate (5 - (lg_sl ([.ref r0, .ref r1, .ref r2, .ref r3, .ref r4])).length) Slot.unset).toArray = ls at hl ⊢
  have hl : lv_has ls 5 [(0, .ref r0), (1, .ref r1), (2, .ref r2), (3, .ref r3), (4, .ref r4)] := hl
  generalize hR : (headSpec (jw yX3_init cX3_init 5 none) ({ frames := 1, cells := LC - H0.size, slots := LS - jTot H0, locals := 31 })).room = R
  subst hH0
  have hh : jSt (dC, dI) B base G0 G0 EX3_init s.heap 0 0 [] [] [] s.heap [] := jSt.start hX hP0 jMc.nil jIs.nil
  clear hX hP0
  have hk0 : (0 : Int32).toInt = 0 := by decide
  have hk1 : (1 : Int32).toInt = 1 := by decide
  have hly_5_0 := htw (u_lay RX3 TX3 0) (jWc_wsX30 _ (u_in_lay (by decide)))
  have hly_5_1 := htw (u_lay RX3 TX3 1) (jWc_wsX30 _ (u_in_lay (by decide)))
  have hly_5_2 := htw (u_lay RX3 TX3 2) (jWc_wsX30 _ (u_in_lay (by decide)))
  have hly_5_3 := htw (u_lay RX3 TX3 3) (jWc_wsX30 _ (u_in_lay (by decide)))
  have hlk_9 := (htw (.fieldLink RX3 9 "ProofServer$Goal" "variables" "[I") (jWr_83 _ (List.mem_of_getElem? (i := 10) rfl)))
  have hlk_15 := (htw (.fieldLink RX3 15 "ProofServer$Goal" "names" "[I") (jWr_83 _ (List.mem_of_getElem? (i := 11) rfl)))
  have hlk_18 := (htw (.fieldLink RX3 18 "ProofServer$Goal" "hypotheses" "[[I") (jWr_83 _ (List.mem_of_getElem? (i := 12) rfl)))
  have hlk_22 := (htw (.fieldLink RX3 22 "ProofServer$Goal" "formula" "[I") (jWr_83 _ (List.mem_of_getElem? (i := 13) rfl)))
  have hbs : base ≤ s.heap.size := Nat.le_of_lt (Nat.lt_of_le_of_lt hbr0 hraw0.lt)
  have hRc : R.cells = LC - s.heap.size := by rw [← hR]; rfl
  have hRs : R.slots = LS - jTot s.heap := by rw [← hR]; rfl
  have hin2 : meth.name = "<init>" := (name_of_methodNamed Bd.named Bd.method).1
  have hkp : jKx r0 G0 G0 s.heap s.heap := jKx.rf
  refine lv_aload_n hx hb dX3_init_0 rfl (lv_at hl 0 rfl) ?_
  refine W.objInit hx hb hown (htw (.methodLink RX3 3 objectInit) (jWr_83 _ (List.mem_of_getElem? (i := 9) rfl))) (htw (.instanceMethod objectInit) (jWr_1 _ (List.mem_of_getElem? (i := 10) rfl))) (htw (.code objectInit ⟨#[0xb1]⟩ 1 none) (jWr_1 _ (List.mem_of_getElem? (i := 11) rfl))) rfl (by rw [hml]; exact hl.1) rfl dX3_init_1 (by rw [← hR]; exact Nat.le_of_ble_eq_true rfl) (by rw [← hR]; exact Nat.le_of_ble_eq_true rfl) ?_
  refine W.eq (g2 := F0 m 4 ls []) rfl ?_
  refine lv_aload_n hx hb dX3_init_4 rfl (lv_at hl 0 rfl) ?_
  refine lv_aload_n hx hb dX3_init_5 rfl (lv_at hl 1 rfl) ?_
  refine j7_putRF hx hb hown hK hh hB hAp hraw0 hnr0 hbr0 (C := RX3) (T := TX3) (N := 4) rfl (i := 0) (by decide) (Nat.le_of_ble_eq_true rfl) hly_5_0 rfl hin2 rfl hlk_9 (ty := (.array .int)) (v := .ref r1) (by decide +kernel) rfl rfl dX3_init_6 (fun H_1 locs_1 hraw_1 hr_1 hh_1 => ?_)
  have hraw_1 : va_at (dC, dI) vwCl (r0, .inr (5, [.ref r1, .null, .null, .null])) H_1 := hraw_1
  have hkp_2 := hkp.put hr_1
  clear hh
  refine lv_aload_n hx hb dX3_init_9 rfl (lv_at hl 0 rfl) ?_
  refine lv_aload_n hx hb dX3_init_10 rfl (lv_at hl 2 rfl) ?_
  refine j7_putRF hx hb hown hK hh_1 hB hAp hraw_1 hnr0 hbr0 (C := RX3) (T := TX3) (N := 4) rfl (i := 1) (by decide) (Nat.le_of_ble_eq_true rfl) hly_5_1 rfl hin2 rfl hlk_15 (ty := (.array .int)) (v := .ref r2) (by decide +kernel) rfl rfl dX3_init_11 (fun H_3 locs_3 hraw_3 hr_3 hh_3 => ?_)
  have hraw_3 : va_at (dC, dI) vwCl (r0, .inr (5, [.ref r1, .ref r2, .null, .null])) H_3 := hraw_3
  have hkp_4 := hkp_2.put hr_3
  clear hh_1
  refine lv_aload_n hx hb dX3_init_14 rfl (lv_at hl 0 rfl) ?_
  refine lv_aload_n hx hb dX3_init_15 rfl (lv_at hl 3 rfl) ?_
  refine j7_putRF hx hb hown hK hh_3 hB hAp hraw_3 hnr0 hbr0 (C := RX3) (T := TX3) (N := 4) rfl (i := 2) (by decide) (Nat.le_of_ble_eq_true rfl) hly_5_2 rfl hin2 rfl hlk_18 (ty := (.array (.array .int))) (v := .ref r3) (by decide +kernel) rfl rfl dX3_init_16 (fun H_5 locs_5 hraw_5 hr_5 hh_5 => ?_)
  have hraw_5 : va_at (dC, dI) vwCl (r0, .inr (5, [.ref r1, .ref r2, .ref r3, .null])) H_5 := hraw_5
  have hkp_6 := hkp_4.put hr_5
  clear hh_3
  refine lv_aload_n hx hb dX3_init_19 rfl (lv_at hl 0 rfl) ?_
  refine lv_aload hx hb dX3_init_20 (lv_at hl 4 rfl) ?_
  refine j7_putRF hx hb hown hK hh_5 hB hAp hraw_5 hnr0 hbr0 (C := RX3) (T := TX3) (N := 4) rfl (i := 3) (by decide) (Nat.le_of_ble_eq_true rfl) hly_5_3 rfl hin2 rfl hlk_22 (ty := (.array .int)) (v := .ref r4) (by decide +kernel) rfl rfl dX3_init_22 (fun H_7 locs_7 hraw_7 hr_7 hh_7 => ?_)
  have hraw_7 : va_at (dC, dI) vwCl (r0, .inr (5, [.ref r1, .ref r2, .ref r3, .ref r4])) H_7 := hraw_7
  have hkp_8 := hkp_6.put hr_7
  clear hh_5
  have hsz_9 := hh_7.2.2.2.2.2.1
  have htt_9 := hh_7.2.2.2.2.2.2.1
  refine W.room (fun hrc_9 hrs_9 => ?_)
  refine W.widen (k := LC - s.heap.size) (n := LS - jTot s.heap) (by omega) (by omega) ?_
  rw [hQ]
  have hle_10 : jLe G0 (va_up G0 r0 (some (5, kn))) := jLe.typ hnr0
  have hg_11 := hle_10 _ _ hg_r1
  have hg_12 := hle_10 _ _ hg_r2
  have hg_13 := hle_10 _ _ hg_r3
  have hg_14 := hle_10 _ _ hg_r4
  have hg_15 := (jLe.rf).tr hle_10 _ _ hg_r1
  have hg_16 := (jLe.rf).tr hle_10 _ _ hg_r2
  have hg_17 := (jLe.rf).tr hle_10 _ _ hg_r3
  have hg_18 := (jLe.rf).tr hle_10 _ _ hg_r4
  have hfa_10 : jGv kn (va_up G0 r0 (some (5, kn))) (.ref r1) ∧ jGn kn (va_up G0 r0 (some (5, kn))) (.ref r2) ∧ jGh kn (va_up G0 r0 (some (5, kn))) (.ref r3) ∧ jGfo kn (va_up G0 r0 (some (5, kn))) (.ref r4) ∧ True := ⟨⟨_, _, rfl, hg_15, by omega, by omega, by omega⟩, ⟨_, rfl, jSz hg_16 (by omega)⟩, ⟨_, 313, rfl, jSz hg_17 (by omega), by omega, by omega, by omega, by omega, by omega⟩, Or.inr ⟨_, _, rfl, hg_18, by omega, by omega, by omega⟩, trivial⟩
  have hh_10 := hh_7.typ (k := 5) (n := kn) hB hnr0 hbr0 hraw_7.lt (jOb.of (C := RX3) (T := TX3) (N := 4) (F := F5) hB5 rfl hraw_7 (show jFx (F5 kn (va_up G0 r0 (some (5, kn)))) [.ref r1, .ref r2, .ref r3, .ref r4] from hfa_10))
  have hgn_10 : (va_up G0 r0 (some (5, kn))) r0 = some (5, kn) := jUp_self
  have hN_10 : (jNk [0, 1, 2, 3, 4, 6, 7, 8, 9, 10, 11, 12, 13, 14, 15, 16]) G0 (va_up G0 r0 (some (5, kn))) := jNk.new (by decide)
  have hNn_10 : (jNk [0, 1, 2, 3, 4, 6, 7, 8, 9, 10, 11, 12, 13, 14, 15, 16]) G0 (va_up G0 r0 (some (5, kn))) := (jNk.rf).tr hN_10
  have hkp_19 := hkp_8.typ (t := some (5, kn))
  exact W.vret hx hb hr (fun t ht hW => ⟨⟨(va_up G0 r0 (some (5, kn))), rfl, trivial, ⟨hh_10.ra (by first | omega | (simp only; omega)) (by first | omega | (simp only; omega)) (M1 := []) [] rfl ht, hNn_10, hgn_10, by rw [ht]; exact hkp_19⟩⟩, by rw [ht]; try exact hh_10.1.1, fun q h9 hq => by rw [ht]; try exact hh_10.1.2.1 q h9 hq⟩) hh_10.1.2.2 dX3_init_25
set_option maxHeartbeats 4000000 in
set_option maxRecDepth 20000 in
theorem uX3_initZ (l : Launch) (dC : Nat → ClassId) (dI : Nat → Nat → Nat) (ca : Nat → ClassId) (base : Nat) (B : jF) (hB : jBok B) (hAp : jAp (dC, dI)) (hB5 : ∀ n G a H, B 5 n G a H ↔ jOb (dC, dI) 5 4 (F5 n G) a H) (hB101 : ∀ n G a H, B 101 n G a H ↔ jAr (dC, dI) (ca 1) (fun j z => True) n a H) (hB280 : ∀ n G a H, B 280 n G a H ↔ jAr (dC, dI) (ca 1) (fun j z => -1 ≤ z.toInt) n a H) (hB313 : ∀ n G a H, B 313 n G a H ↔ jAq (dC, dI) (ca 8) (jQk 280 80) n G a H) (G0 : jT) (H0 : Heap) (r0 : Nat) (r1 : Nat) (r2 : Nat) (r3 : Nat) (n1 : Nat) (n2 : Nat) (n3 : Nat) (kn : Nat) (LC LS : Nat) : Met l yX3_init (jw yX3_init cX3_init 5 none) ({ frames := 1, cells := LC - H0.size, slots := LS - jTot H0, locals := 31 }) (va_Pc [.ref r0, .ref r1, .ref r2, .ref r3, .null] (fun U => U.heap = H0 ∧ jX B base G0 [] H0 ∧ jG dC dI ca base U ∧ G0 r1 = some (101, n1) ∧ G0 r2 = some (101, n2) ∧ G0 r3 = some (313, n3) ∧ va_at (dC, dI) vwCl (r0, .inr (5, [.null, .null, .null, .null])) H0 ∧ (∀ t, G0 r0 ≠ some t) ∧ base ≤ r0 ∧ jP (dC, dI) G0 H0 [] ∧ H0.size + 0 ≤ LC ∧ jTot H0 + 0 ≤ LS ∧ n3 = n2 ∧ n1 ≤ 7 ∧ n2 ≤ 9 ∧ kn / 10 = n2 ∧ kn % 10 = 0)) (va_Qv (S := jT) (fun u => True) (fun u t => jRa (dC, dI) B base G0 u EX3_initZ H0 (0) (0) [] t.heap ∧ (jNk [0, 1, 2, 3, 4, 6, 7, 8, 9, 10, 11, 12, 13, 14, 15, 16]) G0 u ∧ u r0 = some (5, kn) ∧ jKx r0 G0 u H0 t.heap) (jA base)) (LC - H0.size) (LS - jTot H0) (jA base) := by
  refine Met.ofW (cc := cX3_init) (maxL := 5) (ret := none) (by decide) rfl ?_
  intro p e s m args below meth c s₁ Bd hml hv
  obtain ⟨rfl, hH0, hX, hG, hg_r1, hg_r2, hg_r3, hraw0, hnr0, hbr0, hP0, hLC0, hLS0, hp0, hp1, hp2, hp3, hp4⟩ := hv
  have hK := hG.1
  have hx := Bd.exec
  have hb := Bd.bytes
  have hr := Bd.returns
  have hts := atoms_spec (ws := (jw yX3_init cX3_init 5 none)) Bd.pre
  have htw : ∀ w ∈ jWl, w.before _ s = true := fun w h => hts w (List.mem_cons_of_mem _ h)
  have hown : s.vm.findClass RX3 = some m.cls := findClass_of_methodNamed Bd.named
  have hlocks := Bd.notSynchronized
  obtain ⟨Q, hQ⟩ : ∃ Q, Q = MQ below (va_Qv (S := jT) (fun u => True) (fun u t => jRa (dC, dI) B base G0 u EX3_initZ H0 (0) (0) [] t.heap ∧ (jNk [0, 1, 2, 3, 4, 6, 7, 8, 9, 10, 11, 12, 13, 14, 15, 16]) G0 u ∧ u r0 = some (5, kn) ∧ jKx r0 G0 u H0 t.heap) (jA base)) ([.ref r0, .ref r1, .ref r2, .ref r3, .null] : List Value).toArray s (LC - H0.size) (LS - jTot H0) (jA base) := ⟨_, rfl⟩
  rw [← hQ]
  have hl := lv_entry ([.ref r0, .ref r1, .ref r2, .ref r3, .null]) (n := 5) (Nat.le_of_ble_eq_true rfl)
  rw [lg_entry_eq]
  generalize (lg_sl ([.ref r0, .ref r1, .ref r2, .ref r3, .null]) ++ List.replicate (5 - (lg_sl ([.ref r0, .ref r1, .ref r2, .ref r3, .null])).length) Slot.unset).toArray = ls at hl ⊢
  have hl : lv_has ls 5 [(0, .ref r0), (1, .ref r1), (2, .ref r2), (3, .ref r3), (4, .null)] := hl
  generalize hR : (headSpec (jw yX3_init cX3_init 5 none) ({ frames := 1, cells := LC - H0.size, slots := LS - jTot H0, locals := 31 })).room = R
  subst hH0
  have hh : jSt (dC, dI) B base G0 G0 EX3_initZ s.heap 0 0 [] [] [] s.heap [] := jSt.start hX hP0 jMc.nil jIs.nil
  clear hX hP0
  have hk0 : (0 : Int32).toInt = 0 := by decide
  have hk1 : (1 : Int32).toInt = 1 := by decide
  have hly_5_0 := htw (u_lay RX3 TX3 0) (jWc_wsX30 _ (u_in_lay (by decide)))
  have hly_5_1 := htw (u_lay RX3 TX3 1) (jWc_wsX30 _ (u_in_lay (by decide)))
  have hly_5_2 := htw (u_lay RX3 TX3 2) (jWc_wsX30 _ (u_in_lay (by decide)))
  have hly_5_3 := htw (u_lay RX3 TX3 3) (jWc_wsX30 _ (u_in_lay (by decide)))
  have hlk_9 := (htw (.fieldLink RX3 9 "ProofServer$Goal" "variables" "[I") (jWr_83 _ (List.mem_of_getElem? (i := 10) rfl)))
  have hlk_15 := (htw (.fieldLink RX3 15 "ProofServer$Goal" "names" "[I") (jWr_83 _ (List.mem_of_getElem? (i := 11) rfl)))
  have hlk_18 := (htw (.fieldLink RX3 18 "ProofServer$Goal" "hypotheses" "[[I") (jWr_83 _ (List.mem_of_getElem? (i := 12) rfl)))
  have hlk_22 := (htw (.fieldLink RX3 22 "ProofServer$Goal" "formula" "[I") (jWr_83 _ (List.mem_of_getElem? (i := 13) rfl)))
  have hbs : base ≤ s.heap.size := Nat.le_of_lt (Nat.lt_of_le_of_lt hbr0 hraw0.lt)
  have hRc : R.cells = LC - s.heap.size := by rw [← hR]; rfl
  have hRs : R.slots = LS - jTot s.heap := by rw [← hR]; rfl
  have hin2 : meth.name = "<init>" := (name_of_methodNamed Bd.named Bd.method).1
  have hkp : jKx r0 G0 G0 s.heap s.heap := jKx.rf
  refine lv_aload_n hx hb dX3_init_0 rfl (lv_at hl 0 rfl) ?_
  refine W.objInit hx hb hown (htw (.methodLink RX3 3 objectInit) (jWr_83 _ (List.mem_of_getElem? (i := 9) rfl))) (htw (.instanceMethod objectInit) (jWr_1 _ (List.mem_of_getElem? (i := 10) rfl))) (htw (.code objectInit ⟨#[0xb1]⟩ 1 none) (jWr_1 _ (List.mem_of_getElem? (i := 11) rfl))) rfl (by rw [hml]; exact hl.1) rfl dX3_init_1 (by rw [← hR]; exact Nat.le_of_ble_eq_true rfl) (by rw [← hR]; exact Nat.le_of_ble_eq_true rfl) ?_
  refine W.eq (g2 := F0 m 4 ls []) rfl ?_
  refine lv_aload_n hx hb dX3_init_4 rfl (lv_at hl 0 rfl) ?_
  refine lv_aload_n hx hb dX3_init_5 rfl (lv_at hl 1 rfl) ?_
  refine j7_putRF hx hb hown hK hh hB hAp hraw0 hnr0 hbr0 (C := RX3) (T := TX3) (N := 4) rfl (i := 0) (by decide) (Nat.le_of_ble_eq_true rfl) hly_5_0 rfl hin2 rfl hlk_9 (ty := (.array .int)) (v := .ref r1) (by decide +kernel) rfl rfl dX3_init_6 (fun H_1 locs_1 hraw_1 hr_1 hh_1 => ?_)
  have hraw_1 : va_at (dC, dI) vwCl (r0, .inr (5, [.ref r1, .null, .null, .null])) H_1 := hraw_1
  have hkp_2 := hkp.put hr_1
  clear hh
  refine lv_aload_n hx hb dX3_init_9 rfl (lv_at hl 0 rfl) ?_
  refine lv_aload_n hx hb dX3_init_10 rfl (lv_at hl 2 rfl) ?_
  refine j7_putRF hx hb hown hK hh_1 hB hAp hraw_1 hnr0 hbr0 (C := RX3) (T := TX3) (N := 4) rfl (i := 1) (by decide) (Nat.le_of_ble_eq_true rfl) hly_5_1 rfl hin2 rfl hlk_15 (ty := (.array .int)) (v := .ref r2) (by decide +kernel) rfl rfl dX3_init_11 (fun H_3 locs_3 hraw_3 hr_3 hh_3 => ?_)
  have hraw_3 : va_at (dC, dI) vwCl (r0, .inr (5, [.ref r1, .ref r2, .null, .null])) H_3 := hraw_3
  have hkp_4 := hkp_2.put hr_3
  clear hh_1
  refine lv_aload_n hx hb dX3_init_14 rfl (lv_at hl 0 rfl) ?_
  refine lv_aload_n hx hb dX3_init_15 rfl (lv_at hl 3 rfl) ?_
  refine j7_putRF hx hb hown hK hh_3 hB hAp hraw_3 hnr0 hbr0 (C := RX3) (T := TX3) (N := 4) rfl (i := 2) (by decide) (Nat.le_of_ble_eq_true rfl) hly_5_2 rfl hin2 rfl hlk_18 (ty := (.array (.array .int))) (v := .ref r3) (by decide +kernel) rfl rfl dX3_init_16 (fun H_5 locs_5 hraw_5 hr_5 hh_5 => ?_)
  have hraw_5 : va_at (dC, dI) vwCl (r0, .inr (5, [.ref r1, .ref r2, .ref r3, .null])) H_5 := hraw_5
  have hkp_6 := hkp_4.put hr_5
  clear hh_3
  refine lv_aload_n hx hb dX3_init_19 rfl (lv_at hl 0 rfl) ?_
  refine j7_nld hx hb dX3_init_20 (lv_at hl 4 rfl) ?_
  refine j7_putRF hx hb hown hK hh_5 hB hAp hraw_5 hnr0 hbr0 (C := RX3) (T := TX3) (N := 4) rfl (i := 3) (by decide) (Nat.le_of_ble_eq_true rfl) hly_5_3 rfl hin2 rfl hlk_22 (ty := (.array .int)) (v := .null) (by decide +kernel) rfl rfl dX3_init_22 (fun H_7 locs_7 hraw_7 hr_7 hh_7 => ?_)
  have hraw_7 : va_at (dC, dI) vwCl (r0, .inr (5, [.ref r1, .ref r2, .ref r3, .null])) H_7 := hraw_7
  have hkp_8 := hkp_6.put hr_7
  clear hh_5
  have hsz_9 := hh_7.2.2.2.2.2.1
  have htt_9 := hh_7.2.2.2.2.2.2.1
  refine W.room (fun hrc_9 hrs_9 => ?_)
  refine W.widen (k := LC - s.heap.size) (n := LS - jTot s.heap) (by omega) (by omega) ?_
  rw [hQ]
  have hle_10 : jLe G0 (va_up G0 r0 (some (5, kn))) := jLe.typ hnr0
  have hg_11 := hle_10 _ _ hg_r1
  have hg_12 := hle_10 _ _ hg_r2
  have hg_13 := hle_10 _ _ hg_r3
  have hg_14 := (jLe.rf).tr hle_10 _ _ hg_r1
  have hg_15 := (jLe.rf).tr hle_10 _ _ hg_r2
  have hg_16 := (jLe.rf).tr hle_10 _ _ hg_r3
  have hfa_10 : jGv kn (va_up G0 r0 (some (5, kn))) (.ref r1) ∧ jGn kn (va_up G0 r0 (some (5, kn))) (.ref r2) ∧ jGh kn (va_up G0 r0 (some (5, kn))) (.ref r3) ∧ jGfo kn (va_up G0 r0 (some (5, kn))) (.null) ∧ True := ⟨⟨_, _, rfl, hg_14, by omega, by omega, by omega⟩, ⟨_, rfl, jSz hg_15 (by omega)⟩, ⟨_, 313, rfl, jSz hg_16 (by omega), by omega, by omega, by omega, by omega, by omega⟩, Or.inl ⟨rfl, by omega⟩, trivial⟩
  have hh_10 := hh_7.typ (k := 5) (n := kn) hB hnr0 hbr0 hraw_7.lt (jOb.of (C := RX3) (T := TX3) (N := 4) (F := F5) hB5 rfl hraw_7 (show jFx (F5 kn (va_up G0 r0 (some (5, kn)))) [.ref r1, .ref r2, .ref r3, .null] from hfa_10))
  have hgn_10 : (va_up G0 r0 (some (5, kn))) r0 = some (5, kn) := jUp_self
  have hN_10 : (jNk [0, 1, 2, 3, 4, 6, 7, 8, 9, 10, 11, 12, 13, 14, 15, 16]) G0 (va_up G0 r0 (some (5, kn))) := jNk.new (by decide)
  have hNn_10 : (jNk [0, 1, 2, 3, 4, 6, 7, 8, 9, 10, 11, 12, 13, 14, 15, 16]) G0 (va_up G0 r0 (some (5, kn))) := (jNk.rf).tr hN_10
  have hkp_17 := hkp_8.typ (t := some (5, kn))
  exact W.vret hx hb hr (fun t ht hW => ⟨⟨(va_up G0 r0 (some (5, kn))), rfl, trivial, ⟨hh_10.ra (by first | omega | (simp only; omega)) (by first | omega | (simp only; omega)) (M1 := []) [] rfl ht, hNn_10, hgn_10, by rw [ht]; exact hkp_17⟩⟩, by rw [ht]; try exact hh_10.1.1, fun q h9 hq => by rw [ht]; try exact hh_10.1.2.1 q h9 hq⟩) hh_10.1.2.2 dX3_init_25
set_option maxHeartbeats 4000000 in
set_option maxRecDepth 20000 in
theorem uX3_withFormula (l : Launch) (dC : Nat → ClassId) (dI : Nat → Nat → Nat) (ca : Nat → ClassId) (base : Nat) (B : jF) (hB : jBok B) (hAp : jAp (dC, dI)) (hB5 : ∀ n G a H, B 5 n G a H ↔ jOb (dC, dI) 5 4 (F5 n G) a H) (hB101 : ∀ n G a H, B 101 n G a H ↔ jAr (dC, dI) (ca 1) (fun j z => True) n a H) (hB280 : ∀ n G a H, B 280 n G a H ↔ jAr (dC, dI) (ca 1) (fun j z => -1 ≤ z.toInt) n a H) (hB313 : ∀ n G a H, B 313 n G a H ↔ jAq (dC, dI) (ca 8) (jQk 280 80) n G a H) (G0 : jT) (H0 : Heap) (r0 : Nat) (r1 : Nat) (n0 : Nat) (n1 : Nat) (LC LS : Nat) : Met l yX3_withFormula (jw yX3_withFormula cX3_withFormula 2 (some (.object "ProofServer$Goal"))) ({ frames := 2, cells := LC - H0.size, slots := LS - jTot H0, locals := 55 }) (va_Pc [.ref r0, .ref r1] (fun U => U.heap = H0 ∧ jX B base G0 [] H0 ∧ jG dC dI ca base U ∧ G0 r0 = some (5, n0) ∧ G0 r1 = some (280, n1) ∧ jP (dC, dI) G0 H0 [] ∧ H0.size + 1 ≤ LC ∧ jTot H0 + 4 ≤ LS ∧ (n0 % 10 = 1 ∨ n0 % 10 = 2 ∨ n0 % 10 = 3) ∧ n1 ≤ 80)) (jQx (S := Nat × jT) (fun v u => jRf u.2 5 u.1 v ∧ jNwv v H0 ∧ u.1 = n0) (fun u t => jRa (dC, dI) B base G0 u.2 EX3_withFormula H0 (1) (4) [] t.heap ∧ (jNk [0, 1, 2, 3, 4, 6, 7, 8, 9, 10, 11, 12, 13, 14, 15, 16]) G0 u.2) (jA base)) (LC - H0.size) (LS - jTot H0) (jA base) := by
  refine Met.ofW (cc := cX3_withFormula) (maxL := 2) (ret := (some (.object "ProofServer$Goal"))) (by decide) rfl ?_
  intro p e s m args below meth c s₁ Bd hml hv
  obtain ⟨rfl, hH0, hX, hG, hg_r0, hg_r1, hP0, hLC0, hLS0, hp0, hp1⟩ := hv
  have hK := hG.1
  have hx := Bd.exec
  have hb := Bd.bytes
  have hr := Bd.returns
  have hts := atoms_spec (ws := (jw yX3_withFormula cX3_withFormula 2 (some (.object "ProofServer$Goal")))) Bd.pre
  have htw : ∀ w ∈ jWl, w.before _ s = true := fun w h => hts w (List.mem_cons_of_mem _ h)
  have hown : s.vm.findClass RX3 = some m.cls := findClass_of_methodNamed Bd.named
  have hlocks := Bd.notSynchronized
  obtain ⟨Q, hQ⟩ : ∃ Q, Q = MQ below (jQx (S := Nat × jT) (fun v u => jRf u.2 5 u.1 v ∧ jNwv v H0 ∧ u.1 = n0) (fun u t => jRa (dC, dI) B base G0 u.2 EX3_withFormula H0 (1) (4) [] t.heap ∧ (jNk [0, 1, 2, 3, 4, 6, 7, 8, 9, 10, 11, 12, 13, 14, 15, 16]) G0 u.2) (jA base)) ([.ref r0, .ref r1] : List Value).toArray s (LC - H0.size) (LS - jTot H0) (jA base) := ⟨_, rfl⟩
  rw [← hQ]
  have hl := lv_entry ([.ref r0, .ref r1]) (n := 2) (Nat.le_of_ble_eq_true rfl)
  rw [lg_entry_eq]
  generalize (lg_sl ([.ref r0, .ref r1]) ++ List.replicate (2 - (lg_sl ([.ref r0, .ref r1])).length) Slot.unset).toArray = ls at hl ⊢
  have hl : lv_has ls 2 [(0, .ref r0), (1, .ref r1)] := hl
  generalize hR : (headSpec (jw yX3_withFormula cX3_withFormula 2 (some (.object "ProofServer$Goal"))) ({ frames := 2, cells := LC - H0.size, slots := LS - jTot H0, locals := 55 })).room = R
  subst hH0
  have hh : jSt (dC, dI) B base G0 G0 EX3_withFormula s.heap 0 0 [] [] [] s.heap [] := jSt.start hX hP0 jMc.nil jIs.nil
  clear hX hP0
  have hk0 : (0 : Int32).toInt = 0 := by decide
  have hk1 : (1 : Int32).toInt = 1 := by decide
  have hly_5_0 := htw (u_lay RX3 TX3 0) (jWc_wsX30 _ (u_in_lay (by decide)))
  have hly_5_1 := htw (u_lay RX3 TX3 1) (jWc_wsX30 _ (u_in_lay (by decide)))
  have hly_5_2 := htw (u_lay RX3 TX3 2) (jWc_wsX30 _ (u_in_lay (by decide)))
  have hlk_9 := (htw (.fieldLink RX3 9 "ProofServer$Goal" "variables" "[I") (jWr_83 _ (List.mem_of_getElem? (i := 10) rfl)))
  have hlk_15 := (htw (.fieldLink RX3 15 "ProofServer$Goal" "names" "[I") (jWr_83 _ (List.mem_of_getElem? (i := 11) rfl)))
  have hlk_18 := (htw (.fieldLink RX3 18 "ProofServer$Goal" "hypotheses" "[[I") (jWr_83 _ (List.mem_of_getElem? (i := 12) rfl)))
  have hbs : base ≤ s.heap.size := Nat.le_of_lt (Nat.lt_of_le_of_lt (hh.ab hg_r0).1 (hh.ab hg_r0).2)
  have hRc : R.cells = LC - s.heap.size := by rw [← hR]; rfl
  have hRs : R.slots = LS - jTot s.heap := by rw [← hR]; rfl
  have hsz_1 := hh.2.2.2.2.2.1
  have htt_1 := hh.2.2.2.2.2.2.1
  refine j7_newo (k := 5) (C := RX3) (T := TX3) (N := 4) (fs := [.null, .null, .null, .null]) hx hb htw jWc_wsX30 (fun k => ([(.array .int), (.array .int), (.array (.array .int)), (.array .int)] : List FieldType).getD k .int) (by decide +kernel) hown (htw (.classLink RX3 10 RX3) (jWr_85 _ (List.mem_of_getElem? (i := 4) rfl))) (htw (.instantiable RX3 4) (jWr_82 _ (List.mem_of_getElem? (i := 9) rfl))) (htw (.initialized RX3) (jWr_82 _ (List.mem_of_getElem? (i := 10) rfl))) hK rfl (fun j hj => by rcases (by omega : j = 0 ∨ j = 1 ∨ j = 2 ∨ j = 3) with rfl | rfl | rfl | rfl <;> rfl) hh hB (by rw [hRc]; omega) (by rw [hRs]; omega) dX3_withFormula_0 (fun H_1 hraw_1 hfr_1 hnr_1 hh_1 => ?_)
  have hke_1 : jKe G0 G0 s.heap H_1 := jKe.raw hfr_1
  have hbr_1 : base ≤ s.heap.size := Nat.le_trans hbs hh.1.1
  have hsy_1 : s.heap.size ≤ s.heap.size := hh.1.1
  clear hh
  refine lv_dup hx hb dX3_withFormula_3 rfl ?_
  refine lv_aload_n hx hb dX3_withFormula_4 rfl (lv_at hl 0 rfl) ?_
  obtain ⟨v_2, hv_2, hh_3⟩ := hh_1.pin (C := RX3) (T := TX3) (N := 4) hB5 rfl (by decide) hg_r0 (i := 0) (by decide) rfl
  clear hh_1
  obtain ⟨variables_4, nvariables_4, rfl, hg_variables_4, hvavariables_4, hvbvariables_4, hvcvariables_4⟩ := hv_2
  refine j7_read hx hb hown hK (C := RX3) (T := TX3) (N := 4) rfl hly_5_0 hlk_9 (hh_3.at 0 rfl) dX3_withFormula_5 ?_
  refine lv_aload_n hx hb dX3_withFormula_8 rfl (lv_at hl 0 rfl) ?_
  obtain ⟨v_5, hv_5, hh_6⟩ := hh_3.pin (C := RX3) (T := TX3) (N := 4) hB5 rfl (by decide) hg_r0 (i := 1) (by decide) rfl
  clear hh_3
  obtain ⟨names_7, rfl, hg_names_7⟩ := hv_5
  refine j7_read hx hb hown hK (C := RX3) (T := TX3) (N := 4) rfl hly_5_1 hlk_15 (hh_6.at 0 rfl) dX3_withFormula_9 ?_
  refine lv_aload_n hx hb dX3_withFormula_12 rfl (lv_at hl 0 rfl) ?_
  obtain ⟨v_8, hv_8, hh_9⟩ := hh_6.pin (C := RX3) (T := TX3) (N := 4) hB5 rfl (by decide) hg_r0 (i := 2) (by decide) rfl
  clear hh_6
  obtain ⟨hypotheses_10, khypotheses_10, rfl, hg_hypotheses_10, hhahypotheses_10, hhbhypotheses_10, hhchypotheses_10, hhdhypotheses_10, hhehypotheses_10⟩ := hv_8
  obtain rfl : khypotheses_10 = 313 := hhbhypotheses_10 (by omega)
  refine j7_read hx hb hown hK (C := RX3) (T := TX3) (N := 4) rfl hly_5_2 hlk_18 (hh_9.at 0 rfl) dX3_withFormula_13 ?_
  refine lv_aload_n hx hb dX3_withFormula_16 rfl (lv_at hl 1 rfl) ?_
  have hsz_11 := hh_9.2.2.2.2.2.1
  have htt_11 := hh_9.2.2.2.2.2.2.1
  refine W.room (fun hrc_11 hrs_11 => ?_)
  refine va_callv (A0 := jA base) (H0 := s.heap) (va_runI (As := [.ref variables_4, .ref names_7, .ref hypotheses_10, .ref r1]) (rest := [.ref s.heap.size]) ⟨hx, hb, hml, hown, hts⟩ (uX3_init l dC dI ca base B hB hAp hB5 hB101 hB280 hB313 G0 H_1 s.heap.size variables_4 names_7 hypotheses_10 r1 nvariables_4 (n0 / 10) (n0 / 10) n1 n0 LC LS) (cwI 4 hts (jgW (jWr_83 _ (List.mem_of_getElem? (i := 8) rfl))) rfl rfl rfl (htw (.initialized RX3) (jWr_82 _ (List.mem_of_getElem? (i := 10) rfl))) (htw (.methodLink RX3 25 yX3_init) (jWr_85 _ (List.mem_of_getElem? (i := 7) rfl))) (htw (.instanceMethod yX3_init) (jWr_83 _ (List.mem_of_getElem? (i := 7) rfl))) rfl (by decide +kernel) ⟨by rw [← hR]; exact Nat.le_of_ble_eq_true rfl, by rw [← hR]; exact Nat.le_of_ble_eq_true rfl⟩) ⟨fun a U g mk q => by obtain ⟨q0, q1, q2, qK, q10, q11, q12, q13, q14, q15, q16, q17, q18⟩ := q; exact ⟨q0, q1, q2, jG.calling g mk a qK, q10, q11, q12, q13, q14, q15, q16, q17, q18⟩, fun U hU hW => ⟨rfl, hU, hh_9.2.1, hG.step hW hU hh_9.1, hg_variables_4, hg_names_7, hg_hypotheses_10, hg_r1, hraw_1, hnr_1, hbr_1, jP.nil, (by omega), (by omega), by first | omega | (refine ⟨?_, ?_, ?_, ?_, ?_, ?_⟩ <;> (first | omega | rfl | assumption | decide | exact Or.inl rfl | exact Or.inr rfl | (simp only; omega)))⟩⟩ rfl rfl hl.1 rfl (lv_room (Nat.le_of_ble_eq_true rfl)) dX3_withFormula_17 ⟨by rw [hRc]; omega, by rw [hRs]; omega⟩) hh_9.1 (fun q _ h => h) (fun q h => h) (fun u_11 t_11 H_11 locs_11 ht_11 hvm_11 hr_12 hb_11 hz_11 hk_11 hS_11 => ?_)
  rw [ht_11] at hb_11
  obtain ⟨G_11, rfl⟩ : ∃ z, z = u_11 := ⟨_, rfl⟩
  try simp only at hb_11
  obtain ⟨⟨hb_111, hb_112, hb_113, hb_114, hb_115, hb_116⟩, hN_11, hgc_11, hbX_11⟩ := hb_11
  have hh_11 : jSt (dC, dI) B base G0 G_11 EX3_withFormula s.heap ((0 + 1) + (0)) ((0 + 4) + (0)) [(r0, 5, 2, .ref hypotheses_10), (r0, 5, 1, .ref names_7), (r0, 5, 0, .ref variables_4)] [] [] H_11 locs_11 := (hh_9.callG hb_111 hb_112 hb_113 hb_114 hb_115 hS_11 rfl (L1 := [(r0, 5, 2, .ref hypotheses_10), (r0, 5, 1, .ref names_7), (r0, 5, 0, .ref variables_4)]) [0, 1, 2] rfl rfl (M1 := []) [] rfl rfl (I1 := []) [] rfl rfl).more hb_116
  have hNn_11 : (jNk [0, 1, 2, 3, 4, 6, 7, 8, 9, 10, 11, 12, 13, 14, 15, 16]) G0 G_11 := (jNk.rf).tr hN_11
  have hg_13 := hb_112 _ _ hg_r0
  have hg_14 := hb_112 _ _ hg_r1
  have hg_15 := hb_112 _ _ hg_hypotheses_10
  have hg_16 := hb_112 _ _ hg_names_7
  have hg_17 := hb_112 _ _ hg_variables_4
  try simp only at hr_12
  have hsz_18 := hh_11.2.2.2.2.2.1
  have htt_18 := hh_11.2.2.2.2.2.2.1
  refine W.room (fun hrc_18 hrs_18 => ?_)
  refine W.widen (k := LC - s.heap.size) (n := LS - jTot s.heap) (by omega) (by omega) ?_
  rw [hQ]
  exact W.aret (v := .ref s.heap.size) hx hb hr (Or.inl ⟨_, rfl⟩) (Or.inr ⟨_, rfl⟩) (fun t ht hW => ⟨⟨.ref s.heap.size, (n0, G_11), rfl, ⟨⟨_, rfl, hgc_11⟩, ⟨_, rfl, hsy_1⟩, by first | rfl | ((try dsimp only); first | omega | rfl | assumption | fail)⟩, ⟨hh_11.ra (by first | omega | (simp only; omega)) (by first | omega | (simp only; omega)) (M1 := []) [] rfl ht, hNn_11⟩⟩, by rw [ht]; try exact hh_11.1.1, fun q h9 hq => by rw [ht]; try exact hh_11.1.2.1 q h9 hq⟩) hh_11.1.2.2 dX3_withFormula_20
set_option maxHeartbeats 4000000 in
set_option maxRecDepth 20000 in
theorem uX3_withFormulaZ (l : Launch) (dC : Nat → ClassId) (dI : Nat → Nat → Nat) (ca : Nat → ClassId) (base : Nat) (B : jF) (hB : jBok B) (hAp : jAp (dC, dI)) (hB5 : ∀ n G a H, B 5 n G a H ↔ jOb (dC, dI) 5 4 (F5 n G) a H) (hB101 : ∀ n G a H, B 101 n G a H ↔ jAr (dC, dI) (ca 1) (fun j z => True) n a H) (hB280 : ∀ n G a H, B 280 n G a H ↔ jAr (dC, dI) (ca 1) (fun j z => -1 ≤ z.toInt) n a H) (hB313 : ∀ n G a H, B 313 n G a H ↔ jAq (dC, dI) (ca 8) (jQk 280 80) n G a H) (G0 : jT) (H0 : Heap) (r0 : Nat) (n0 : Nat) (LC LS : Nat) : Met l yX3_withFormula (jw yX3_withFormula cX3_withFormula 2 (some (.object "ProofServer$Goal"))) ({ frames := 2, cells := LC - H0.size, slots := LS - jTot H0, locals := 55 }) (va_Pc [.ref r0, .null] (fun U => U.heap = H0 ∧ jX B base G0 [] H0 ∧ jG dC dI ca base U ∧ G0 r0 = some (5, n0) ∧ jP (dC, dI) G0 H0 [] ∧ H0.size + 1 ≤ LC ∧ jTot H0 + 4 ≤ LS ∧ (n0 % 10 = 1 ∨ n0 % 10 = 2 ∨ n0 % 10 = 3))) (jQx (S := Nat × jT) (fun v u => jRf u.2 5 u.1 v ∧ jNwv v H0 ∧ u.1 = 10 * (n0 / 10)) (fun u t => jRa (dC, dI) B base G0 u.2 EX3_withFormulaZ H0 (1) (4) [] t.heap ∧ (jNk [0, 1, 2, 3, 4, 6, 7, 8, 9, 10, 11, 12, 13, 14, 15, 16]) G0 u.2) (jA base)) (LC - H0.size) (LS - jTot H0) (jA base) := by
  refine Met.ofW (cc := cX3_withFormula) (maxL := 2) (ret := (some (.object "ProofServer$Goal"))) (by decide) rfl ?_
  intro p e s m args below meth c s₁ Bd hml hv
  obtain ⟨rfl, hH0, hX, hG, hg_r0, hP0, hLC0, hLS0, hp0⟩ := hv
  have hK := hG.1
  have hx := Bd.exec
  have hb := Bd.bytes
  have hr := Bd.returns
  have hts := atoms_spec (ws := (jw yX3_withFormula cX3_withFormula 2 (some (.object "ProofServer$Goal")))) Bd.pre
  have htw : ∀ w ∈ jWl, w.before _ s = true := fun w h => hts w (List.mem_cons_of_mem _ h)
  have hown : s.vm.findClass RX3 = some m.cls := findClass_of_methodNamed Bd.named
  have hlocks := Bd.notSynchronized
  obtain ⟨Q, hQ⟩ : ∃ Q, Q = MQ below (jQx (S := Nat × jT) (fun v u => jRf u.2 5 u.1 v ∧ jNwv v H0 ∧ u.1 = 10 * (n0 / 10)) (fun u t => jRa (dC, dI) B base G0 u.2 EX3_withFormulaZ H0 (1) (4) [] t.heap ∧ (jNk [0, 1, 2, 3, 4, 6, 7, 8, 9, 10, 11, 12, 13, 14, 15, 16]) G0 u.2) (jA base)) ([.ref r0, .null] : List Value).toArray s (LC - H0.size) (LS - jTot H0) (jA base) := ⟨_, rfl⟩
  rw [← hQ]
  have hl := lv_entry ([.ref r0, .null]) (n := 2) (Nat.le_of_ble_eq_true rfl)
  rw [lg_entry_eq]
  generalize (lg_sl ([.ref r0, .null]) ++ List.replicate (2 - (lg_sl ([.ref r0, .null])).length) Slot.unset).toArray = ls at hl ⊢
  have hl : lv_has ls 2 [(0, .ref r0), (1, .null)] := hl
  generalize hR : (headSpec (jw yX3_withFormula cX3_withFormula 2 (some (.object "ProofServer$Goal"))) ({ frames := 2, cells := LC - H0.size, slots := LS - jTot H0, locals := 55 })).room = R
  subst hH0
  have hh : jSt (dC, dI) B base G0 G0 EX3_withFormulaZ s.heap 0 0 [] [] [] s.heap [] := jSt.start hX hP0 jMc.nil jIs.nil
  clear hX hP0
  have hk0 : (0 : Int32).toInt = 0 := by decide
  have hk1 : (1 : Int32).toInt = 1 := by decide
  have hly_5_0 := htw (u_lay RX3 TX3 0) (jWc_wsX30 _ (u_in_lay (by decide)))
  have hly_5_1 := htw (u_lay RX3 TX3 1) (jWc_wsX30 _ (u_in_lay (by decide)))
  have hly_5_2 := htw (u_lay RX3 TX3 2) (jWc_wsX30 _ (u_in_lay (by decide)))
  have hlk_9 := (htw (.fieldLink RX3 9 "ProofServer$Goal" "variables" "[I") (jWr_83 _ (List.mem_of_getElem? (i := 10) rfl)))
  have hlk_15 := (htw (.fieldLink RX3 15 "ProofServer$Goal" "names" "[I") (jWr_83 _ (List.mem_of_getElem? (i := 11) rfl)))
  have hlk_18 := (htw (.fieldLink RX3 18 "ProofServer$Goal" "hypotheses" "[[I") (jWr_83 _ (List.mem_of_getElem? (i := 12) rfl)))
  have hbs : base ≤ s.heap.size := Nat.le_of_lt (Nat.lt_of_le_of_lt (hh.ab hg_r0).1 (hh.ab hg_r0).2)
  have hRc : R.cells = LC - s.heap.size := by rw [← hR]; rfl
  have hRs : R.slots = LS - jTot s.heap := by rw [← hR]; rfl
  have hsz_1 := hh.2.2.2.2.2.1
  have htt_1 := hh.2.2.2.2.2.2.1
  refine j7_newo (k := 5) (C := RX3) (T := TX3) (N := 4) (fs := [.null, .null, .null, .null]) hx hb htw jWc_wsX30 (fun k => ([(.array .int), (.array .int), (.array (.array .int)), (.array .int)] : List FieldType).getD k .int) (by decide +kernel) hown (htw (.classLink RX3 10 RX3) (jWr_85 _ (List.mem_of_getElem? (i := 4) rfl))) (htw (.instantiable RX3 4) (jWr_82 _ (List.mem_of_getElem? (i := 9) rfl))) (htw (.initialized RX3) (jWr_82 _ (List.mem_of_getElem? (i := 10) rfl))) hK rfl (fun j hj => by rcases (by omega : j = 0 ∨ j = 1 ∨ j = 2 ∨ j = 3) with rfl | rfl | rfl | rfl <;> rfl) hh hB (by rw [hRc]; omega) (by rw [hRs]; omega) dX3_withFormula_0 (fun H_1 hraw_1 hfr_1 hnr_1 hh_1 => ?_)
  have hke_1 : jKe G0 G0 s.heap H_1 := jKe.raw hfr_1
  have hbr_1 : base ≤ s.heap.size := Nat.le_trans hbs hh.1.1
  have hsy_1 : s.heap.size ≤ s.heap.size := hh.1.1
  clear hh
  refine lv_dup hx hb dX3_withFormula_3 rfl ?_
  refine lv_aload_n hx hb dX3_withFormula_4 rfl (lv_at hl 0 rfl) ?_
  obtain ⟨v_2, hv_2, hh_3⟩ := hh_1.pin (C := RX3) (T := TX3) (N := 4) hB5 rfl (by decide) hg_r0 (i := 0) (by decide) rfl
  clear hh_1
  obtain ⟨variables_4, nvariables_4, rfl, hg_variables_4, hvavariables_4, hvbvariables_4, hvcvariables_4⟩ := hv_2
  refine j7_read hx hb hown hK (C := RX3) (T := TX3) (N := 4) rfl hly_5_0 hlk_9 (hh_3.at 0 rfl) dX3_withFormula_5 ?_
  refine lv_aload_n hx hb dX3_withFormula_8 rfl (lv_at hl 0 rfl) ?_
  obtain ⟨v_5, hv_5, hh_6⟩ := hh_3.pin (C := RX3) (T := TX3) (N := 4) hB5 rfl (by decide) hg_r0 (i := 1) (by decide) rfl
  clear hh_3
  obtain ⟨names_7, rfl, hg_names_7⟩ := hv_5
  refine j7_read hx hb hown hK (C := RX3) (T := TX3) (N := 4) rfl hly_5_1 hlk_15 (hh_6.at 0 rfl) dX3_withFormula_9 ?_
  refine lv_aload_n hx hb dX3_withFormula_12 rfl (lv_at hl 0 rfl) ?_
  obtain ⟨v_8, hv_8, hh_9⟩ := hh_6.pin (C := RX3) (T := TX3) (N := 4) hB5 rfl (by decide) hg_r0 (i := 2) (by decide) rfl
  clear hh_6
  obtain ⟨hypotheses_10, khypotheses_10, rfl, hg_hypotheses_10, hhahypotheses_10, hhbhypotheses_10, hhchypotheses_10, hhdhypotheses_10, hhehypotheses_10⟩ := hv_8
  obtain rfl : khypotheses_10 = 313 := hhbhypotheses_10 (by omega)
  refine j7_read hx hb hown hK (C := RX3) (T := TX3) (N := 4) rfl hly_5_2 hlk_18 (hh_9.at 0 rfl) dX3_withFormula_13 ?_
  refine j7_nld_n hx hb dX3_withFormula_16 rfl (lv_at hl 1 rfl) ?_
  have hsz_11 := hh_9.2.2.2.2.2.1
  have htt_11 := hh_9.2.2.2.2.2.2.1
  refine W.room (fun hrc_11 hrs_11 => ?_)
  refine va_callv (A0 := jA base) (H0 := s.heap) (va_runI (As := [.ref variables_4, .ref names_7, .ref hypotheses_10, .null]) (rest := [.ref s.heap.size]) ⟨hx, hb, hml, hown, hts⟩ (uX3_initZ l dC dI ca base B hB hAp hB5 hB101 hB280 hB313 G0 H_1 s.heap.size variables_4 names_7 hypotheses_10 nvariables_4 (n0 / 10) (n0 / 10) (10 * (n0 / 10)) LC LS) (cwI 4 hts (jgW (jWr_83 _ (List.mem_of_getElem? (i := 8) rfl))) rfl rfl rfl (htw (.initialized RX3) (jWr_82 _ (List.mem_of_getElem? (i := 10) rfl))) (htw (.methodLink RX3 25 yX3_init) (jWr_85 _ (List.mem_of_getElem? (i := 7) rfl))) (htw (.instanceMethod yX3_init) (jWr_83 _ (List.mem_of_getElem? (i := 7) rfl))) rfl (by decide +kernel) ⟨by rw [← hR]; exact Nat.le_of_ble_eq_true rfl, by rw [← hR]; exact Nat.le_of_ble_eq_true rfl⟩) ⟨fun a U g mk q => by obtain ⟨q0, q1, q2, qK, q10, q11, q12, q13, q14, q15, q16, q17⟩ := q; exact ⟨q0, q1, q2, jG.calling g mk a qK, q10, q11, q12, q13, q14, q15, q16, q17⟩, fun U hU hW => ⟨rfl, hU, hh_9.2.1, hG.step hW hU hh_9.1, hg_variables_4, hg_names_7, hg_hypotheses_10, hraw_1, hnr_1, hbr_1, jP.nil, (by omega), (by omega), by first | omega | (refine ⟨?_, ?_, ?_, ?_, ?_⟩ <;> (first | omega | rfl | assumption | decide | exact Or.inl rfl | exact Or.inr rfl | (simp only; omega)))⟩⟩ rfl rfl hl.1 rfl (lv_room (Nat.le_of_ble_eq_true rfl)) dX3_withFormula_17 ⟨by rw [hRc]; omega, by rw [hRs]; omega⟩) hh_9.1 (fun q _ h => h) (fun q h => h) (fun u_11 t_11 H_11 locs_11 ht_11 hvm_11 hr_12 hb_11 hz_11 hk_11 hS_11 => ?_)
  rw [ht_11] at hb_11
  obtain ⟨G_11, rfl⟩ : ∃ z, z = u_11 := ⟨_, rfl⟩
  try simp only at hb_11
  obtain ⟨⟨hb_111, hb_112, hb_113, hb_114, hb_115, hb_116⟩, hN_11, hgc_11, hbX_11⟩ := hb_11
  have hh_11 : jSt (dC, dI) B base G0 G_11 EX3_withFormulaZ s.heap ((0 + 1) + (0)) ((0 + 4) + (0)) [(r0, 5, 2, .ref hypotheses_10), (r0, 5, 1, .ref names_7), (r0, 5, 0, .ref variables_4)] [] [] H_11 locs_11 := (hh_9.callG hb_111 hb_112 hb_113 hb_114 hb_115 hS_11 rfl (L1 := [(r0, 5, 2, .ref hypotheses_10), (r0, 5, 1, .ref names_7), (r0, 5, 0, .ref variables_4)]) [0, 1, 2] rfl rfl (M1 := []) [] rfl rfl (I1 := []) [] rfl rfl).more hb_116
  have hNn_11 : (jNk [0, 1, 2, 3, 4, 6, 7, 8, 9, 10, 11, 12, 13, 14, 15, 16]) G0 G_11 := (jNk.rf).tr hN_11
  have hg_13 := hb_112 _ _ hg_r0
  have hg_14 := hb_112 _ _ hg_hypotheses_10
  have hg_15 := hb_112 _ _ hg_names_7
  have hg_16 := hb_112 _ _ hg_variables_4
  try simp only at hr_12
  have hsz_17 := hh_11.2.2.2.2.2.1
  have htt_17 := hh_11.2.2.2.2.2.2.1
  refine W.room (fun hrc_17 hrs_17 => ?_)
  refine W.widen (k := LC - s.heap.size) (n := LS - jTot s.heap) (by omega) (by omega) ?_
  rw [hQ]
  exact W.aret (v := .ref s.heap.size) hx hb hr (Or.inl ⟨_, rfl⟩) (Or.inr ⟨_, rfl⟩) (fun t ht hW => ⟨⟨.ref s.heap.size, ((10 * (n0 / 10)), G_11), rfl, ⟨⟨_, rfl, hgc_11⟩, ⟨_, rfl, hsy_1⟩, by first | rfl | ((try dsimp only); first | omega | rfl | assumption | fail)⟩, ⟨hh_11.ra (by first | omega | (simp only; omega)) (by first | omega | (simp only; omega)) (M1 := []) [] rfl ht, hNn_11⟩⟩, by rw [ht]; try exact hh_11.1.1, fun q h9 hq => by rw [ht]; try exact hh_11.1.2.1 q h9 hq⟩) hh_11.1.2.2 dX3_withFormula_20
set_option maxHeartbeats 4000000 in
set_option maxRecDepth 20000 in
theorem uX3_withVariable (l : Launch) (dC : Nat → ClassId) (dI : Nat → Nat → Nat) (ca : Nat → ClassId) (base : Nat) (B : jF) (hB : jBok B) (hAp : jAp (dC, dI)) (hB5 : ∀ n G a H, B 5 n G a H ↔ jOb (dC, dI) 5 4 (F5 n G) a H) (hB101 : ∀ n G a H, B 101 n G a H ↔ jAr (dC, dI) (ca 1) (fun j z => True) n a H) (hB280 : ∀ n G a H, B 280 n G a H ↔ jAr (dC, dI) (ca 1) (fun j z => -1 ≤ z.toInt) n a H) (hB313 : ∀ n G a H, B 313 n G a H ↔ jAq (dC, dI) (ca 8) (jQk 280 80) n G a H) (G0 : jT) (H0 : Heap) (r0 : Nat) (a1 : Int32) (r2 : Nat) (n0 : Nat) (n2 : Nat) (LC LS : Nat) : Met l yX3_withVariable (jw yX3_withVariable cX3_withVariable 3 (some (.object "ProofServer$Goal"))) ({ frames := 3, cells := LC - H0.size, slots := LS - jTot H0, locals := 105 }) (va_Pc [.ref r0, .int a1, .ref r2] (fun U => U.heap = H0 ∧ jX B base G0 [] H0 ∧ jG dC dI ca base U ∧ G0 r0 = some (5, n0) ∧ G0 r2 = some (280, n2) ∧ jP (dC, dI) G0 H0 [] ∧ H0.size + 2 ≤ LC ∧ jTot H0 + 11 ≤ LS ∧ n0 % 10 = 1 ∧ n2 ≤ 80)) (jQx (S := Nat × jT) (fun v u => jRf u.2 5 u.1 v ∧ jNwv v H0 ∧ u.1 / 10 = n0 / 10 ∧ (u.1 % 10 = 1 ∨ u.1 % 10 = 2)) (fun u t => jRa (dC, dI) B base G0 u.2 EX3_withVariable H0 (2) (11) [] t.heap ∧ (jNk [0, 1, 2, 3, 4, 6, 7, 8, 9, 10, 11, 12, 13, 14, 15, 16]) G0 u.2) (jA base)) (LC - H0.size) (LS - jTot H0) (jA base) := by
  refine Met.ofW (cc := cX3_withVariable) (maxL := 3) (ret := (some (.object "ProofServer$Goal"))) (by decide) rfl ?_
  intro p e s m args below meth c s₁ Bd hml hv
  obtain ⟨rfl, hH0, hX, hG, hg_r0, hg_r2, hP0, hLC0, hLS0, hp0, hp1⟩ := hv
  have hK := hG.1
  have hx := Bd.exec
  have hb := Bd.bytes
  have hr := Bd.returns
  have hts := atoms_spec (ws := (jw yX3_withVariable cX3_withVariable 3 (some (.object "ProofServer$Goal")))) Bd.pre
  have htw : ∀ w ∈ jWl, w.before _ s = true := fun w h => hts w (List.mem_cons_of_mem _ h)
  have hown : s.vm.findClass RX3 = some m.cls := findClass_of_methodNamed Bd.named
  have hlocks := Bd.notSynchronized
  obtain ⟨Q, hQ⟩ : ∃ Q, Q = MQ below (jQx (S := Nat × jT) (fun v u => jRf u.2 5 u.1 v ∧ jNwv v H0 ∧ u.1 / 10 = n0 / 10 ∧ (u.1 % 10 = 1 ∨ u.1 % 10 = 2)) (fun u t => jRa (dC, dI) B base G0 u.2 EX3_withVariable H0 (2) (11) [] t.heap ∧ (jNk [0, 1, 2, 3, 4, 6, 7, 8, 9, 10, 11, 12, 13, 14, 15, 16]) G0 u.2) (jA base)) ([.ref r0, .int a1, .ref r2] : List Value).toArray s (LC - H0.size) (LS - jTot H0) (jA base) := ⟨_, rfl⟩
  rw [← hQ]
  have hl := lv_entry ([.ref r0, .int a1, .ref r2]) (n := 3) (Nat.le_of_ble_eq_true rfl)
  rw [lg_entry_eq]
  generalize (lg_sl ([.ref r0, .int a1, .ref r2]) ++ List.replicate (3 - (lg_sl ([.ref r0, .int a1, .ref r2])).length) Slot.unset).toArray = ls at hl ⊢
  have hl : lv_has ls 3 [(0, .ref r0), (1, .int a1), (2, .ref r2)] := hl
  generalize hR : (headSpec (jw yX3_withVariable cX3_withVariable 3 (some (.object "ProofServer$Goal"))) ({ frames := 3, cells := LC - H0.size, slots := LS - jTot H0, locals := 105 })).room = R
  subst hH0
  have hh : jSt (dC, dI) B base G0 G0 EX3_withVariable s.heap 0 0 [] [] [] s.heap [] := jSt.start hX hP0 jMc.nil jIs.nil
  clear hX hP0
  have hk0 : (0 : Int32).toInt = 0 := by decide
  have hk1 : (1 : Int32).toInt = 1 := by decide
  have hly_5_0 := htw (u_lay RX3 TX3 0) (jWc_wsX30 _ (u_in_lay (by decide)))
  have hly_5_1 := htw (u_lay RX3 TX3 1) (jWc_wsX30 _ (u_in_lay (by decide)))
  have hly_5_2 := htw (u_lay RX3 TX3 2) (jWc_wsX30 _ (u_in_lay (by decide)))
  have hlk_9 := (htw (.fieldLink RX3 9 "ProofServer$Goal" "variables" "[I") (jWr_83 _ (List.mem_of_getElem? (i := 10) rfl)))
  have hlk_15 := (htw (.fieldLink RX3 15 "ProofServer$Goal" "names" "[I") (jWr_83 _ (List.mem_of_getElem? (i := 11) rfl)))
  have hlk_18 := (htw (.fieldLink RX3 18 "ProofServer$Goal" "hypotheses" "[[I") (jWr_83 _ (List.mem_of_getElem? (i := 12) rfl)))
  have hrg_a1 := jb_rng a1
  have hbs : base ≤ s.heap.size := Nat.le_of_lt (Nat.lt_of_le_of_lt (hh.ab hg_r0).1 (hh.ab hg_r0).2)
  have hRc : R.cells = LC - s.heap.size := by rw [← hR]; rfl
  have hRs : R.slots = LS - jTot s.heap := by rw [← hR]; rfl
  have hsz_1 := hh.2.2.2.2.2.1
  have htt_1 := hh.2.2.2.2.2.2.1
  refine j7_newo (k := 5) (C := RX3) (T := TX3) (N := 4) (fs := [.null, .null, .null, .null]) hx hb htw jWc_wsX30 (fun k => ([(.array .int), (.array .int), (.array (.array .int)), (.array .int)] : List FieldType).getD k .int) (by decide +kernel) hown (htw (.classLink RX3 10 RX3) (jWr_85 _ (List.mem_of_getElem? (i := 4) rfl))) (htw (.instantiable RX3 4) (jWr_82 _ (List.mem_of_getElem? (i := 9) rfl))) (htw (.initialized RX3) (jWr_82 _ (List.mem_of_getElem? (i := 10) rfl))) hK rfl (fun j hj => by rcases (by omega : j = 0 ∨ j = 1 ∨ j = 2 ∨ j = 3) with rfl | rfl | rfl | rfl <;> rfl) hh hB (by rw [hRc]; omega) (by rw [hRs]; omega) dX3_withVariable_0 (fun H_1 hraw_1 hfr_1 hnr_1 hh_1 => ?_)
  have hke_1 : jKe G0 G0 s.heap H_1 := jKe.raw hfr_1
  have hbr_1 : base ≤ s.heap.size := Nat.le_trans hbs hh.1.1
  have hsy_1 : s.heap.size ≤ s.heap.size := hh.1.1
  clear hh
  refine lv_dup hx hb dX3_withVariable_3 rfl ?_
  refine lv_aload_n hx hb dX3_withVariable_4 rfl (lv_at hl 0 rfl) ?_
  obtain ⟨v_2, hv_2, hh_3⟩ := hh_1.pin (C := RX3) (T := TX3) (N := 4) hB5 rfl (by decide) hg_r0 (i := 0) (by decide) rfl
  clear hh_1
  obtain ⟨variables_4, nvariables_4, rfl, hg_variables_4, hvavariables_4, hvbvariables_4, hvcvariables_4⟩ := hv_2
  refine j7_read hx hb hown hK (C := RX3) (T := TX3) (N := 4) rfl hly_5_0 hlk_9 (hh_3.at 0 rfl) dX3_withVariable_5 ?_
  refine lv_iload_n hx hb dX3_withVariable_8 rfl (lv_at hl 1 rfl) ?_
  have hsz_5 := hh_3.2.2.2.2.2.1
  have htt_5 := hh_3.2.2.2.2.2.2.1
  refine W.room (fun hrc_5 hrs_5 => ?_)
  refine j_callx (A0 := jA base) (H0 := s.heap) (va_runS (As := [.ref variables_4, .int a1]) (rest := [.ref s.heap.size, .ref s.heap.size]) ⟨hx, hb, hml, hown, hts⟩ (uX9_longer l dC dI ca base B hB hAp hB101 G0 H_1 variables_4 a1 nvariables_4 LC LS) (va_cwS 2 hts (jgS (jWr_85 _ (List.mem_of_getElem? (i := 5) rfl)) (jWr_81 _ (List.mem_of_getElem? (i := 20) rfl)) (jWr_4 _ (List.mem_of_getElem? (i := 18) rfl)) (jWr_81 _ (List.mem_of_getElem? (i := 21) rfl))) rfl rfl rfl (by decide +kernel) ⟨by rw [← hR]; exact Nat.le_of_ble_eq_true rfl, by rw [← hR]; exact Nat.le_of_ble_eq_true rfl⟩) ⟨fun a U g mk q => by obtain ⟨q0, q1, q2, qK, q10, q11, q12⟩ := q; exact ⟨q0, q1, q2, jG.calling g mk a qK, q10, q11, q12⟩, fun U hU hW => ⟨rfl, hU, hh_3.2.1, hG.step hW hU hh_3.1, hg_variables_4, jP.nil, by first | omega | rfl | assumption | decide | exact Or.inl rfl | exact Or.inr rfl | (simp only; omega)⟩⟩ rfl rfl hl.1 rfl (lv_room (Nat.le_of_ble_eq_true rfl)) dX3_withVariable_9 ⟨by rw [hRc]; omega, by rw [hRs]; omega⟩) hh_3.1 (fun q _ h => h) (fun q h => h) (fun r_6 u_5 t_5 H_5 locs_5 ht_5 hvm_5 hr_6 hb_5 hz_5 hk_5 hS_5 => ?_)
  rw [ht_5] at hb_5
  obtain ⟨m_ret_5, G_5⟩ := u_5
  simp only at hb_5
  obtain ⟨⟨hb_51, hb_52, hb_53, hb_54, hb_55, hb_56⟩, hN_5, hbK_5⟩ := hb_5
  have hN_5 : (jNk [0, 1, 2, 3, 4, 6, 7, 8, 9, 10, 11, 12, 13, 14, 15, 16]) G0 G_5 := hN_5.sub (by decide)
  have hh_5 : jSt (dC, dI) B base G0 G_5 EX3_withVariable s.heap ((0 + 1) + (1)) ((0 + 4) + (m_ret_5)) [(r0, 5, 0, .ref variables_4)] [] [] H_5 locs_5 := (hh_3.callG hb_51 hb_52 hb_53 hb_54 hb_55 hS_5 rfl (L1 := [(r0, 5, 0, .ref variables_4)]) [0] rfl rfl (M1 := []) [] rfl rfl (I1 := []) [] rfl rfl).more hb_56
  have hNn_5 : (jNk [0, 1, 2, 3, 4, 6, 7, 8, 9, 10, 11, 12, 13, 14, 15, 16]) G0 G_5 := (jNk.rf).tr hN_5
  have hg_7 := hb_52 _ _ hg_r0
  have hg_8 := hb_52 _ _ hg_r2
  have hg_9 := hb_52 _ _ hg_variables_4
  obtain ⟨hr_6, hr_6n, hr_6p⟩ := hr_6
  try simp only at hr_6p
  have hraw_10n := hbK_5.nr hraw_1.lt hnr_1
  have hraw_10 := hraw_1.kept (hbK_5.1 _ hraw_1.lt)
  obtain ⟨ret_11, rfl, hg_ret_11⟩ := hr_6
  have hsy_5 : s.heap.size ≤ ret_11 := Nat.le_trans hh_3.1.1 hr_6n.le
  refine lv_aload_n hx hb dX3_withVariable_12 rfl (lv_at hl 0 rfl) ?_
  obtain ⟨v_12, hv_12, hh_13⟩ := hh_5.pin (C := RX3) (T := TX3) (N := 4) hB5 rfl (by decide) hg_7 (i := 1) (by decide) rfl
  clear hh_5
  obtain ⟨names_14, rfl, hg_names_14⟩ := hv_12
  refine j7_read hx hb hown hK (C := RX3) (T := TX3) (N := 4) rfl hly_5_1 hlk_15 (hh_13.at 0 rfl) dX3_withVariable_13 ?_
  refine lv_aload_n hx hb dX3_withVariable_16 rfl (lv_at hl 0 rfl) ?_
  obtain ⟨v_15, hv_15, hh_16⟩ := hh_13.pin (C := RX3) (T := TX3) (N := 4) hB5 rfl (by decide) hg_7 (i := 2) (by decide) rfl
  clear hh_13
  obtain ⟨hypotheses_17, khypotheses_17, rfl, hg_hypotheses_17, hhahypotheses_17, hhbhypotheses_17, hhchypotheses_17, hhdhypotheses_17, hhehypotheses_17⟩ := hv_15
  obtain rfl : khypotheses_17 = 313 := hhbhypotheses_17 (by omega)
  refine j7_read hx hb hown hK (C := RX3) (T := TX3) (N := 4) rfl hly_5_2 hlk_18 (hh_16.at 0 rfl) dX3_withVariable_17 ?_
  refine lv_aload_n hx hb dX3_withVariable_20 rfl (lv_at hl 2 rfl) ?_
  have hsz_18 := hh_16.2.2.2.2.2.1
  have htt_18 := hh_16.2.2.2.2.2.2.1
  refine W.room (fun hrc_18 hrs_18 => ?_)
  refine va_callv (A0 := jA base) (H0 := s.heap) (va_runI (As := [.ref ret_11, .ref names_14, .ref hypotheses_17, .ref r2]) (rest := [.ref s.heap.size]) ⟨hx, hb, hml, hown, hts⟩ (uX3_init l dC dI ca base B hB hAp hB5 hB101 hB280 hB313 G_5 H_5 s.heap.size ret_11 names_14 hypotheses_17 r2 m_ret_5 (n0 / 10) (n0 / 10) n2 (10 * (n0 / 10) + 1 + nvariables_4 / 6) LC LS) (cwI 4 hts (jgW (jWr_83 _ (List.mem_of_getElem? (i := 8) rfl))) rfl rfl rfl (htw (.initialized RX3) (jWr_82 _ (List.mem_of_getElem? (i := 10) rfl))) (htw (.methodLink RX3 25 yX3_init) (jWr_85 _ (List.mem_of_getElem? (i := 7) rfl))) (htw (.instanceMethod yX3_init) (jWr_83 _ (List.mem_of_getElem? (i := 7) rfl))) rfl (by decide +kernel) ⟨by rw [← hR]; exact Nat.le_of_ble_eq_true rfl, by rw [← hR]; exact Nat.le_of_ble_eq_true rfl⟩) ⟨fun a U g mk q => by obtain ⟨q0, q1, q2, qK, q10, q11, q12, q13, q14, q15, q16, q17, q18⟩ := q; exact ⟨q0, q1, q2, jG.calling g mk a qK, q10, q11, q12, q13, q14, q15, q16, q17, q18⟩, fun U hU hW => ⟨rfl, hU, hh_16.2.1, hG.step hW hU hh_16.1, hg_ret_11, hg_names_14, hg_hypotheses_17, hg_8, hraw_10, hraw_10n, hbr_1, jP.nil, (by omega), (by omega), by first | omega | (refine ⟨?_, ?_, ?_, ?_, ?_, ?_⟩ <;> (first | omega | rfl | assumption | decide | exact Or.inl rfl | exact Or.inr rfl | (simp only; omega)))⟩⟩ rfl rfl hl.1 rfl (lv_room (Nat.le_of_ble_eq_true rfl)) dX3_withVariable_21 ⟨by rw [hRc]; omega, by rw [hRs]; omega⟩) hh_16.1 (fun q _ h => h) (fun q h => h) (fun u_18 t_18 H_18 locs_18 ht_18 hvm_18 hr_19 hb_18 hz_18 hk_18 hS_18 => ?_)
  rw [ht_18] at hb_18
  obtain ⟨G_18, rfl⟩ : ∃ z, z = u_18 := ⟨_, rfl⟩
  try simp only at hb_18
  obtain ⟨⟨hb_181, hb_182, hb_183, hb_184, hb_185, hb_186⟩, hN_18, hgc_18, hbX_18⟩ := hb_18
  have hh_18 : jSt (dC, dI) B base G0 G_18 EX3_withVariable s.heap (((0 + 1) + (1)) + (0)) (((0 + 4) + (m_ret_5)) + (0)) [(r0, 5, 2, .ref hypotheses_17), (r0, 5, 1, .ref names_14), (r0, 5, 0, .ref variables_4)] [] [] H_18 locs_18 := (hh_16.callG hb_181 hb_182 hb_183 hb_184 hb_185 hS_18 rfl (L1 := [(r0, 5, 2, .ref hypotheses_17), (r0, 5, 1, .ref names_14), (r0, 5, 0, .ref variables_4)]) [0, 1, 2] rfl rfl (M1 := []) [] rfl rfl (I1 := []) [] rfl rfl).more hb_186
  have hNn_18 : (jNk [0, 1, 2, 3, 4, 6, 7, 8, 9, 10, 11, 12, 13, 14, 15, 16]) G0 G_18 := (hNn_5).tr hN_18
  have hg_20 := hb_182 _ _ hg_7
  have hg_21 := hb_182 _ _ hg_8
  have hg_22 := hb_182 _ _ hg_hypotheses_17
  have hg_23 := hb_182 _ _ hg_names_14
  have hg_24 := hb_182 _ _ hg_9
  try simp only at hr_19
  have hsz_25 := hh_18.2.2.2.2.2.1
  have htt_25 := hh_18.2.2.2.2.2.2.1
  refine W.room (fun hrc_25 hrs_25 => ?_)
  refine W.widen (k := LC - s.heap.size) (n := LS - jTot s.heap) (by omega) (by omega) ?_
  rw [hQ]
  exact W.aret (v := .ref s.heap.size) hx hb hr (Or.inl ⟨_, rfl⟩) (Or.inr ⟨_, rfl⟩) (fun t ht hW => ⟨⟨.ref s.heap.size, ((10 * (n0 / 10) + 1 + nvariables_4 / 6), G_18), rfl, ⟨⟨_, rfl, hgc_18⟩, ⟨_, rfl, hsy_1⟩, by (try dsimp only); exact ⟨(by first | omega | rfl | assumption | fail), (by first | omega | rfl | assumption | fail)⟩⟩, ⟨hh_18.ra (by first | omega | (simp only; omega)) (by first | omega | (simp only; omega)) (M1 := []) [] rfl ht, hNn_18⟩⟩, by rw [ht]; try exact hh_18.1.1, fun q h9 hq => by rw [ht]; try exact hh_18.1.2.1 q h9 hq⟩) hh_18.1.2.2 dX3_withVariable_24
set_option maxHeartbeats 4000000 in
set_option maxRecDepth 20000 in
theorem uX3_withVariableZ (l : Launch) (dC : Nat → ClassId) (dI : Nat → Nat → Nat) (ca : Nat → ClassId) (base : Nat) (B : jF) (hB : jBok B) (hAp : jAp (dC, dI)) (hB5 : ∀ n G a H, B 5 n G a H ↔ jOb (dC, dI) 5 4 (F5 n G) a H) (hB101 : ∀ n G a H, B 101 n G a H ↔ jAr (dC, dI) (ca 1) (fun j z => True) n a H) (hB280 : ∀ n G a H, B 280 n G a H ↔ jAr (dC, dI) (ca 1) (fun j z => -1 ≤ z.toInt) n a H) (hB313 : ∀ n G a H, B 313 n G a H ↔ jAq (dC, dI) (ca 8) (jQk 280 80) n G a H) (G0 : jT) (H0 : Heap) (r0 : Nat) (a1 : Int32) (n0 : Nat) (LC LS : Nat) : Met l yX3_withVariable (jw yX3_withVariable cX3_withVariable 3 (some (.object "ProofServer$Goal"))) ({ frames := 3, cells := LC - H0.size, slots := LS - jTot H0, locals := 105 }) (va_Pc [.ref r0, .int a1, .null] (fun U => U.heap = H0 ∧ jX B base G0 [] H0 ∧ jG dC dI ca base U ∧ G0 r0 = some (5, n0) ∧ jP (dC, dI) G0 H0 [] ∧ H0.size + 2 ≤ LC ∧ jTot H0 + 11 ≤ LS ∧ n0 % 10 = 1)) (jQx (S := Nat × jT) (fun v u => jRf u.2 5 u.1 v ∧ jNwv v H0 ∧ u.1 = 10 * (n0 / 10)) (fun u t => jRa (dC, dI) B base G0 u.2 EX3_withVariableZ H0 (2) (11) [] t.heap ∧ (jNk [0, 1, 2, 3, 4, 6, 7, 8, 9, 10, 11, 12, 13, 14, 15, 16]) G0 u.2) (jA base)) (LC - H0.size) (LS - jTot H0) (jA base) := by
  refine Met.ofW (cc := cX3_withVariable) (maxL := 3) (ret := (some (.object "ProofServer$Goal"))) (by decide) rfl ?_
  intro p e s m args below meth c s₁ Bd hml hv
  obtain ⟨rfl, hH0, hX, hG, hg_r0, hP0, hLC0, hLS0, hp0⟩ := hv
  have hK := hG.1
  have hx := Bd.exec
  have hb := Bd.bytes
  have hr := Bd.returns
  have hts := atoms_spec (ws := (jw yX3_withVariable cX3_withVariable 3 (some (.object "ProofServer$Goal")))) Bd.pre
  have htw : ∀ w ∈ jWl, w.before _ s = true := fun w h => hts w (List.mem_cons_of_mem _ h)
  have hown : s.vm.findClass RX3 = some m.cls := findClass_of_methodNamed Bd.named
  have hlocks := Bd.notSynchronized
  obtain ⟨Q, hQ⟩ : ∃ Q, Q = MQ below (jQx (S := Nat × jT) (fun v u => jRf u.2 5 u.1 v ∧ jNwv v H0 ∧ u.1 = 10 * (n0 / 10)) (fun u t => jRa (dC, dI) B base G0 u.2 EX3_withVariableZ H0 (2) (11) [] t.heap ∧ (jNk [0, 1, 2, 3, 4, 6, 7, 8, 9, 10, 11, 12, 13, 14, 15, 16]) G0 u.2) (jA base)) ([.ref r0, .int a1, .null] : List Value).toArray s (LC - H0.size) (LS - jTot H0) (jA base) := ⟨_, rfl⟩
  rw [← hQ]
  have hl := lv_entry ([.ref r0, .int a1, .null]) (n := 3) (Nat.le_of_ble_eq_true rfl)
  rw [lg_entry_eq]
  generalize (lg_sl ([.ref r0, .int a1, .null]) ++ List.replicate (3 - (lg_sl ([.ref r0, .int a1, .null])).length) Slot.unset).toArray = ls at hl ⊢
  have hl : lv_has ls 3 [(0, .ref r0), (1, .int a1), (2, .null)] := hl
  generalize hR : (headSpec (jw yX3_withVariable cX3_withVariable 3 (some (.object "ProofServer$Goal"))) ({ frames := 3, cells := LC - H0.size, slots := LS - jTot H0, locals := 105 })).room = R
  subst hH0
  have hh : jSt (dC, dI) B base G0 G0 EX3_withVariableZ s.heap 0 0 [] [] [] s.heap [] := jSt.start hX hP0 jMc.nil jIs.nil
  clear hX hP0
  have hk0 : (0 : Int32).toInt = 0 := by decide
  have hk1 : (1 : Int32).toInt = 1 := by decide
  have hly_5_0 := htw (u_lay RX3 TX3 0) (jWc_wsX30 _ (u_in_lay (by decide)))
  have hly_5_1 := htw (u_lay RX3 TX3 1) (jWc_wsX30 _ (u_in_lay (by decide)))
  have hly_5_2 := htw (u_lay RX3 TX3 2) (jWc_wsX30 _ (u_in_lay (by decide)))
  have hlk_9 := (htw (.fieldLink RX3 9 "ProofServer$Goal" "variables" "[I") (jWr_83 _ (List.mem_of_getElem? (i := 10) rfl)))
  have hlk_15 := (htw (.fieldLink RX3 15 "ProofServer$Goal" "names" "[I") (jWr_83 _ (List.mem_of_getElem? (i := 11) rfl)))
  have hlk_18 := (htw (.fieldLink RX3 18 "ProofServer$Goal" "hypotheses" "[[I") (jWr_83 _ (List.mem_of_getElem? (i := 12) rfl)))
  have hrg_a1 := jb_rng a1
  have hbs : base ≤ s.heap.size := Nat.le_of_lt (Nat.lt_of_le_of_lt (hh.ab hg_r0).1 (hh.ab hg_r0).2)
  have hRc : R.cells = LC - s.heap.size := by rw [← hR]; rfl
  have hRs : R.slots = LS - jTot s.heap := by rw [← hR]; rfl
  have hsz_1 := hh.2.2.2.2.2.1
  have htt_1 := hh.2.2.2.2.2.2.1
  refine j7_newo (k := 5) (C := RX3) (T := TX3) (N := 4) (fs := [.null, .null, .null, .null]) hx hb htw jWc_wsX30 (fun k => ([(.array .int), (.array .int), (.array (.array .int)), (.array .int)] : List FieldType).getD k .int) (by decide +kernel) hown (htw (.classLink RX3 10 RX3) (jWr_85 _ (List.mem_of_getElem? (i := 4) rfl))) (htw (.instantiable RX3 4) (jWr_82 _ (List.mem_of_getElem? (i := 9) rfl))) (htw (.initialized RX3) (jWr_82 _ (List.mem_of_getElem? (i := 10) rfl))) hK rfl (fun j hj => by rcases (by omega : j = 0 ∨ j = 1 ∨ j = 2 ∨ j = 3) with rfl | rfl | rfl | rfl <;> rfl) hh hB (by rw [hRc]; omega) (by rw [hRs]; omega) dX3_withVariable_0 (fun H_1 hraw_1 hfr_1 hnr_1 hh_1 => ?_)
  have hke_1 : jKe G0 G0 s.heap H_1 := jKe.raw hfr_1
  have hbr_1 : base ≤ s.heap.size := Nat.le_trans hbs hh.1.1
  have hsy_1 : s.heap.size ≤ s.heap.size := hh.1.1
  clear hh
  refine lv_dup hx hb dX3_withVariable_3 rfl ?_
  refine lv_aload_n hx hb dX3_withVariable_4 rfl (lv_at hl 0 rfl) ?_
  obtain ⟨v_2, hv_2, hh_3⟩ := hh_1.pin (C := RX3) (T := TX3) (N := 4) hB5 rfl (by decide) hg_r0 (i := 0) (by decide) rfl
  clear hh_1
  obtain ⟨variables_4, nvariables_4, rfl, hg_variables_4, hvavariables_4, hvbvariables_4, hvcvariables_4⟩ := hv_2
  refine j7_read hx hb hown hK (C := RX3) (T := TX3) (N := 4) rfl hly_5_0 hlk_9 (hh_3.at 0 rfl) dX3_withVariable_5 ?_
  refine lv_iload_n hx hb dX3_withVariable_8 rfl (lv_at hl 1 rfl) ?_
  have hsz_5 := hh_3.2.2.2.2.2.1
  have htt_5 := hh_3.2.2.2.2.2.2.1
  refine W.room (fun hrc_5 hrs_5 => ?_)
  refine j_callx (A0 := jA base) (H0 := s.heap) (va_runS (As := [.ref variables_4, .int a1]) (rest := [.ref s.heap.size, .ref s.heap.size]) ⟨hx, hb, hml, hown, hts⟩ (uX9_longer l dC dI ca base B hB hAp hB101 G0 H_1 variables_4 a1 nvariables_4 LC LS) (va_cwS 2 hts (jgS (jWr_85 _ (List.mem_of_getElem? (i := 5) rfl)) (jWr_81 _ (List.mem_of_getElem? (i := 20) rfl)) (jWr_4 _ (List.mem_of_getElem? (i := 18) rfl)) (jWr_81 _ (List.mem_of_getElem? (i := 21) rfl))) rfl rfl rfl (by decide +kernel) ⟨by rw [← hR]; exact Nat.le_of_ble_eq_true rfl, by rw [← hR]; exact Nat.le_of_ble_eq_true rfl⟩) ⟨fun a U g mk q => by obtain ⟨q0, q1, q2, qK, q10, q11, q12⟩ := q; exact ⟨q0, q1, q2, jG.calling g mk a qK, q10, q11, q12⟩, fun U hU hW => ⟨rfl, hU, hh_3.2.1, hG.step hW hU hh_3.1, hg_variables_4, jP.nil, by first | omega | rfl | assumption | decide | exact Or.inl rfl | exact Or.inr rfl | (simp only; omega)⟩⟩ rfl rfl hl.1 rfl (lv_room (Nat.le_of_ble_eq_true rfl)) dX3_withVariable_9 ⟨by rw [hRc]; omega, by rw [hRs]; omega⟩) hh_3.1 (fun q _ h => h) (fun q h => h) (fun r_6 u_5 t_5 H_5 locs_5 ht_5 hvm_5 hr_6 hb_5 hz_5 hk_5 hS_5 => ?_)
  rw [ht_5] at hb_5
  obtain ⟨m_ret_5, G_5⟩ := u_5
  simp only at hb_5
  obtain ⟨⟨hb_51, hb_52, hb_53, hb_54, hb_55, hb_56⟩, hN_5, hbK_5⟩ := hb_5
  have hN_5 : (jNk [0, 1, 2, 3, 4, 6, 7, 8, 9, 10, 11, 12, 13, 14, 15, 16]) G0 G_5 := hN_5.sub (by decide)
  have hh_5 : jSt (dC, dI) B base G0 G_5 EX3_withVariableZ s.heap ((0 + 1) + (1)) ((0 + 4) + (m_ret_5)) [(r0, 5, 0, .ref variables_4)] [] [] H_5 locs_5 := (hh_3.callG hb_51 hb_52 hb_53 hb_54 hb_55 hS_5 rfl (L1 := [(r0, 5, 0, .ref variables_4)]) [0] rfl rfl (M1 := []) [] rfl rfl (I1 := []) [] rfl rfl).more hb_56
  have hNn_5 : (jNk [0, 1, 2, 3, 4, 6, 7, 8, 9, 10, 11, 12, 13, 14, 15, 16]) G0 G_5 := (jNk.rf).tr hN_5
  have hg_7 := hb_52 _ _ hg_r0
  have hg_8 := hb_52 _ _ hg_variables_4
  obtain ⟨hr_6, hr_6n, hr_6p⟩ := hr_6
  try simp only at hr_6p
  have hraw_9n := hbK_5.nr hraw_1.lt hnr_1
  have hraw_9 := hraw_1.kept (hbK_5.1 _ hraw_1.lt)
  obtain ⟨ret_10, rfl, hg_ret_10⟩ := hr_6
  have hsy_5 : s.heap.size ≤ ret_10 := Nat.le_trans hh_3.1.1 hr_6n.le
  refine lv_aload_n hx hb dX3_withVariable_12 rfl (lv_at hl 0 rfl) ?_
  obtain ⟨v_11, hv_11, hh_12⟩ := hh_5.pin (C := RX3) (T := TX3) (N := 4) hB5 rfl (by decide) hg_7 (i := 1) (by decide) rfl
  clear hh_5
  obtain ⟨names_13, rfl, hg_names_13⟩ := hv_11
  refine j7_read hx hb hown hK (C := RX3) (T := TX3) (N := 4) rfl hly_5_1 hlk_15 (hh_12.at 0 rfl) dX3_withVariable_13 ?_
  refine lv_aload_n hx hb dX3_withVariable_16 rfl (lv_at hl 0 rfl) ?_
  obtain ⟨v_14, hv_14, hh_15⟩ := hh_12.pin (C := RX3) (T := TX3) (N := 4) hB5 rfl (by decide) hg_7 (i := 2) (by decide) rfl
  clear hh_12
  obtain ⟨hypotheses_16, khypotheses_16, rfl, hg_hypotheses_16, hhahypotheses_16, hhbhypotheses_16, hhchypotheses_16, hhdhypotheses_16, hhehypotheses_16⟩ := hv_14
  obtain rfl : khypotheses_16 = 313 := hhbhypotheses_16 (by omega)
  refine j7_read hx hb hown hK (C := RX3) (T := TX3) (N := 4) rfl hly_5_2 hlk_18 (hh_15.at 0 rfl) dX3_withVariable_17 ?_
  refine j7_nld_n hx hb dX3_withVariable_20 rfl (lv_at hl 2 rfl) ?_
  have hsz_17 := hh_15.2.2.2.2.2.1
  have htt_17 := hh_15.2.2.2.2.2.2.1
  refine W.room (fun hrc_17 hrs_17 => ?_)
  refine va_callv (A0 := jA base) (H0 := s.heap) (va_runI (As := [.ref ret_10, .ref names_13, .ref hypotheses_16, .null]) (rest := [.ref s.heap.size]) ⟨hx, hb, hml, hown, hts⟩ (uX3_initZ l dC dI ca base B hB hAp hB5 hB101 hB280 hB313 G_5 H_5 s.heap.size ret_10 names_13 hypotheses_16 m_ret_5 (n0 / 10) (n0 / 10) (10 * (n0 / 10)) LC LS) (cwI 4 hts (jgW (jWr_83 _ (List.mem_of_getElem? (i := 8) rfl))) rfl rfl rfl (htw (.initialized RX3) (jWr_82 _ (List.mem_of_getElem? (i := 10) rfl))) (htw (.methodLink RX3 25 yX3_init) (jWr_85 _ (List.mem_of_getElem? (i := 7) rfl))) (htw (.instanceMethod yX3_init) (jWr_83 _ (List.mem_of_getElem? (i := 7) rfl))) rfl (by decide +kernel) ⟨by rw [← hR]; exact Nat.le_of_ble_eq_true rfl, by rw [← hR]; exact Nat.le_of_ble_eq_true rfl⟩) ⟨fun a U g mk q => by obtain ⟨q0, q1, q2, qK, q10, q11, q12, q13, q14, q15, q16, q17⟩ := q; exact ⟨q0, q1, q2, jG.calling g mk a qK, q10, q11, q12, q13, q14, q15, q16, q17⟩, fun U hU hW => ⟨rfl, hU, hh_15.2.1, hG.step hW hU hh_15.1, hg_ret_10, hg_names_13, hg_hypotheses_16, hraw_9, hraw_9n, hbr_1, jP.nil, (by omega), (by omega), by first | omega | (refine ⟨?_, ?_, ?_, ?_, ?_⟩ <;> (first | omega | rfl | assumption | decide | exact Or.inl rfl | exact Or.inr rfl | (simp only; omega)))⟩⟩ rfl rfl hl.1 rfl (lv_room (Nat.le_of_ble_eq_true rfl)) dX3_withVariable_21 ⟨by rw [hRc]; omega, by rw [hRs]; omega⟩) hh_15.1 (fun q _ h => h) (fun q h => h) (fun u_17 t_17 H_17 locs_17 ht_17 hvm_17 hr_18 hb_17 hz_17 hk_17 hS_17 => ?_)
  rw [ht_17] at hb_17
  obtain ⟨G_17, rfl⟩ : ∃ z, z = u_17 := ⟨_, rfl⟩
  try simp only at hb_17
  obtain ⟨⟨hb_171, hb_172, hb_173, hb_174, hb_175, hb_176⟩, hN_17, hgc_17, hbX_17⟩ := hb_17
  have hh_17 : jSt (dC, dI) B base G0 G_17 EX3_withVariableZ s.heap (((0 + 1) + (1)) + (0)) (((0 + 4) + (m_ret_5)) + (0)) [(r0, 5, 2, .ref hypotheses_16), (r0, 5, 1, .ref names_13), (r0, 5, 0, .ref variables_4)] [] [] H_17 locs_17 := (hh_15.callG hb_171 hb_172 hb_173 hb_174 hb_175 hS_17 rfl (L1 := [(r0, 5, 2, .ref hypotheses_16), (r0, 5, 1, .ref names_13), (r0, 5, 0, .ref variables_4)]) [0, 1, 2] rfl rfl (M1 := []) [] rfl rfl (I1 := []) [] rfl rfl).more hb_176
  have hNn_17 : (jNk [0, 1, 2, 3, 4, 6, 7, 8, 9, 10, 11, 12, 13, 14, 15, 16]) G0 G_17 := (hNn_5).tr hN_17
  have hg_19 := hb_172 _ _ hg_7
  have hg_20 := hb_172 _ _ hg_hypotheses_16
  have hg_21 := hb_172 _ _ hg_names_13
  have hg_22 := hb_172 _ _ hg_8
  try simp only at hr_18
  have hsz_23 := hh_17.2.2.2.2.2.1
  have htt_23 := hh_17.2.2.2.2.2.2.1
  refine W.room (fun hrc_23 hrs_23 => ?_)
  refine W.widen (k := LC - s.heap.size) (n := LS - jTot s.heap) (by omega) (by omega) ?_
  rw [hQ]
  exact W.aret (v := .ref s.heap.size) hx hb hr (Or.inl ⟨_, rfl⟩) (Or.inr ⟨_, rfl⟩) (fun t ht hW => ⟨⟨.ref s.heap.size, ((10 * (n0 / 10)), G_17), rfl, ⟨⟨_, rfl, hgc_17⟩, ⟨_, rfl, hsy_1⟩, by first | rfl | ((try dsimp only); first | omega | rfl | assumption | fail)⟩, ⟨hh_17.ra (by first | omega | (simp only; omega)) (by first | omega | (simp only; omega)) (M1 := []) [] rfl ht, hNn_17⟩⟩, by rw [ht]; try exact hh_17.1.1, fun q h9 hq => by rw [ht]; try exact hh_17.1.2.1 q h9 hq⟩) hh_17.1.2.2 dX3_withVariable_24
