section
theorem dJxa1e45_init_da8c8_0 : decode cJxa1e45_init_da8c8 0 = .ok (.aload_n 0, 1) := by decide +kernel
theorem dJxa1e45_init_da8c8_1 : decode cJxa1e45_init_da8c8 1 = .ok (.invokespecial 1, 3) := by decide +kernel
theorem dJxa1e45_init_da8c8_4 : decode cJxa1e45_init_da8c8 4 = .ok (.return_, 1) := by decide +kernel
theorem dJxc12de_init_da8c8_0 : decode cJxc12de_init_da8c8 0 = .ok (.aload_n 0, 1) := by decide +kernel
theorem dJxc12de_init_da8c8_1 : decode cJxc12de_init_da8c8 1 = .ok (.invokespecial 1, 3) := by decide +kernel
theorem dJxc12de_init_da8c8_4 : decode cJxc12de_init_da8c8 4 = .ok (.aload_n 0, 1) := by decide +kernel
theorem dJxc12de_init_da8c8_5 : decode cJxc12de_init_da8c8 5 = .ok (.iconst 0, 1) := by decide +kernel
theorem dJxc12de_init_da8c8_6 : decode cJxc12de_init_da8c8 6 = .ok (.putfield 7, 3) := by decide +kernel
theorem dJxc12de_init_da8c8_9 : decode cJxc12de_init_da8c8 9 = .ok (.return_, 1) := by decide +kernel
theorem dJx4a65c_init_da8c8_0 : decode cJx4a65c_init_da8c8 0 = .ok (.aload_n 0, 1) := by decide +kernel
theorem dJx4a65c_init_da8c8_1 : decode cJx4a65c_init_da8c8 1 = .ok (.invokespecial 1, 3) := by decide +kernel
theorem dJx4a65c_init_da8c8_4 : decode cJx4a65c_init_da8c8 4 = .ok (.aload_n 0, 1) := by decide +kernel
theorem dJx4a65c_init_da8c8_5 : decode cJx4a65c_init_da8c8 5 = .ok (.getstatic 39, 3) := by decide +kernel
theorem dJx4a65c_init_da8c8_8 : decode cJx4a65c_init_da8c8 8 = .ok (.putfield 9, 3) := by decide +kernel
theorem dJx4a65c_init_da8c8_11 : decode cJx4a65c_init_da8c8 11 = .ok (.return_, 1) := by decide +kernel
def EJxa1e45_init_da8c8 : List (Nat × Nat) := []
def EJxc12de_init_da8c8 : List (Nat × Nat) := []
def EJx4a65c_init_da8c8C1 : List (Nat × Nat) := []
def EJx4a65c_init_da8c8C2 : List (Nat × Nat) := []
def EJx4a65c_init_da8c8C3 : List (Nat × Nat) := []
set_option maxHeartbeats 4000000 in
set_option maxRecDepth 20000 in
theorem uJxa1e45_init_da8c8 (l : Launch) (dC : Nat → ClassId) (dI : Nat → Nat → Nat) (ca : Nat → ClassId) (base : Nat) (B : jF) (hB : jBok B) (hAp : jAp (dC, dI)) (G0 : jT) (H0 : Heap) (r0 : Nat) (LC LS : Nat) : Met l yJxa1e45_init_da8c8 (jw yJxa1e45_init_da8c8 cJxa1e45_init_da8c8 1 none) ({ frames := 1, cells := LC - H0.size, slots := LS - jTot H0, locals := 31 }) (va_Pc [.ref r0] (fun U => U.heap = H0 ∧ jX B base G0 [] H0 ∧ jG dC dI ca base U ∧ va_at (dC, dI) vwCl (r0, .inr (1, [.int 0, .null, .int 0])) H0 ∧ (∀ t, G0 r0 ≠ some t) ∧ base ≤ r0 ∧ jP (dC, dI) G0 H0 [] ∧ H0.size + 0 ≤ LC ∧ jTot H0 + 0 ≤ LS ∧ True)) (va_Qv (S := jT) (fun u => True) (fun u t => jRa (dC, dI) B base G0 u EJxa1e45_init_da8c8 H0 (0) (0) [] t.heap ∧ (jNk [0, 1, 2, 3, 4, 5, 6, 7, 8, 9, 10, 11, 12, 13, 14, 15, 16, 17, 175]) G0 u ∧ (va_at (dC, dI) vwCl (r0, .inr (1, [.int 0, .null, .int 0])) t.heap ∧ ∀ t, u r0 ≠ some t) ∧ jKx r0 G0 u H0 t.heap) (jA base)) (LC - H0.size) (LS - jTot H0) (jA base) := by
  refine Met.ofW (cc := cJxa1e45_init_da8c8) (maxL := 1) (ret := none) (by decide) rfl ?_
  intro p e s m args below meth c s₁ Bd hml hv
  obtain ⟨rfl, hH0, hX, hG, hraw0, hnr0, hbr0, hP0, hLC0, hLS0, hp0⟩ := hv
  have hK := hG.1
  have hx := Bd.exec
  have hb := Bd.bytes
  have hr := Bd.returns
  have hts := atoms_spec (ws := (jw yJxa1e45_init_da8c8 cJxa1e45_init_da8c8 1 none)) Bd.pre
  have htw : ∀ w ∈ jWl, w.before _ s = true := fun w h => hts w (List.mem_cons_of_mem _ h)
  have hown : s.vm.findClass RJxa1e45 = some m.cls := findClass_of_methodNamed Bd.named
  have hlocks := Bd.notSynchronized
  obtain ⟨Q, hQ⟩ : ∃ Q, Q = MQ below (va_Qv (S := jT) (fun u => True) (fun u t => jRa (dC, dI) B base G0 u EJxa1e45_init_da8c8 H0 (0) (0) [] t.heap ∧ (jNk [0, 1, 2, 3, 4, 5, 6, 7, 8, 9, 10, 11, 12, 13, 14, 15, 16, 17, 175]) G0 u ∧ (va_at (dC, dI) vwCl (r0, .inr (1, [.int 0, .null, .int 0])) t.heap ∧ ∀ t, u r0 ≠ some t) ∧ jKx r0 G0 u H0 t.heap) (jA base)) ([.ref r0] : List Value).toArray s (LC - H0.size) (LS - jTot H0) (jA base) := ⟨_, rfl⟩
  rw [← hQ]
  have hl := lv_entry ([.ref r0]) (n := 1) (Nat.le_of_ble_eq_true rfl)
  rw [lg_entry_eq]
  generalize (lg_sl ([.ref r0]) ++ List.replicate (1 - (lg_sl ([.ref r0])).length) Slot.unset).toArray = ls at hl ⊢
  have hl : lv_has ls 1 [(0, .ref r0)] := hl
  generalize hR : (headSpec (jw yJxa1e45_init_da8c8 cJxa1e45_init_da8c8 1 none) ({ frames := 1, cells := LC - H0.size, slots := LS - jTot H0, locals := 31 })).room = R
  subst hH0
  have hh : jSt (dC, dI) B base G0 G0 EJxa1e45_init_da8c8 s.heap 0 0 [] [] [] s.heap [] := jSt.start hX hP0 jMc.nil jIs.nil
  clear hX hP0
  have hk0 : (0 : Int32).toInt = 0 := by decide
  have hk1 : (1 : Int32).toInt = 1 := by decide
  have hbs : base ≤ s.heap.size := Nat.le_of_lt (Nat.lt_of_le_of_lt hbr0 hraw0.lt)
  have hRc : R.cells = LC - s.heap.size := by rw [← hR]; rfl
  have hRs : R.slots = LS - jTot s.heap := by rw [← hR]; rfl
  have hin2 : meth.name = "<init>" := (name_of_methodNamed Bd.named Bd.method).1
  have hkp : jKx r0 G0 G0 s.heap s.heap := jKx.rf
  refine lv_aload_n hx hb dJxa1e45_init_da8c8_0 rfl (lv_at hl 0 rfl) ?_
  refine W.objInit hx hb hown (htw (.methodLink RJxa1e45 1 objectInit) (jWr_10 _ (List.mem_of_getElem? (i := 1) rfl))) (htw (.instanceMethod objectInit) (jWr_1 _ (List.mem_of_getElem? (i := 10) rfl))) (htw (.code objectInit ⟨#[0xb1]⟩ 1 none) (jWr_1 _ (List.mem_of_getElem? (i := 11) rfl))) rfl (by rw [hml]; exact hl.1) rfl dJxa1e45_init_da8c8_1 (by rw [← hR]; exact Nat.le_of_ble_eq_true rfl) (by rw [← hR]; exact Nat.le_of_ble_eq_true rfl) ?_
  refine W.eq (g2 := F0 m 4 ls []) rfl ?_
  have hsz_1 := hh.2.2.2.2.2.1
  have htt_1 := hh.2.2.2.2.2.2.1
  refine W.room (fun hrc_1 hrs_1 => ?_)
  refine W.widen (k := LC - s.heap.size) (n := LS - jTot s.heap) (by omega) (by omega) ?_
  rw [hQ]
  exact W.vret hx hb hr (fun t ht hW => ⟨⟨G0, rfl, trivial, ⟨hh.ra (by first | omega | (simp only; omega)) (by first | omega | (simp only; omega)) (M1 := []) [] rfl ht, jNk.rf, ⟨by rw [ht]; exact hraw0, hnr0⟩, by rw [ht]; exact hkp⟩⟩, by rw [ht]; try exact hh.1.1, fun q h9 hq => by rw [ht]; try exact hh.1.2.1 q h9 hq⟩) hh.1.2.2 dJxa1e45_init_da8c8_4
set_option maxHeartbeats 4000000 in
set_option maxRecDepth 20000 in
theorem uJxc12de_init_da8c8 (l : Launch) (dC : Nat → ClassId) (dI : Nat → Nat → Nat) (ca : Nat → ClassId) (base : Nat) (B : jF) (hB : jBok B) (hAp : jAp (dC, dI)) (hB1 : ∀ n G a H, B 1 n G a H ↔ jOb (dC, dI) 1 3 (F1 n G) a H) (G0 : jT) (H0 : Heap) (r0 : Nat) (LC LS : Nat) : Met l yJxc12de_init_da8c8 (jw yJxc12de_init_da8c8 cJxc12de_init_da8c8 1 none) ({ frames := 2, cells := LC - H0.size, slots := LS - jTot H0, locals := 51 }) (va_Pc [.ref r0] (fun U => U.heap = H0 ∧ jX B base G0 [] H0 ∧ jG dC dI ca base U ∧ va_at (dC, dI) vwCl (r0, .inr (1, [.int 0, .null, .int 0])) H0 ∧ (∀ t, G0 r0 ≠ some t) ∧ base ≤ r0 ∧ jP (dC, dI) G0 H0 [] ∧ H0.size + 0 ≤ LC ∧ jTot H0 + 0 ≤ LS ∧ True)) (va_Qv (S := jT) (fun u => True) (fun u t => jRa (dC, dI) B base G0 u EJxc12de_init_da8c8 H0 (0) (0) [] t.heap ∧ (jNk [0, 1, 2, 3, 4, 5, 6, 7, 8, 9, 10, 11, 12, 13, 14, 15, 16, 17, 175]) G0 u ∧ (va_at (dC, dI) vwCl (r0, .inr (1, [.int 0, .null, .int 0])) t.heap ∧ ∀ t, u r0 ≠ some t) ∧ jKx r0 G0 u H0 t.heap) (jA base)) (LC - H0.size) (LS - jTot H0) (jA base) := by
  refine Met.ofW (cc := cJxc12de_init_da8c8) (maxL := 1) (ret := none) (by decide) rfl ?_
  intro p e s m args below meth c s₁ Bd hml hv
  obtain ⟨rfl, hH0, hX, hG, hraw0, hnr0, hbr0, hP0, hLC0, hLS0, hp0⟩ := hv
  have hK := hG.1
  have hx := Bd.exec
  have hb := Bd.bytes
  have hr := Bd.returns
  have hts := atoms_spec (ws := (jw yJxc12de_init_da8c8 cJxc12de_init_da8c8 1 none)) Bd.pre
  have htw : ∀ w ∈ jWl, w.before _ s = true := fun w h => hts w (List.mem_cons_of_mem _ h)
  have hown : s.vm.findClass RJxc12de = some m.cls := findClass_of_methodNamed Bd.named
  have hlocks := Bd.notSynchronized
  obtain ⟨Q, hQ⟩ : ∃ Q, Q = MQ below (va_Qv (S := jT) (fun u => True) (fun u t => jRa (dC, dI) B base G0 u EJxc12de_init_da8c8 H0 (0) (0) [] t.heap ∧ (jNk [0, 1, 2, 3, 4, 5, 6, 7, 8, 9, 10, 11, 12, 13, 14, 15, 16, 17, 175]) G0 u ∧ (va_at (dC, dI) vwCl (r0, .inr (1, [.int 0, .null, .int 0])) t.heap ∧ ∀ t, u r0 ≠ some t) ∧ jKx r0 G0 u H0 t.heap) (jA base)) ([.ref r0] : List Value).toArray s (LC - H0.size) (LS - jTot H0) (jA base) := ⟨_, rfl⟩
  rw [← hQ]
  have hl := lv_entry ([.ref r0]) (n := 1) (Nat.le_of_ble_eq_true rfl)
  rw [lg_entry_eq]
  generalize (lg_sl ([.ref r0]) ++ List.replicate (1 - (lg_sl ([.ref r0])).length) Slot.unset).toArray = ls at hl ⊢
  have hl : lv_has ls 1 [(0, .ref r0)] := hl
  generalize hR : (headSpec (jw yJxc12de_init_da8c8 cJxc12de_init_da8c8 1 none) ({ frames := 2, cells := LC - H0.size, slots := LS - jTot H0, locals := 51 })).room = R
  subst hH0
  have hh : jSt (dC, dI) B base G0 G0 EJxc12de_init_da8c8 s.heap 0 0 [] [] [] s.heap [] := jSt.start hX hP0 jMc.nil jIs.nil
  clear hX hP0
  have hk0 : (0 : Int32).toInt = 0 := by decide
  have hk1 : (1 : Int32).toInt = 1 := by decide
  have hly_1_0 := htw (u_lay RJx4a65c TJx4a65c 0) (jWc_wsJx4a65c0 _ (u_in_lay (by decide)))
  have hlk_7 := (htw (.fieldLink RJxc12de 7 "java/util/AbstractList" "modCount" "I") (jWr_9 _ (List.mem_of_getElem? (i := 20) rfl)))
  have hbs : base ≤ s.heap.size := Nat.le_of_lt (Nat.lt_of_le_of_lt hbr0 hraw0.lt)
  have hRc : R.cells = LC - s.heap.size := by rw [← hR]; rfl
  have hRs : R.slots = LS - jTot s.heap := by rw [← hR]; rfl
  have hin2 : meth.name = "<init>" := (name_of_methodNamed Bd.named Bd.method).1
  have hkp : jKx r0 G0 G0 s.heap s.heap := jKx.rf
  refine lv_aload_n hx hb dJxc12de_init_da8c8_0 rfl (lv_at hl 0 rfl) ?_
  have hsz_1 := hh.2.2.2.2.2.1
  have htt_1 := hh.2.2.2.2.2.2.1
  refine W.room (fun hrc_1 hrs_1 => ?_)
  refine va_callv (A0 := jA base) (H0 := s.heap) (va_runI (As := []) (rest := []) ⟨hx, hb, hml, hown, hts⟩ (uJxa1e45_init_da8c8 l dC dI ca base B hB hAp G0 s.heap r0 LC LS) (cwI 0 hts (jgW (jWr_10 _ (List.mem_of_getElem? (i := 0) rfl))) rfl rfl rfl (htw (.initialized RJxa1e45) (jWr_9 _ (List.mem_of_getElem? (i := 23) rfl))) (htw (.methodLink RJxc12de 1 yJxa1e45_init_da8c8) (jWr_9 _ (List.mem_of_getElem? (i := 21) rfl))) (htw (.instanceMethod yJxa1e45_init_da8c8) (jWr_9 _ (List.mem_of_getElem? (i := 22) rfl))) rfl (by decide +kernel) ⟨by rw [← hR]; exact Nat.le_of_ble_eq_true rfl, by rw [← hR]; exact Nat.le_of_ble_eq_true rfl⟩) ⟨fun a U g mk q => by obtain ⟨q0, q1, q2, qK, q10, q11, q12, q13, q14⟩ := q; exact ⟨q0, q1, q2, jG.calling g mk a qK, q10, q11, q12, q13, q14⟩, fun U hU hW => ⟨rfl, hU, hh.2.1, hG.step hW hU hh.1, hraw0, hnr0, hbr0, jP.nil, (by omega), (by omega), trivial⟩⟩ rfl rfl hl.1 rfl (lv_room (Nat.le_of_ble_eq_true rfl)) dJxc12de_init_da8c8_1 ⟨by rw [hRc]; omega, by rw [hRs]; omega⟩) hh.1 (fun q _ h => h) (fun q h => h) (fun u_1 t_1 H_1 locs_1 ht_1 hvm_1 hr_2 hb_1 hz_1 hk_1 hS_1 => ?_)
  rw [ht_1] at hb_1
  obtain ⟨G_1, rfl⟩ : ∃ z, z = u_1 := ⟨_, rfl⟩
  try simp only at hb_1
  obtain ⟨⟨hb_11, hb_12, hb_13, hb_14, hb_15, hb_16⟩, hN_1, hgc_1, hbX_1⟩ := hb_1
  have hh_1 : jSt (dC, dI) B base G0 G_1 EJxc12de_init_da8c8 s.heap (0 + (0)) (0 + (0)) [] [] [] H_1 locs_1 := (hh.callG hb_11 hb_12 hb_13 hb_14 hb_15 hS_1 rfl (L1 := []) [] rfl rfl (M1 := []) [] rfl rfl (I1 := []) [] rfl rfl).more hb_16
  have hNn_1 : (jNk [0, 1, 2, 3, 4, 5, 6, 7, 8, 9, 10, 11, 12, 13, 14, 15, 16, 17, 175]) G0 G_1 := (jNk.rf).tr hN_1
  try simp only at hr_2
  have hkp_3 := hkp.self hbX_1
  obtain ⟨hraw_1, hnr_1⟩ := hgc_1
  refine lv_aload_n hx hb dJxc12de_init_da8c8_4 rfl (lv_at hl 0 rfl) ?_
  refine lv_iconst (v := 0) hx hb dJxc12de_init_da8c8_5 (by decide) ?_
  refine j7_putR hx hb hown hK hh_1 hB hAp hraw_1 hnr_1 hbr0 (C := RJx4a65c) (T := TJx4a65c) (N := 3) rfl (i := 0) (by decide) (Nat.le_of_ble_eq_true rfl) hly_1_0 rfl hlk_7 (ty := .int) (v := .int 0) (by decide +kernel) rfl rfl dJxc12de_init_da8c8_6 (fun H_4 locs_4 hraw_4 hr_4 hh_4 => ?_)
  have hraw_4 : va_at (dC, dI) vwCl (r0, .inr (1, [.int 0, .null, .int 0])) H_4 := hraw_4
  have hkp_5 := hkp_3.put hr_4
  clear hh_1
  have hsz_6 := hh_4.2.2.2.2.2.1
  have htt_6 := hh_4.2.2.2.2.2.2.1
  refine W.room (fun hrc_6 hrs_6 => ?_)
  refine W.widen (k := LC - s.heap.size) (n := LS - jTot s.heap) (by omega) (by omega) ?_
  rw [hQ]
  exact W.vret hx hb hr (fun t ht hW => ⟨⟨G_1, rfl, trivial, ⟨hh_4.ra (by first | omega | (simp only; omega)) (by first | omega | (simp only; omega)) (M1 := []) [] rfl ht, hNn_1, ⟨by rw [ht]; exact hraw_4, hnr_1⟩, by rw [ht]; exact hkp_5⟩⟩, by rw [ht]; try exact hh_4.1.1, fun q h9 hq => by rw [ht]; try exact hh_4.1.2.1 q h9 hq⟩) hh_4.1.2.2 dJxc12de_init_da8c8_9
set_option maxHeartbeats 4000000 in
set_option maxRecDepth 20000 in
theorem uJx4a65c_init_da8c8C1 (l : Launch) (dC : Nat → ClassId) (dI : Nat → Nat → Nat) (ca : Nat → ClassId) (base : Nat) (B : jF) (hB : jBok B) (hAp : jAp (dC, dI)) (hB1 : ∀ n G a H, B 1 n G a H ↔ jOb (dC, dI) 1 3 (F1 n G) a H) (G0 : jT) (H0 : Heap) (r0 : Nat) (wl : jWl9) (LC LS : Nat) : Met l yJx4a65c_init_da8c8 (jw yJx4a65c_init_da8c8 cJx4a65c_init_da8c8 1 none) ({ frames := 3, cells := LC - H0.size, slots := LS - jTot H0, locals := 71 }) (va_Pc [.ref r0] (fun U => U.heap = H0 ∧ jX B base G0 [] H0 ∧ jG dC dI ca base U ∧ jK7 dC dI ca base U ∧ va_at (dC, dI) vwCl (r0, .inr (1, [.int 0, .null, .int 0])) H0 ∧ (∀ t, G0 r0 ≠ some t) ∧ base ≤ r0 ∧ jP (dC, dI) G0 H0 [] ∧ jIs (dC, dI) G0 H0 [(jFl, jLs dC dI ca G0 0 none wl)] ∧ H0.size + 0 ≤ LC ∧ jTot H0 + 0 ≤ LS ∧ True)) (va_Qv (S := jT) (fun u => True) (fun u t => jRa (dC, dI) B base G0 u EJx4a65c_init_da8c8C1 H0 (0) (0) [] t.heap ∧ (jNk [0, 2, 3, 4, 5, 6, 7, 8, 9, 10, 11, 12, 13, 14, 15, 16, 17, 175]) G0 u ∧ u r0 = some (1, 1) ∧ jKx r0 G0 u H0 t.heap ∧ jIs (dC, dI) u t.heap [(jFl, jLs dC dI ca u 1 none (wl.s1 0 wl.2.1))]) (jA base)) (LC - H0.size) (LS - jTot H0) (jA base) := by
  refine Met.ofW (cc := cJx4a65c_init_da8c8) (maxL := 1) (ret := none) (by decide) rfl ?_
  intro p e s m args below meth c s₁ Bd hml hv
  obtain ⟨rfl, hH0, hX, hG, hK7, hraw0, hnr0, hbr0, hP0, hI0, hLC0, hLS0, hp0⟩ := hv
  have hK := hG.1
  have hx := Bd.exec
  have hb := Bd.bytes
  have hr := Bd.returns
  have hts := atoms_spec (ws := (jw yJx4a65c_init_da8c8 cJx4a65c_init_da8c8 1 none)) Bd.pre
  have htw : ∀ w ∈ jWl, w.before _ s = true := fun w h => hts w (List.mem_cons_of_mem _ h)
  have hown : s.vm.findClass RJx4a65c = some m.cls := findClass_of_methodNamed Bd.named
  have hlocks := Bd.notSynchronized
  obtain ⟨Q, hQ⟩ : ∃ Q, Q = MQ below (va_Qv (S := jT) (fun u => True) (fun u t => jRa (dC, dI) B base G0 u EJx4a65c_init_da8c8C1 H0 (0) (0) [] t.heap ∧ (jNk [0, 2, 3, 4, 5, 6, 7, 8, 9, 10, 11, 12, 13, 14, 15, 16, 17, 175]) G0 u ∧ u r0 = some (1, 1) ∧ jKx r0 G0 u H0 t.heap ∧ jIs (dC, dI) u t.heap [(jFl, jLs dC dI ca u 1 none (wl.s1 0 wl.2.1))]) (jA base)) ([.ref r0] : List Value).toArray s (LC - H0.size) (LS - jTot H0) (jA base) := ⟨_, rfl⟩
  rw [← hQ]
  have hl := lv_entry ([.ref r0]) (n := 1) (Nat.le_of_ble_eq_true rfl)
  rw [lg_entry_eq]
  generalize (lg_sl ([.ref r0]) ++ List.replicate (1 - (lg_sl ([.ref r0])).length) Slot.unset).toArray = ls at hl ⊢
  have hl : lv_has ls 1 [(0, .ref r0)] := hl
  generalize hR : (headSpec (jw yJx4a65c_init_da8c8 cJx4a65c_init_da8c8 1 none) ({ frames := 3, cells := LC - H0.size, slots := LS - jTot H0, locals := 71 })).room = R
  subst hH0
  have hh : jSt (dC, dI) B base G0 G0 EJx4a65c_init_da8c8C1 s.heap 0 0 [] [] [(jFl, jLs dC dI ca G0 0 none wl)] s.heap [] := jSt.start hX hP0 jMc.nil hI0
  clear hX hP0
  have hk0 : (0 : Int32).toInt = 0 := by decide
  have hk1 : (1 : Int32).toInt = 1 := by decide
  have hly_1_1 := htw (u_lay RJx4a65c TJx4a65c 1) (jWc_wsJx4a65c0 _ (u_in_lay (by decide)))
  have hlk_9 := (htw (.fieldLink RJx4a65c 9 "java/util/ArrayList" "elementData" "[Ljava/lang/Object;") (jWr_9 _ (List.mem_of_getElem? (i := 15) rfl)))
  have hbs : base ≤ s.heap.size := Nat.le_of_lt (Nat.lt_of_le_of_lt hbr0 hraw0.lt)
  have hRc : R.cells = LC - s.heap.size := by rw [← hR]; rfl
  have hRs : R.slots = LS - jTot s.heap := by rw [← hR]; rfl
  have hin2 : meth.name = "<init>" := (name_of_methodNamed Bd.named Bd.method).1
  have hkp : jKx r0 G0 G0 s.heap s.heap := jKx.rf
  refine lv_aload_n hx hb dJx4a65c_init_da8c8_0 rfl (lv_at hl 0 rfl) ?_
  have hsz_1 := hh.2.2.2.2.2.1
  have htt_1 := hh.2.2.2.2.2.2.1
  refine W.room (fun hrc_1 hrs_1 => ?_)
  refine va_callv (A0 := jA base) (H0 := s.heap) (va_runI (As := []) (rest := []) ⟨hx, hb, hml, hown, hts⟩ (uJxc12de_init_da8c8 l dC dI ca base B hB hAp hB1 G0 s.heap r0 LC LS) (cwI 0 hts (jgW (jWr_9 _ (List.mem_of_getElem? (i := 19) rfl))) rfl rfl rfl (htw (.initialized RJxc12de) (jWr_9 _ (List.mem_of_getElem? (i := 18) rfl))) (htw (.methodLink RJx4a65c 1 yJxc12de_init_da8c8) (jWr_9 _ (List.mem_of_getElem? (i := 16) rfl))) (htw (.instanceMethod yJxc12de_init_da8c8) (jWr_9 _ (List.mem_of_getElem? (i := 17) rfl))) rfl (by decide +kernel) ⟨by rw [← hR]; exact Nat.le_of_ble_eq_true rfl, by rw [← hR]; exact Nat.le_of_ble_eq_true rfl⟩) ⟨fun a U g mk q => by obtain ⟨q0, q1, q2, qK, q10, q11, q12, q13, q14⟩ := q; exact ⟨q0, q1, q2, jG.calling g mk a qK, q10, q11, q12, q13, q14⟩, fun U hU hW => ⟨rfl, hU, hh.2.1, hG.step hW hU hh.1, hraw0, hnr0, hbr0, jP.nil, (by omega), (by omega), trivial⟩⟩ rfl rfl hl.1 rfl (lv_room (Nat.le_of_ble_eq_true rfl)) dJx4a65c_init_da8c8_1 ⟨by rw [hRc]; omega, by rw [hRs]; omega⟩) hh.1 (fun q _ h => h) (fun q h => h) (fun u_1 t_1 H_1 locs_1 ht_1 hvm_1 hr_2 hb_1 hz_1 hk_1 hS_1 => ?_)
  rw [ht_1] at hb_1
  obtain ⟨G_1, rfl⟩ : ∃ z, z = u_1 := ⟨_, rfl⟩
  try simp only at hb_1
  obtain ⟨⟨hb_11, hb_12, hb_13, hb_14, hb_15, hb_16⟩, hN_1, hgc_1, hbX_1⟩ := hb_1
  have hL_1 := hN_1
  have hN_1 : (jNk [0, 2, 3, 4, 5, 6, 7, 8, 9, 10, 11, 12, 13, 14, 15, 16, 17, 175]) G0 G_1 := hN_1.sub (by decide)
  have hh_1 : jSt (dC, dI) B base G0 G_1 EJx4a65c_init_da8c8C1 s.heap (0 + (0)) (0 + (0)) [] [] [(jFl, jLs dC dI ca G0 0 none wl)] H_1 locs_1 := (hh.callG hb_11 hb_12 hb_13 hb_14 hb_15 hS_1 rfl (L1 := []) [] rfl rfl (M1 := []) [] rfl rfl (I1 := [(jFl, jLs dC dI ca G0 0 none wl)]) [0] rfl rfl).more hb_16
  have hNn_1 : (jNk [0, 2, 3, 4, 5, 6, 7, 8, 9, 10, 11, 12, 13, 14, 15, 16, 17, 175]) G0 G_1 := (jNk.rf).tr hN_1
  have hd_3 := jLs.grow (hh_1.iv 0 rfl) hb_12 hL_1 (by decide)
  have hh_4 := hh_1.sub (L1 := []) [] rfl (M1 := []) [] rfl (I1 := []) [] rfl
  clear hh_1
  have hh_5 := hh_4.addI (jLs.ie hd_3)
  clear hh_4
  try simp only at hr_2
  have hkp_6 := hkp.self hbX_1
  obtain ⟨hraw_1, hnr_1⟩ := hgc_1
  refine lv_aload_n hx hb dJx4a65c_init_da8c8_4 rfl (lv_at hl 0 rfl) ?_
  refine va_gets hx hb hK7.2.2.2.2.2.2.1 hh_5.1 hown (htw (.fieldLink RJx4a65c 39 "java/util/ArrayList" "DEFAULTCAPACITY_EMPTY_ELEMENTDATA" "[Ljava/lang/Object;") (jWr_9 _ (List.mem_of_getElem? (i := 14) rfl))) (fun _ h9 => h9) dJx4a65c_init_da8c8_5 ?_
  refine j7_putR hx hb hown hK hh_5 hB hAp hraw_1 hnr_1 hbr0 (C := RJx4a65c) (T := TJx4a65c) (N := 3) rfl (i := 1) (by decide) (Nat.le_of_ble_eq_true rfl) hly_1_1 rfl hlk_9 (ty := (.array (.object "java/lang/Object"))) (v := .ref (dI 99 0)) (by decide +kernel) rfl rfl dJx4a65c_init_da8c8_8 (fun H_8 locs_8 hraw_8 hr_8 hh_8 => ?_)
  have hraw_8 : va_at (dC, dI) vwCl (r0, .inr (1, [.int 0, .ref (dI 99 0), .int 0])) H_8 := hraw_8
  have hkp_9 := hkp_6.put hr_8
  clear hh_5
  have hsz_10 := hh_8.2.2.2.2.2.1
  have htt_10 := hh_8.2.2.2.2.2.2.1
  refine W.room (fun hrc_10 hrs_10 => ?_)
  refine W.widen (k := LC - s.heap.size) (n := LS - jTot s.heap) (by omega) (by omega) ?_
  rw [hQ]
  have hd_11 := jLs.typ (hh_8.iv 0 rfl) hnr_1 (jf.raw (C := RJx4a65c) (T := TJx4a65c) (N := 3) rfl hraw_8 (i := 2) (by decide)) (jf.raw (C := RJx4a65c) (T := TJx4a65c) (N := 3) rfl hraw_8 (i := 1) (by decide)) (by decide) (wn := (wl.s1 0 wl.2.1)) (fun _ => rfl) (fun q => absurd rfl q) ⟨fun q => absurd rfl q, fun _ => rfl, fun _ => rfl⟩
  have hh_12 := hh_8.sub (L1 := []) [] rfl (M1 := []) [] rfl (I1 := []) [] rfl
  clear hh_8
  have hle_13 : jLe G_1 (va_up G_1 r0 (some (1, 1))) := jLe.typ hnr_1
  have hfa_13 : jIa (.int 0) ∧ jRr (.ref (dI 99 0)) ∧ jI 0 40 (.int 0) ∧ True := ⟨⟨_, rfl⟩, ⟨_, rfl⟩, ⟨_, rfl, by omega, by omega⟩, trivial⟩
  have hh_13 := hh_12.typ (k := 1) (n := 1) hB hnr_1 hbr0 hraw_8.lt (jOb.of (C := RJx4a65c) (T := TJx4a65c) (N := 3) (F := F1) hB1 rfl hraw_8 (show jFx (F1 1 (va_up G_1 r0 (some (1, 1)))) [.int 0, .ref (dI 99 0), .int 0] from hfa_13))
  have hgn_13 : (va_up G_1 r0 (some (1, 1))) r0 = some (1, 1) := jUp_self
  have hN_13 : (jNk [0, 2, 3, 4, 5, 6, 7, 8, 9, 10, 11, 12, 13, 14, 15, 16, 17, 175]) G_1 (va_up G_1 r0 (some (1, 1))) := jNk.new (by decide)
  have hNn_13 : (jNk [0, 2, 3, 4, 5, 6, 7, 8, 9, 10, 11, 12, 13, 14, 15, 16, 17, 175]) G0 (va_up G_1 r0 (some (1, 1))) := (hNn_1).tr hN_13
  have hkp_14 := hkp_9.typ (t := some (1, 1))
  have hh_15 := hh_13.addI (jLs.ie hd_11)
  clear hh_13
  exact W.vret hx hb hr (fun t ht hW => ⟨⟨(va_up G_1 r0 (some (1, 1))), rfl, trivial, ⟨hh_15.ra (by first | (simp only; omega) | omega) (by first | (simp only; omega) | omega) (M1 := []) [] rfl ht, hNn_13, hgn_13, by rw [ht]; exact hkp_14, by rw [ht]; exact hh_15.2.2.2.2.2.2.2.2.sub (L1 := [(jFl, jLs dC dI ca (va_up G_1 r0 (some (1, 1))) 1 none (wl.s1 0 wl.2.1))]) [0] rfl⟩⟩, by rw [ht]; try exact hh_15.1.1, fun q h9 hq => by rw [ht]; try exact hh_15.1.2.1 q h9 hq⟩) hh_15.1.2.2 dJx4a65c_init_da8c8_11
set_option maxHeartbeats 4000000 in
set_option maxRecDepth 20000 in
theorem uJx4a65c_init_da8c8C2 (l : Launch) (dC : Nat → ClassId) (dI : Nat → Nat → Nat) (ca : Nat → ClassId) (base : Nat) (B : jF) (hB : jBok B) (hAp : jAp (dC, dI)) (hB1 : ∀ n G a H, B 1 n G a H ↔ jOb (dC, dI) 1 3 (F1 n G) a H) (G0 : jT) (H0 : Heap) (r0 : Nat) (wl : jWl9) (LC LS : Nat) : Met l yJx4a65c_init_da8c8 (jw yJx4a65c_init_da8c8 cJx4a65c_init_da8c8 1 none) ({ frames := 3, cells := LC - H0.size, slots := LS - jTot H0, locals := 71 }) (va_Pc [.ref r0] (fun U => U.heap = H0 ∧ jX B base G0 [] H0 ∧ jG dC dI ca base U ∧ jK7 dC dI ca base U ∧ va_at (dC, dI) vwCl (r0, .inr (1, [.int 0, .null, .int 0])) H0 ∧ (∀ t, G0 r0 ≠ some t) ∧ base ≤ r0 ∧ jP (dC, dI) G0 H0 [] ∧ jIs (dC, dI) G0 H0 [(jFl, jLs dC dI ca G0 1 none wl)] ∧ H0.size + 0 ≤ LC ∧ jTot H0 + 0 ≤ LS ∧ True)) (va_Qv (S := jT) (fun u => True) (fun u t => jRa (dC, dI) B base G0 u EJx4a65c_init_da8c8C2 H0 (0) (0) [] t.heap ∧ (jNk [0, 2, 3, 4, 5, 6, 7, 8, 9, 10, 11, 12, 13, 14, 15, 16, 17, 175]) G0 u ∧ u r0 = some (1, 2) ∧ jKx r0 G0 u H0 t.heap ∧ jIs (dC, dI) u t.heap [(jFl, jLs dC dI ca u 2 none (wl.s2 []))]) (jA base)) (LC - H0.size) (LS - jTot H0) (jA base) := by
  refine Met.ofW (cc := cJx4a65c_init_da8c8) (maxL := 1) (ret := none) (by decide) rfl ?_
  intro p e s m args below meth c s₁ Bd hml hv
  obtain ⟨rfl, hH0, hX, hG, hK7, hraw0, hnr0, hbr0, hP0, hI0, hLC0, hLS0, hp0⟩ := hv
  have hK := hG.1
  have hx := Bd.exec
  have hb := Bd.bytes
  have hr := Bd.returns
  have hts := atoms_spec (ws := (jw yJx4a65c_init_da8c8 cJx4a65c_init_da8c8 1 none)) Bd.pre
  have htw : ∀ w ∈ jWl, w.before _ s = true := fun w h => hts w (List.mem_cons_of_mem _ h)
  have hown : s.vm.findClass RJx4a65c = some m.cls := findClass_of_methodNamed Bd.named
  have hlocks := Bd.notSynchronized
  obtain ⟨Q, hQ⟩ : ∃ Q, Q = MQ below (va_Qv (S := jT) (fun u => True) (fun u t => jRa (dC, dI) B base G0 u EJx4a65c_init_da8c8C2 H0 (0) (0) [] t.heap ∧ (jNk [0, 2, 3, 4, 5, 6, 7, 8, 9, 10, 11, 12, 13, 14, 15, 16, 17, 175]) G0 u ∧ u r0 = some (1, 2) ∧ jKx r0 G0 u H0 t.heap ∧ jIs (dC, dI) u t.heap [(jFl, jLs dC dI ca u 2 none (wl.s2 []))]) (jA base)) ([.ref r0] : List Value).toArray s (LC - H0.size) (LS - jTot H0) (jA base) := ⟨_, rfl⟩
  rw [← hQ]
  have hl := lv_entry ([.ref r0]) (n := 1) (Nat.le_of_ble_eq_true rfl)
  rw [lg_entry_eq]
  generalize (lg_sl ([.ref r0]) ++ List.replicate (1 - (lg_sl ([.ref r0])).length) Slot.unset).toArray = ls at hl ⊢
  have hl : lv_has ls 1 [(0, .ref r0)] := hl
  generalize hR : (headSpec (jw yJx4a65c_init_da8c8 cJx4a65c_init_da8c8 1 none) ({ frames := 3, cells := LC - H0.size, slots := LS - jTot H0, locals := 71 })).room = R
  subst hH0
  have hh : jSt (dC, dI) B base G0 G0 EJx4a65c_init_da8c8C2 s.heap 0 0 [] [] [(jFl, jLs dC dI ca G0 1 none wl)] s.heap [] := jSt.start hX hP0 jMc.nil hI0
  clear hX hP0
  have hk0 : (0 : Int32).toInt = 0 := by decide
  have hk1 : (1 : Int32).toInt = 1 := by decide
  have hly_1_1 := htw (u_lay RJx4a65c TJx4a65c 1) (jWc_wsJx4a65c0 _ (u_in_lay (by decide)))
  have hlk_9 := (htw (.fieldLink RJx4a65c 9 "java/util/ArrayList" "elementData" "[Ljava/lang/Object;") (jWr_9 _ (List.mem_of_getElem? (i := 15) rfl)))
  have hbs : base ≤ s.heap.size := Nat.le_of_lt (Nat.lt_of_le_of_lt hbr0 hraw0.lt)
  have hRc : R.cells = LC - s.heap.size := by rw [← hR]; rfl
  have hRs : R.slots = LS - jTot s.heap := by rw [← hR]; rfl
  have hin2 : meth.name = "<init>" := (name_of_methodNamed Bd.named Bd.method).1
  have hkp : jKx r0 G0 G0 s.heap s.heap := jKx.rf
  refine lv_aload_n hx hb dJx4a65c_init_da8c8_0 rfl (lv_at hl 0 rfl) ?_
  have hsz_1 := hh.2.2.2.2.2.1
  have htt_1 := hh.2.2.2.2.2.2.1
  refine W.room (fun hrc_1 hrs_1 => ?_)
  refine va_callv (A0 := jA base) (H0 := s.heap) (va_runI (As := []) (rest := []) ⟨hx, hb, hml, hown, hts⟩ (uJxc12de_init_da8c8 l dC dI ca base B hB hAp hB1 G0 s.heap r0 LC LS) (cwI 0 hts (jgW (jWr_9 _ (List.mem_of_getElem? (i := 19) rfl))) rfl rfl rfl (htw (.initialized RJxc12de) (jWr_9 _ (List.mem_of_getElem? (i := 18) rfl))) (htw (.methodLink RJx4a65c 1 yJxc12de_init_da8c8) (jWr_9 _ (List.mem_of_getElem? (i := 16) rfl))) (htw (.instanceMethod yJxc12de_init_da8c8) (jWr_9 _ (List.mem_of_getElem? (i := 17) rfl))) rfl (by decide +kernel) ⟨by rw [← hR]; exact Nat.le_of_ble_eq_true rfl, by rw [← hR]; exact Nat.le_of_ble_eq_true rfl⟩) ⟨fun a U g mk q => by obtain ⟨q0, q1, q2, qK, q10, q11, q12, q13, q14⟩ := q; exact ⟨q0, q1, q2, jG.calling g mk a qK, q10, q11, q12, q13, q14⟩, fun U hU hW => ⟨rfl, hU, hh.2.1, hG.step hW hU hh.1, hraw0, hnr0, hbr0, jP.nil, (by omega), (by omega), trivial⟩⟩ rfl rfl hl.1 rfl (lv_room (Nat.le_of_ble_eq_true rfl)) dJx4a65c_init_da8c8_1 ⟨by rw [hRc]; omega, by rw [hRs]; omega⟩) hh.1 (fun q _ h => h) (fun q h => h) (fun u_1 t_1 H_1 locs_1 ht_1 hvm_1 hr_2 hb_1 hz_1 hk_1 hS_1 => ?_)
  rw [ht_1] at hb_1
  obtain ⟨G_1, rfl⟩ : ∃ z, z = u_1 := ⟨_, rfl⟩
  try simp only at hb_1
  obtain ⟨⟨hb_11, hb_12, hb_13, hb_14, hb_15, hb_16⟩, hN_1, hgc_1, hbX_1⟩ := hb_1
  have hL_1 := hN_1
  have hN_1 : (jNk [0, 2, 3, 4, 5, 6, 7, 8, 9, 10, 11, 12, 13, 14, 15, 16, 17, 175]) G0 G_1 := hN_1.sub (by decide)
  have hh_1 : jSt (dC, dI) B base G0 G_1 EJx4a65c_init_da8c8C2 s.heap (0 + (0)) (0 + (0)) [] [] [(jFl, jLs dC dI ca G0 1 none wl)] H_1 locs_1 := (hh.callG hb_11 hb_12 hb_13 hb_14 hb_15 hS_1 rfl (L1 := []) [] rfl rfl (M1 := []) [] rfl rfl (I1 := [(jFl, jLs dC dI ca G0 1 none wl)]) [0] rfl rfl).more hb_16
  have hNn_1 : (jNk [0, 2, 3, 4, 5, 6, 7, 8, 9, 10, 11, 12, 13, 14, 15, 16, 17, 175]) G0 G_1 := (jNk.rf).tr hN_1
  have hd_3 := jLs.grow (hh_1.iv 0 rfl) hb_12 hL_1 (by decide)
  have hh_4 := hh_1.sub (L1 := []) [] rfl (M1 := []) [] rfl (I1 := []) [] rfl
  clear hh_1
  have hh_5 := hh_4.addI (jLs.ie hd_3)
  clear hh_4
  try simp only at hr_2
  have hkp_6 := hkp.self hbX_1
  obtain ⟨hraw_1, hnr_1⟩ := hgc_1
  refine lv_aload_n hx hb dJx4a65c_init_da8c8_4 rfl (lv_at hl 0 rfl) ?_
  refine va_gets hx hb hK7.2.2.2.2.2.2.1 hh_5.1 hown (htw (.fieldLink RJx4a65c 39 "java/util/ArrayList" "DEFAULTCAPACITY_EMPTY_ELEMENTDATA" "[Ljava/lang/Object;") (jWr_9 _ (List.mem_of_getElem? (i := 14) rfl))) (fun _ h9 => h9) dJx4a65c_init_da8c8_5 ?_
  refine j7_putR hx hb hown hK hh_5 hB hAp hraw_1 hnr_1 hbr0 (C := RJx4a65c) (T := TJx4a65c) (N := 3) rfl (i := 1) (by decide) (Nat.le_of_ble_eq_true rfl) hly_1_1 rfl hlk_9 (ty := (.array (.object "java/lang/Object"))) (v := .ref (dI 99 0)) (by decide +kernel) rfl rfl dJx4a65c_init_da8c8_8 (fun H_8 locs_8 hraw_8 hr_8 hh_8 => ?_)
  have hraw_8 : va_at (dC, dI) vwCl (r0, .inr (1, [.int 0, .ref (dI 99 0), .int 0])) H_8 := hraw_8
  have hkp_9 := hkp_6.put hr_8
  clear hh_5
  have hsz_10 := hh_8.2.2.2.2.2.1
  have htt_10 := hh_8.2.2.2.2.2.2.1
  refine W.room (fun hrc_10 hrs_10 => ?_)
  refine W.widen (k := LC - s.heap.size) (n := LS - jTot s.heap) (by omega) (by omega) ?_
  rw [hQ]
  have hd_11 := jLs.typ (hh_8.iv 0 rfl) hnr_1 (jf.raw (C := RJx4a65c) (T := TJx4a65c) (N := 3) rfl hraw_8 (i := 2) (by decide)) (jf.raw (C := RJx4a65c) (T := TJx4a65c) (N := 3) rfl hraw_8 (i := 1) (by decide)) (by decide) (wn := (wl.s2 [])) (fun q => absurd q (by decide)) (fun _ => rfl) ⟨fun _ => ⟨rfl, rfl⟩, fun q => absurd rfl q, fun _ => rfl⟩
  have hh_12 := hh_8.sub (L1 := []) [] rfl (M1 := []) [] rfl (I1 := []) [] rfl
  clear hh_8
  have hle_13 : jLe G_1 (va_up G_1 r0 (some (1, 2))) := jLe.typ hnr_1
  have hfa_13 : jIa (.int 0) ∧ jRr (.ref (dI 99 0)) ∧ jI 0 40 (.int 0) ∧ True := ⟨⟨_, rfl⟩, ⟨_, rfl⟩, ⟨_, rfl, by omega, by omega⟩, trivial⟩
  have hh_13 := hh_12.typ (k := 1) (n := 2) hB hnr_1 hbr0 hraw_8.lt (jOb.of (C := RJx4a65c) (T := TJx4a65c) (N := 3) (F := F1) hB1 rfl hraw_8 (show jFx (F1 2 (va_up G_1 r0 (some (1, 2)))) [.int 0, .ref (dI 99 0), .int 0] from hfa_13))
  have hgn_13 : (va_up G_1 r0 (some (1, 2))) r0 = some (1, 2) := jUp_self
  have hN_13 : (jNk [0, 2, 3, 4, 5, 6, 7, 8, 9, 10, 11, 12, 13, 14, 15, 16, 17, 175]) G_1 (va_up G_1 r0 (some (1, 2))) := jNk.new (by decide)
  have hNn_13 : (jNk [0, 2, 3, 4, 5, 6, 7, 8, 9, 10, 11, 12, 13, 14, 15, 16, 17, 175]) G0 (va_up G_1 r0 (some (1, 2))) := (hNn_1).tr hN_13
  have hkp_14 := hkp_9.typ (t := some (1, 2))
  have hh_15 := hh_13.addI (jLs.ie hd_11)
  clear hh_13
  exact W.vret hx hb hr (fun t ht hW => ⟨⟨(va_up G_1 r0 (some (1, 2))), rfl, trivial, ⟨hh_15.ra (by first | (simp only; omega) | omega) (by first | (simp only; omega) | omega) (M1 := []) [] rfl ht, hNn_13, hgn_13, by rw [ht]; exact hkp_14, by rw [ht]; exact hh_15.2.2.2.2.2.2.2.2.sub (L1 := [(jFl, jLs dC dI ca (va_up G_1 r0 (some (1, 2))) 2 none (wl.s2 []))]) [0] rfl⟩⟩, by rw [ht]; try exact hh_15.1.1, fun q h9 hq => by rw [ht]; try exact hh_15.1.2.1 q h9 hq⟩) hh_15.1.2.2 dJx4a65c_init_da8c8_11
set_option maxHeartbeats 4000000 in
set_option maxRecDepth 20000 in
theorem uJx4a65c_init_da8c8C3 (l : Launch) (dC : Nat → ClassId) (dI : Nat → Nat → Nat) (ca : Nat → ClassId) (base : Nat) (B : jF) (hB : jBok B) (hAp : jAp (dC, dI)) (hB1 : ∀ n G a H, B 1 n G a H ↔ jOb (dC, dI) 1 3 (F1 n G) a H) (G0 : jT) (H0 : Heap) (r0 : Nat) (wl : jWl9) (LC LS : Nat) : Met l yJx4a65c_init_da8c8 (jw yJx4a65c_init_da8c8 cJx4a65c_init_da8c8 1 none) ({ frames := 3, cells := LC - H0.size, slots := LS - jTot H0, locals := 71 }) (va_Pc [.ref r0] (fun U => U.heap = H0 ∧ jX B base G0 [] H0 ∧ jG dC dI ca base U ∧ jK7 dC dI ca base U ∧ va_at (dC, dI) vwCl (r0, .inr (1, [.int 0, .null, .int 0])) H0 ∧ (∀ t, G0 r0 ≠ some t) ∧ base ≤ r0 ∧ jP (dC, dI) G0 H0 [] ∧ jIs (dC, dI) G0 H0 [(jFl, jLs dC dI ca G0 2 none wl)] ∧ H0.size + 0 ≤ LC ∧ jTot H0 + 0 ≤ LS ∧ True)) (va_Qv (S := jT) (fun u => True) (fun u t => jRa (dC, dI) B base G0 u EJx4a65c_init_da8c8C3 H0 (0) (0) [] t.heap ∧ (jNk [0, 2, 3, 4, 5, 6, 7, 8, 9, 10, 11, 12, 13, 14, 15, 16, 17, 175]) G0 u ∧ u r0 = some (1, 3) ∧ jKx r0 G0 u H0 t.heap ∧ jIs (dC, dI) u t.heap [(jFl, jLs dC dI ca u 3 none (wl.s3 []))]) (jA base)) (LC - H0.size) (LS - jTot H0) (jA base) := by
  refine Met.ofW (cc := cJx4a65c_init_da8c8) (maxL := 1) (ret := none) (by decide) rfl ?_
  intro p e s m args below meth c s₁ Bd hml hv
  obtain ⟨rfl, hH0, hX, hG, hK7, hraw0, hnr0, hbr0, hP0, hI0, hLC0, hLS0, hp0⟩ := hv
  have hK := hG.1
  have hx := Bd.exec
  have hb := Bd.bytes
  have hr := Bd.returns
  have hts := atoms_spec (ws := (jw yJx4a65c_init_da8c8 cJx4a65c_init_da8c8 1 none)) Bd.pre
  have htw : ∀ w ∈ jWl, w.before _ s = true := fun w h => hts w (List.mem_cons_of_mem _ h)
  have hown : s.vm.findClass RJx4a65c = some m.cls := findClass_of_methodNamed Bd.named
  have hlocks := Bd.notSynchronized
  obtain ⟨Q, hQ⟩ : ∃ Q, Q = MQ below (va_Qv (S := jT) (fun u => True) (fun u t => jRa (dC, dI) B base G0 u EJx4a65c_init_da8c8C3 H0 (0) (0) [] t.heap ∧ (jNk [0, 2, 3, 4, 5, 6, 7, 8, 9, 10, 11, 12, 13, 14, 15, 16, 17, 175]) G0 u ∧ u r0 = some (1, 3) ∧ jKx r0 G0 u H0 t.heap ∧ jIs (dC, dI) u t.heap [(jFl, jLs dC dI ca u 3 none (wl.s3 []))]) (jA base)) ([.ref r0] : List Value).toArray s (LC - H0.size) (LS - jTot H0) (jA base) := ⟨_, rfl⟩
  rw [← hQ]
  have hl := lv_entry ([.ref r0]) (n := 1) (Nat.le_of_ble_eq_true rfl)
  rw [lg_entry_eq]
  generalize (lg_sl ([.ref r0]) ++ List.replicate (1 - (lg_sl ([.ref r0])).length) Slot.unset).toArray = ls at hl ⊢
  have hl : lv_has ls 1 [(0, .ref r0)] := hl
  generalize hR : (headSpec (jw yJx4a65c_init_da8c8 cJx4a65c_init_da8c8 1 none) ({ frames := 3, cells := LC - H0.size, slots := LS - jTot H0, locals := 71 })).room = R
  subst hH0
  have hh : jSt (dC, dI) B base G0 G0 EJx4a65c_init_da8c8C3 s.heap 0 0 [] [] [(jFl, jLs dC dI ca G0 2 none wl)] s.heap [] := jSt.start hX hP0 jMc.nil hI0
  clear hX hP0
  have hk0 : (0 : Int32).toInt = 0 := by decide
  have hk1 : (1 : Int32).toInt = 1 := by decide
  have hly_1_1 := htw (u_lay RJx4a65c TJx4a65c 1) (jWc_wsJx4a65c0 _ (u_in_lay (by decide)))
  have hlk_9 := (htw (.fieldLink RJx4a65c 9 "java/util/ArrayList" "elementData" "[Ljava/lang/Object;") (jWr_9 _ (List.mem_of_getElem? (i := 15) rfl)))
  have hbs : base ≤ s.heap.size := Nat.le_of_lt (Nat.lt_of_le_of_lt hbr0 hraw0.lt)
  have hRc : R.cells = LC - s.heap.size := by rw [← hR]; rfl
  have hRs : R.slots = LS - jTot s.heap := by rw [← hR]; rfl
  have hin2 : meth.name = "<init>" := (name_of_methodNamed Bd.named Bd.method).1
  have hkp : jKx r0 G0 G0 s.heap s.heap := jKx.rf
  refine lv_aload_n hx hb dJx4a65c_init_da8c8_0 rfl (lv_at hl 0 rfl) ?_
  have hsz_1 := hh.2.2.2.2.2.1
  have htt_1 := hh.2.2.2.2.2.2.1
  refine W.room (fun hrc_1 hrs_1 => ?_)
  refine va_callv (A0 := jA base) (H0 := s.heap) (va_runI (As := []) (rest := []) ⟨hx, hb, hml, hown, hts⟩ (uJxc12de_init_da8c8 l dC dI ca base B hB hAp hB1 G0 s.heap r0 LC LS) (cwI 0 hts (jgW (jWr_9 _ (List.mem_of_getElem? (i := 19) rfl))) rfl rfl rfl (htw (.initialized RJxc12de) (jWr_9 _ (List.mem_of_getElem? (i := 18) rfl))) (htw (.methodLink RJx4a65c 1 yJxc12de_init_da8c8) (jWr_9 _ (List.mem_of_getElem? (i := 16) rfl))) (htw (.instanceMethod yJxc12de_init_da8c8) (jWr_9 _ (List.mem_of_getElem? (i := 17) rfl))) rfl (by decide +kernel) ⟨by rw [← hR]; exact Nat.le_of_ble_eq_true rfl, by rw [← hR]; exact Nat.le_of_ble_eq_true rfl⟩) ⟨fun a U g mk q => by obtain ⟨q0, q1, q2, qK, q10, q11, q12, q13, q14⟩ := q; exact ⟨q0, q1, q2, jG.calling g mk a qK, q10, q11, q12, q13, q14⟩, fun U hU hW => ⟨rfl, hU, hh.2.1, hG.step hW hU hh.1, hraw0, hnr0, hbr0, jP.nil, (by omega), (by omega), trivial⟩⟩ rfl rfl hl.1 rfl (lv_room (Nat.le_of_ble_eq_true rfl)) dJx4a65c_init_da8c8_1 ⟨by rw [hRc]; omega, by rw [hRs]; omega⟩) hh.1 (fun q _ h => h) (fun q h => h) (fun u_1 t_1 H_1 locs_1 ht_1 hvm_1 hr_2 hb_1 hz_1 hk_1 hS_1 => ?_)
  rw [ht_1] at hb_1
  obtain ⟨G_1, rfl⟩ : ∃ z, z = u_1 := ⟨_, rfl⟩
  try simp only at hb_1
  obtain ⟨⟨hb_11, hb_12, hb_13, hb_14, hb_15, hb_16⟩, hN_1, hgc_1, hbX_1⟩ := hb_1
  have hL_1 := hN_1
  have hN_1 : (jNk [0, 2, 3, 4, 5, 6, 7, 8, 9, 10, 11, 12, 13, 14, 15, 16, 17, 175]) G0 G_1 := hN_1.sub (by decide)
  have hh_1 : jSt (dC, dI) B base G0 G_1 EJx4a65c_init_da8c8C3 s.heap (0 + (0)) (0 + (0)) [] [] [(jFl, jLs dC dI ca G0 2 none wl)] H_1 locs_1 := (hh.callG hb_11 hb_12 hb_13 hb_14 hb_15 hS_1 rfl (L1 := []) [] rfl rfl (M1 := []) [] rfl rfl (I1 := [(jFl, jLs dC dI ca G0 2 none wl)]) [0] rfl rfl).more hb_16
  have hNn_1 : (jNk [0, 2, 3, 4, 5, 6, 7, 8, 9, 10, 11, 12, 13, 14, 15, 16, 17, 175]) G0 G_1 := (jNk.rf).tr hN_1
  have hd_3 := jLs.grow (hh_1.iv 0 rfl) hb_12 hL_1 (by decide)
  have hh_4 := hh_1.sub (L1 := []) [] rfl (M1 := []) [] rfl (I1 := []) [] rfl
  clear hh_1
  have hh_5 := hh_4.addI (jLs.ie hd_3)
  clear hh_4
  try simp only at hr_2
  have hkp_6 := hkp.self hbX_1
  obtain ⟨hraw_1, hnr_1⟩ := hgc_1
  refine lv_aload_n hx hb dJx4a65c_init_da8c8_4 rfl (lv_at hl 0 rfl) ?_
  refine va_gets hx hb hK7.2.2.2.2.2.2.1 hh_5.1 hown (htw (.fieldLink RJx4a65c 39 "java/util/ArrayList" "DEFAULTCAPACITY_EMPTY_ELEMENTDATA" "[Ljava/lang/Object;") (jWr_9 _ (List.mem_of_getElem? (i := 14) rfl))) (fun _ h9 => h9) dJx4a65c_init_da8c8_5 ?_
  refine j7_putR hx hb hown hK hh_5 hB hAp hraw_1 hnr_1 hbr0 (C := RJx4a65c) (T := TJx4a65c) (N := 3) rfl (i := 1) (by decide) (Nat.le_of_ble_eq_true rfl) hly_1_1 rfl hlk_9 (ty := (.array (.object "java/lang/Object"))) (v := .ref (dI 99 0)) (by decide +kernel) rfl rfl dJx4a65c_init_da8c8_8 (fun H_8 locs_8 hraw_8 hr_8 hh_8 => ?_)
  have hraw_8 : va_at (dC, dI) vwCl (r0, .inr (1, [.int 0, .ref (dI 99 0), .int 0])) H_8 := hraw_8
  have hkp_9 := hkp_6.put hr_8
  clear hh_5
  have hsz_10 := hh_8.2.2.2.2.2.1
  have htt_10 := hh_8.2.2.2.2.2.2.1
  refine W.room (fun hrc_10 hrs_10 => ?_)
  refine W.widen (k := LC - s.heap.size) (n := LS - jTot s.heap) (by omega) (by omega) ?_
  rw [hQ]
  have hd_11 := jLs.typ (hh_8.iv 0 rfl) hnr_1 (jf.raw (C := RJx4a65c) (T := TJx4a65c) (N := 3) rfl hraw_8 (i := 2) (by decide)) (jf.raw (C := RJx4a65c) (T := TJx4a65c) (N := 3) rfl hraw_8 (i := 1) (by decide)) (by decide) (wn := (wl.s3 [])) (fun q => absurd q (by decide)) (fun _ => rfl) ⟨fun _ => ⟨rfl, rfl⟩, fun _ => rfl, fun q => absurd rfl q⟩
  have hh_12 := hh_8.sub (L1 := []) [] rfl (M1 := []) [] rfl (I1 := []) [] rfl
  clear hh_8
  have hle_13 : jLe G_1 (va_up G_1 r0 (some (1, 3))) := jLe.typ hnr_1
  have hfa_13 : jIa (.int 0) ∧ jRr (.ref (dI 99 0)) ∧ jI 0 40 (.int 0) ∧ True := ⟨⟨_, rfl⟩, ⟨_, rfl⟩, ⟨_, rfl, by omega, by omega⟩, trivial⟩
  have hh_13 := hh_12.typ (k := 1) (n := 3) hB hnr_1 hbr0 hraw_8.lt (jOb.of (C := RJx4a65c) (T := TJx4a65c) (N := 3) (F := F1) hB1 rfl hraw_8 (show jFx (F1 3 (va_up G_1 r0 (some (1, 3)))) [.int 0, .ref (dI 99 0), .int 0] from hfa_13))
  have hgn_13 : (va_up G_1 r0 (some (1, 3))) r0 = some (1, 3) := jUp_self
  have hN_13 : (jNk [0, 2, 3, 4, 5, 6, 7, 8, 9, 10, 11, 12, 13, 14, 15, 16, 17, 175]) G_1 (va_up G_1 r0 (some (1, 3))) := jNk.new (by decide)
  have hNn_13 : (jNk [0, 2, 3, 4, 5, 6, 7, 8, 9, 10, 11, 12, 13, 14, 15, 16, 17, 175]) G0 (va_up G_1 r0 (some (1, 3))) := (hNn_1).tr hN_13
  have hkp_14 := hkp_9.typ (t := some (1, 3))
  have hh_15 := hh_13.addI (jLs.ie hd_11)
  clear hh_13
  exact W.vret hx hb hr (fun t ht hW => ⟨⟨(va_up G_1 r0 (some (1, 3))), rfl, trivial, ⟨hh_15.ra (by first | (simp only; omega) | omega) (by first | (simp only; omega) | omega) (M1 := []) [] rfl ht, hNn_13, hgn_13, by rw [ht]; exact hkp_14, by rw [ht]; exact hh_15.2.2.2.2.2.2.2.2.sub (L1 := [(jFl, jLs dC dI ca (va_up G_1 r0 (some (1, 3))) 3 none (wl.s3 []))]) [0] rfl⟩⟩, by rw [ht]; try exact hh_15.1.1, fun q h9 hq => by rw [ht]; try exact hh_15.1.2.1 q h9 hq⟩) hh_15.1.2.2 dJx4a65c_init_da8c8_11
end
section
-- p8: the class at its start
theorem jnC.n0 {G : jT} {rw us : Nat → List Int} {y : Nat} (h : us y = []) : jnE ([] : List Int) → (∀ c ∈ us y, c ≠ (-1 : Int)) ∧ ([] : List Int).count (-1) ≤ 40 ∧ ((Value.null = .null ∧ us y = [] ∧ ([] : List Int) = []) ∨ ∃ b : Nat, Value.null = .ref b ∧ G b = some (11, 0) ∧ us y ≠ [] ∧ ([] : List Int) = rw b ++ (us y ++ [-1]) ∧ jnE (rw b)) := fun _ => ⟨fun c hc => (by rw [h] at hc; cases hc), ⟨by decide, Or.inl ⟨rfl, h, rfl⟩⟩⟩
theorem jNrV {G : jT} {a b : Nat} {t : Option (Nat × Nat)} (hn : ∀ t, G a ≠ some t) (hne : a ≠ b) : ∀ u, va_up G b t a ≠ some u := fun u e => hn u (by rw [← e]; simp [va_up, hne])
end
