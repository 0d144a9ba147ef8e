section
theorem jWr_4 : ∀ w ∈ wsL_law_r4, w ∈ jWl := fun w h => jT4 w (List.mem_append_left _ h)
theorem jWr_19 : ∀ w ∈ wsL_law_r19, w ∈ jWl := fun w h => jT19 w (List.mem_append_left _ h)
theorem jWr_23 : ∀ w ∈ wsL_law_r23, w ∈ jWl := fun w h => jT23 w (List.mem_append_left _ h)
theorem jWc_wsX40 : ∀ w ∈ wsX40, w ∈ jWl := fun w h => (List.mem_append_left _ (List.mem_append_left _ (List.mem_append_left _ (List.mem_append_left _ (List.mem_append_left _ (List.mem_append_left _ (List.mem_append_left _ (List.mem_append_left _ (List.mem_append_left _ (List.mem_append_left _ (List.mem_append_left _ (List.mem_append_left _ (List.mem_append_left _ (List.mem_append_right _ h))))))))))))))
theorem jWc_wsX80 : ∀ w ∈ wsX80, w ∈ jWl := fun w h => (List.mem_append_left _ (List.mem_append_left _ (List.mem_append_right _ h)))
end
section
theorem dX4_kindOf_0 : decode cX4_kindOf 0 = .ok (.iload_n 1, 1) := by decide +kernel
theorem dX4_kindOf_1 : decode cX4_kindOf 1 = .ok (.ifCond .lt 11, 3) := by decide +kernel
theorem dX4_kindOf_4 : decode cX4_kindOf 4 = .ok (.iload_n 1, 1) := by decide +kernel
theorem dX4_kindOf_5 : decode cX4_kindOf 5 = .ok (.aload_n 0, 1) := by decide +kernel
theorem dX4_kindOf_6 : decode cX4_kindOf 6 = .ok (.getfield 50, 3) := by decide +kernel
theorem dX4_kindOf_9 : decode cX4_kindOf 9 = .ok (.if_icmp .lt 7, 3) := by decide +kernel
theorem dX4_kindOf_12 : decode cX4_kindOf 12 = .ok (.iconst 0, 1) := by decide +kernel
theorem dX4_kindOf_13 : decode cX4_kindOf 13 = .ok (.goto 9, 3) := by decide +kernel
theorem dX4_kindOf_16 : decode cX4_kindOf 16 = .ok (.aload_n 0, 1) := by decide +kernel
theorem dX4_kindOf_17 : decode cX4_kindOf 17 = .ok (.getfield 11, 3) := by decide +kernel
theorem dX4_kindOf_20 : decode cX4_kindOf 20 = .ok (.iload_n 1, 1) := by decide +kernel
theorem dX4_kindOf_21 : decode cX4_kindOf 21 = .ok (.iaload, 1) := by decide +kernel
theorem dX4_kindOf_22 : decode cX4_kindOf 22 = .ok (.ireturn, 1) := by decide +kernel
theorem dX4_sizeOf_0 : decode cX4_sizeOf 0 = .ok (.iload_n 1, 1) := by decide +kernel
theorem dX4_sizeOf_1 : decode cX4_sizeOf 1 = .ok (.ifCond .lt 11, 3) := by decide +kernel
theorem dX4_sizeOf_4 : decode cX4_sizeOf 4 = .ok (.iload_n 1, 1) := by decide +kernel
theorem dX4_sizeOf_5 : decode cX4_sizeOf 5 = .ok (.aload_n 0, 1) := by decide +kernel
theorem dX4_sizeOf_6 : decode cX4_sizeOf 6 = .ok (.getfield 50, 3) := by decide +kernel
theorem dX4_sizeOf_9 : decode cX4_sizeOf 9 = .ok (.if_icmp .lt 7, 3) := by decide +kernel
theorem dX4_sizeOf_12 : decode cX4_sizeOf 12 = .ok (.iconst 0, 1) := by decide +kernel
theorem dX4_sizeOf_13 : decode cX4_sizeOf 13 = .ok (.goto 9, 3) := by decide +kernel
theorem dX4_sizeOf_16 : decode cX4_sizeOf 16 = .ok (.aload_n 0, 1) := by decide +kernel
theorem dX4_sizeOf_17 : decode cX4_sizeOf 17 = .ok (.getfield 18, 3) := by decide +kernel
theorem dX4_sizeOf_20 : decode cX4_sizeOf 20 = .ok (.iload_n 1, 1) := by decide +kernel
theorem dX4_sizeOf_21 : decode cX4_sizeOf 21 = .ok (.iaload, 1) := by decide +kernel
theorem dX4_sizeOf_22 : decode cX4_sizeOf 22 = .ok (.ireturn, 1) := by decide +kernel
theorem dX4_valueOf_0 : decode cX4_valueOf 0 = .ok (.iload_n 1, 1) := by decide +kernel
theorem dX4_valueOf_1 : decode cX4_valueOf 1 = .ok (.ifCond .lt 11, 3) := by decide +kernel
theorem dX4_valueOf_4 : decode cX4_valueOf 4 = .ok (.iload_n 1, 1) := by decide +kernel
theorem dX4_valueOf_5 : decode cX4_valueOf 5 = .ok (.aload_n 0, 1) := by decide +kernel
theorem dX4_valueOf_6 : decode cX4_valueOf 6 = .ok (.getfield 50, 3) := by decide +kernel
theorem dX4_valueOf_9 : decode cX4_valueOf 9 = .ok (.if_icmp .lt 7, 3) := by decide +kernel
theorem dX4_valueOf_12 : decode cX4_valueOf 12 = .ok (.iconst 0, 1) := by decide +kernel
theorem dX4_valueOf_13 : decode cX4_valueOf 13 = .ok (.goto 9, 3) := by decide +kernel
theorem dX4_valueOf_16 : decode cX4_valueOf 16 = .ok (.aload_n 0, 1) := by decide +kernel
theorem dX4_valueOf_17 : decode cX4_valueOf 17 = .ok (.getfield 15, 3) := by decide +kernel
theorem dX4_valueOf_20 : decode cX4_valueOf 20 = .ok (.iload_n 1, 1) := by decide +kernel
theorem dX4_valueOf_21 : decode cX4_valueOf 21 = .ok (.iaload, 1) := by decide +kernel
theorem dX4_valueOf_22 : decode cX4_valueOf 22 = .ok (.ireturn, 1) := by decide +kernel
theorem dX4_unitAt_0 : decode cX4_unitAt 0 = .ok (.aload_n 0, 1) := by decide +kernel
theorem dX4_unitAt_1 : decode cX4_unitAt 1 = .ok (.iload_n 1, 1) := by decide +kernel
theorem dX4_unitAt_2 : decode cX4_unitAt 2 = .ok (.invokevirtual 63, 3) := by decide +kernel
theorem dX4_unitAt_5 : decode cX4_unitAt 5 = .ok (.iconst 3, 1) := by decide +kernel
theorem dX4_unitAt_6 : decode cX4_unitAt 6 = .ok (.if_icmp .ne 14, 3) := by decide +kernel
theorem dX4_unitAt_9 : decode cX4_unitAt 9 = .ok (.aload_n 0, 1) := by decide +kernel
theorem dX4_unitAt_10 : decode cX4_unitAt 10 = .ok (.getfield 15, 3) := by decide +kernel
theorem dX4_unitAt_13 : decode cX4_unitAt 13 = .ok (.iload_n 1, 1) := by decide +kernel
theorem dX4_unitAt_14 : decode cX4_unitAt 14 = .ok (.iaload, 1) := by decide +kernel
theorem dX4_unitAt_15 : decode cX4_unitAt 15 = .ok (.iload_n 2, 1) := by decide +kernel
theorem dX4_unitAt_16 : decode cX4_unitAt 16 = .ok (.iadd, 1) := by decide +kernel
theorem dX4_unitAt_17 : decode cX4_unitAt 17 = .ok (.goto 4, 3) := by decide +kernel
theorem dX4_unitAt_20 : decode cX4_unitAt 20 = .ok (.iconst (-1), 1) := by decide +kernel
theorem dX4_unitAt_21 : decode cX4_unitAt 21 = .ok (.istore_n 3, 1) := by decide +kernel
theorem dX4_unitAt_22 : decode cX4_unitAt 22 = .ok (.iload_n 2, 1) := by decide +kernel
theorem dX4_unitAt_23 : decode cX4_unitAt 23 = .ok (.ifCond .lt 25, 3) := by decide +kernel
theorem dX4_unitAt_26 : decode cX4_unitAt 26 = .ok (.iload_n 2, 1) := by decide +kernel
theorem dX4_unitAt_27 : decode cX4_unitAt 27 = .ok (.aload_n 0, 1) := by decide +kernel
theorem dX4_unitAt_28 : decode cX4_unitAt 28 = .ok (.iload_n 1, 1) := by decide +kernel
theorem dX4_unitAt_29 : decode cX4_unitAt 29 = .ok (.invokevirtual 83, 3) := by decide +kernel
theorem dX4_unitAt_32 : decode cX4_unitAt 32 = .ok (.if_icmp .ge 16, 3) := by decide +kernel
theorem dX4_unitAt_35 : decode cX4_unitAt 35 = .ok (.iload_n 3, 1) := by decide +kernel
theorem dX4_unitAt_36 : decode cX4_unitAt 36 = .ok (.ifCond .lt 12, 3) := by decide +kernel
theorem dX4_unitAt_39 : decode cX4_unitAt 39 = .ok (.iload_n 3, 1) := by decide +kernel
theorem dX4_unitAt_40 : decode cX4_unitAt 40 = .ok (.aload_n 0, 1) := by decide +kernel
theorem dX4_unitAt_41 : decode cX4_unitAt 41 = .ok (.getfield 30, 3) := by decide +kernel
theorem dX4_unitAt_44 : decode cX4_unitAt 44 = .ok (.arraylength, 1) := by decide +kernel
theorem dX4_unitAt_45 : decode cX4_unitAt 45 = .ok (.if_icmp .lt 7, 3) := by decide +kernel
theorem dX4_unitAt_48 : decode cX4_unitAt 48 = .ok (.iconst 0, 1) := by decide +kernel
theorem dX4_unitAt_49 : decode cX4_unitAt 49 = .ok (.goto 9, 3) := by decide +kernel
theorem dX4_unitAt_52 : decode cX4_unitAt 52 = .ok (.aload_n 0, 1) := by decide +kernel
theorem dX4_unitAt_53 : decode cX4_unitAt 53 = .ok (.getfield 30, 3) := by decide +kernel
theorem dX4_unitAt_56 : decode cX4_unitAt 56 = .ok (.iload_n 3, 1) := by decide +kernel
theorem dX4_unitAt_57 : decode cX4_unitAt 57 = .ok (.iaload, 1) := by decide +kernel
theorem dX4_unitAt_58 : decode cX4_unitAt 58 = .ok (.ireturn, 1) := by decide +kernel
def EX4_kindOf : List (Nat × Nat) := []
def EX4_sizeOf : List (Nat × Nat) := []
def EX4_valueOf : List (Nat × Nat) := []
def EX4_unitAt : List (Nat × Nat) := []
set_option maxHeartbeats 4000000 in
set_option maxRecDepth 20000 in
theorem uX4_kindOf (l : Launch) (dC : Nat → ClassId) (dI : Nat → Nat → Nat) (ca : Nat → ClassId) (base : Nat) (B : jF) (hB : jBok B) (hAp : jAp (dC, dI)) (hB6 : ∀ n G a H, B 6 n G a H ↔ jOb (dC, dI) 6 12 (F6 n G) a H) (hB140 : ∀ n G a H, B 140 n G a H ↔ jAr (dC, dI) (ca 1) (fun j z => True) n a H) (G0 : jT) (H0 : Heap) (r0 : Nat) (a1 : Int32) (pv : Int32) : Met l yX4_kindOf (jw yX4_kindOf cX4_kindOf 2 (some .int)) ({ frames := 0, cells := 0, slots := 0, locals := 0 }) (va_Pc [.ref r0, .int a1] (fun U => U.heap = H0 ∧ jX B base G0 [] H0 ∧ jG dC dI ca base U ∧ G0 r0 = some (6, 0) ∧ jP (dC, dI) G0 H0 [(r0, 6, 7, .int pv)] ∧ 0 ≤ pv.toInt ∧ pv.toInt ≤ 1502)) (va_Qi (S := Unit) (fun r u => (r.toInt = 0 ∨ (0 ≤ a1.toInt ∧ a1.toInt < pv.toInt))) (fun u t => jRt (dC, dI) B base G0 EX4_kindOf H0 [] t.heap) (jA base)) 0 0 (jA base) := by
  refine Met.ofW (cc := cX4_kindOf) (maxL := 2) (ret := (some .int)) (by decide) rfl ?_
  intro p e s m args below meth c s₁ Bd hml hv
  obtain ⟨rfl, hH0, hX, hG, hg_r0, hP0, hp0, hp1⟩ := hv
  have hK := hG.1
  have hx := Bd.exec
  have hb := Bd.bytes
  have hr := Bd.returns
  have hts := atoms_spec (ws := (jw yX4_kindOf cX4_kindOf 2 (some .int))) Bd.pre
  have htw : ∀ w ∈ jWl, w.before _ s = true := fun w h => hts w (List.mem_cons_of_mem _ h)
  have hown : s.vm.findClass RX4 = some m.cls := findClass_of_methodNamed Bd.named
  have hlocks := Bd.notSynchronized
  obtain ⟨Q, hQ⟩ : ∃ Q, Q = MQ below (va_Qi (S := Unit) (fun r u => (r.toInt = 0 ∨ (0 ≤ a1.toInt ∧ a1.toInt < pv.toInt))) (fun u t => jRt (dC, dI) B base G0 EX4_kindOf H0 [] t.heap) (jA base)) ([.ref r0, .int a1] : List Value).toArray s 0 0 (jA base) := ⟨_, rfl⟩
  rw [← hQ]
  have hl := lv_entry ([.ref r0, .int a1]) (n := 2) (Nat.le_of_ble_eq_true rfl)
  rw [lg_entry_eq]
  generalize (lg_sl ([.ref r0, .int a1]) ++ List.replicate (2 - (lg_sl ([.ref r0, .int a1])).length) Slot.unset).toArray = ls at hl ⊢
  have hl : lv_has ls 2 [(0, .ref r0), (1, .int a1)] := hl
  generalize hR : (headSpec (jw yX4_kindOf cX4_kindOf 2 (some .int)) ({ frames := 0, cells := 0, slots := 0, locals := 0 })).room = R
  subst hH0
  have hh : jSt (dC, dI) B base G0 G0 EX4_kindOf s.heap 0 0 [(r0, 6, 7, .int pv)] [] [] s.heap [] := jSt.start hX hP0 jMc.nil jIs.nil
  clear hX hP0
  have hk0 : (0 : Int32).toInt = 0 := by decide
  have hk1 : (1 : Int32).toInt = 1 := by decide
  have hly_6_0 := htw (u_lay RX4 TX4 0) (jWc_wsX40 _ (u_in_lay (by decide)))
  have hly_6_7 := htw (u_lay RX4 TX4 7) (jWc_wsX40 _ (u_in_lay (by decide)))
  have hlk_50 := (htw (.fieldLink RX4 50 "ProofServer$Json" "values" "I") (jWr_19 _ (List.mem_of_getElem? (i := 13) rfl)))
  have hlk_11 := (htw (.fieldLink RX4 11 "ProofServer$Json" "kinds" "[I") (jWr_3 _ (List.mem_of_getElem? (i := 21) rfl)))
  have hrg_a1 := jb_rng a1
  refine lv_iload_n hx hb dX4_kindOf_0 rfl (lv_at hl 1 rfl) ?_
  refine lv_if_lt (tgt := 12) hx hb dX4_kindOf_1 (by decide) (fun c_1 => ?_) (fun c_1 => ?_)
  · skip
    have c_1' : a1.toInt < 0 := jb_lt (rfl) ((by decide)) c_1
    refine lv_iconst (v := 0) hx hb dX4_kindOf_12 (by decide) ?_
    refine lv_goto (tgt := 22) hx hb dX4_kindOf_13 (by decide) ?_
    rw [hQ]
    exact W.iret (v := 0) hx hb hr (fun t ht hW => ⟨⟨0, (), rfl, by first | omega | rfl | assumption | decide | exact Or.inl rfl | exact Or.inr rfl | (simp only; omega), hh.rt (M1 := []) [] rfl ht⟩, by rw [ht]; try exact hh.1.1, fun q h9 hq => by rw [ht]; try exact hh.1.2.1 q h9 hq⟩) hh.1.2.2 dX4_kindOf_22
  · skip
    have c_1' : a1.toInt ≥ 0 := jb_lt_n (rfl) ((by decide)) c_1
    refine lv_iload_n hx hb dX4_kindOf_4 rfl (lv_at hl 1 rfl) ?_
    refine lv_aload_n hx hb dX4_kindOf_5 rfl (lv_at hl 0 rfl) ?_
    refine j7_read hx hb hown hK (C := RX4) (T := TX4) (N := 12) rfl hly_6_7 hlk_50 (hh.at 0 rfl) dX4_kindOf_6 ?_
    refine lv_icmp_lt (tgt := 16) hx hb dX4_kindOf_9 (by decide) (fun c_2 => ?_) (fun c_2 => ?_)
    · skip
      have c_2' : a1.toInt < pv.toInt := jb_lt (rfl) (rfl) c_2
      refine lv_aload_n hx hb dX4_kindOf_16 rfl (lv_at hl 0 rfl) ?_
      obtain ⟨v_3, hv_3, hh_4⟩ := hh.pin (C := RX4) (T := TX4) (N := 12) hB6 rfl (by decide) hg_r0 (i := 0) (by decide) rfl
      clear hh
      obtain ⟨kinds_5, rfl, hg_kinds_5⟩ := hv_3
      refine j7_read hx hb hown hK (C := RX4) (T := TX4) (N := 12) rfl hly_6_0 hlk_11 (hh_4.at 0 rfl) dX4_kindOf_17 ?_
      refine lv_iload_n hx hb dX4_kindOf_20 rfl (lv_at hl 1 rfl) ?_
      refine j7_iald hx hb hK hh_4 hB140 1 rfl (by decide) hg_kinds_5 (x := a1.toInt) (rfl) (by omega) dX4_kindOf_21 (fun z_6 (hz_6 : True) => ?_)
      rw [hQ]
      exact W.iret (v := z_6) hx hb hr (fun t ht hW => ⟨⟨z_6, (), rfl, by first | omega | rfl | assumption | decide | exact Or.inl rfl | exact Or.inr rfl | (simp only; omega), hh_4.rt (M1 := []) [] rfl ht⟩, by rw [ht]; try exact hh_4.1.1, fun q h9 hq => by rw [ht]; try exact hh_4.1.2.1 q h9 hq⟩) hh_4.1.2.2 dX4_kindOf_22
    · skip
      have c_2' : a1.toInt ≥ pv.toInt := jb_lt_n (rfl) (rfl) c_2
      refine lv_iconst (v := 0) hx hb dX4_kindOf_12 (by decide) ?_
      refine lv_goto (tgt := 22) hx hb dX4_kindOf_13 (by decide) ?_
      rw [hQ]
      exact W.iret (v := 0) hx hb hr (fun t ht hW => ⟨⟨0, (), rfl, by first | omega | rfl | assumption | decide | exact Or.inl rfl | exact Or.inr rfl | (simp only; omega), hh.rt (M1 := []) [] rfl ht⟩, by rw [ht]; try exact hh.1.1, fun q h9 hq => by rw [ht]; try exact hh.1.2.1 q h9 hq⟩) hh.1.2.2 dX4_kindOf_22
set_option maxHeartbeats 4000000 in
set_option maxRecDepth 20000 in
theorem uX4_sizeOf (l : Launch) (dC : Nat → ClassId) (dI : Nat → Nat → Nat) (ca : Nat → ClassId) (base : Nat) (B : jF) (hB : jBok B) (hAp : jAp (dC, dI)) (hB6 : ∀ n G a H, B 6 n G a H ↔ jOb (dC, dI) 6 12 (F6 n G) a H) (hB142 : ∀ n G a H, B 142 n G a H ↔ jAr (dC, dI) (ca 1) (fun j z => True) n a H) (G0 : jT) (H0 : Heap) (r0 : Nat) (a1 : Int32) : Met l yX4_sizeOf (jw yX4_sizeOf cX4_sizeOf 2 (some .int)) ({ frames := 0, cells := 0, slots := 0, locals := 0 }) (va_Pc [.ref r0, .int a1] (fun U => U.heap = H0 ∧ jX B base G0 [] H0 ∧ jG dC dI ca base U ∧ G0 r0 = some (6, 0) ∧ jP (dC, dI) G0 H0 [] ∧ True)) (va_Qi (S := Unit) (fun r u => (True)) (fun u t => jRt (dC, dI) B base G0 EX4_sizeOf H0 [] t.heap) (jA base)) 0 0 (jA base) := by
  refine Met.ofW (cc := cX4_sizeOf) (maxL := 2) (ret := (some .int)) (by decide) rfl ?_
  intro p e s m args below meth c s₁ Bd hml hv
  obtain ⟨rfl, hH0, hX, hG, hg_r0, hP0, hp0⟩ := hv
  have hK := hG.1
  have hx := Bd.exec
  have hb := Bd.bytes
  have hr := Bd.returns
  have hts := atoms_spec (ws := (jw yX4_sizeOf cX4_sizeOf 2 (some .int))) Bd.pre
  have htw : ∀ w ∈ jWl, w.before _ s = true := fun w h => hts w (List.mem_cons_of_mem _ h)
  have hown : s.vm.findClass RX4 = some m.cls := findClass_of_methodNamed Bd.named
  have hlocks := Bd.notSynchronized
  obtain ⟨Q, hQ⟩ : ∃ Q, Q = MQ below (va_Qi (S := Unit) (fun r u => (True)) (fun u t => jRt (dC, dI) B base G0 EX4_sizeOf H0 [] t.heap) (jA base)) ([.ref r0, .int a1] : List Value).toArray s 0 0 (jA base) := ⟨_, rfl⟩
  rw [← hQ]
  have hl := lv_entry ([.ref r0, .int a1]) (n := 2) (Nat.le_of_ble_eq_true rfl)
  rw [lg_entry_eq]
  generalize (lg_sl ([.ref r0, .int a1]) ++ List.replicate (2 - (lg_sl ([.ref r0, .int a1])).length) Slot.unset).toArray = ls at hl ⊢
  have hl : lv_has ls 2 [(0, .ref r0), (1, .int a1)] := hl
  generalize hR : (headSpec (jw yX4_sizeOf cX4_sizeOf 2 (some .int)) ({ frames := 0, cells := 0, slots := 0, locals := 0 })).room = R
  subst hH0
  have hh : jSt (dC, dI) B base G0 G0 EX4_sizeOf s.heap 0 0 [] [] [] s.heap [] := jSt.start hX hP0 jMc.nil jIs.nil
  clear hX hP0
  have hk0 : (0 : Int32).toInt = 0 := by decide
  have hk1 : (1 : Int32).toInt = 1 := by decide
  have hly_6_2 := htw (u_lay RX4 TX4 2) (jWc_wsX40 _ (u_in_lay (by decide)))
  have hly_6_7 := htw (u_lay RX4 TX4 7) (jWc_wsX40 _ (u_in_lay (by decide)))
  have hlk_50 := (htw (.fieldLink RX4 50 "ProofServer$Json" "values" "I") (jWr_19 _ (List.mem_of_getElem? (i := 13) rfl)))
  have hlk_18 := (htw (.fieldLink RX4 18 "ProofServer$Json" "sizes" "[I") (jWr_3 _ (List.mem_of_getElem? (i := 23) rfl)))
  have hrg_a1 := jb_rng a1
  refine lv_iload_n hx hb dX4_sizeOf_0 rfl (lv_at hl 1 rfl) ?_
  refine lv_if_lt (tgt := 12) hx hb dX4_sizeOf_1 (by decide) (fun c_1 => ?_) (fun c_1 => ?_)
  · skip
    have c_1' : a1.toInt < 0 := jb_lt (rfl) ((by decide)) c_1
    refine lv_iconst (v := 0) hx hb dX4_sizeOf_12 (by decide) ?_
    refine lv_goto (tgt := 22) hx hb dX4_sizeOf_13 (by decide) ?_
    rw [hQ]
    exact W.iret (v := 0) hx hb hr (fun t ht hW => ⟨⟨0, (), rfl, trivial, hh.rt (M1 := []) [] rfl ht⟩, by rw [ht]; try exact hh.1.1, fun q h9 hq => by rw [ht]; try exact hh.1.2.1 q h9 hq⟩) hh.1.2.2 dX4_sizeOf_22
  · skip
    have c_1' : a1.toInt ≥ 0 := jb_lt_n (rfl) ((by decide)) c_1
    refine lv_iload_n hx hb dX4_sizeOf_4 rfl (lv_at hl 1 rfl) ?_
    refine lv_aload_n hx hb dX4_sizeOf_5 rfl (lv_at hl 0 rfl) ?_
    obtain ⟨v_2, hv_2, hh_3⟩ := hh.pin (C := RX4) (T := TX4) (N := 12) hB6 rfl (by decide) hg_r0 (i := 7) (by decide) rfl
    clear hh
    obtain ⟨values_4, rfl, hlovalues_4, hhivalues_4⟩ := hv_2
    refine j7_read hx hb hown hK (C := RX4) (T := TX4) (N := 12) rfl hly_6_7 hlk_50 (hh_3.at 0 rfl) dX4_sizeOf_6 ?_
    refine lv_icmp_lt (tgt := 16) hx hb dX4_sizeOf_9 (by decide) (fun c_5 => ?_) (fun c_5 => ?_)
    · skip
      have c_5' : a1.toInt < values_4.toInt := jb_lt (rfl) (rfl) c_5
      refine lv_aload_n hx hb dX4_sizeOf_16 rfl (lv_at hl 0 rfl) ?_
      obtain ⟨v_6, hv_6, hh_7⟩ := hh_3.pin (C := RX4) (T := TX4) (N := 12) hB6 rfl (by decide) hg_r0 (i := 2) (by decide) rfl
      clear hh_3
      obtain ⟨sizes_8, rfl, hg_sizes_8⟩ := hv_6
      refine j7_read hx hb hown hK (C := RX4) (T := TX4) (N := 12) rfl hly_6_2 hlk_18 (hh_7.at 0 rfl) dX4_sizeOf_17 ?_
      refine lv_iload_n hx hb dX4_sizeOf_20 rfl (lv_at hl 1 rfl) ?_
      refine j7_iald hx hb hK hh_7 hB142 1 rfl (by decide) hg_sizes_8 (x := a1.toInt) (rfl) (by omega) dX4_sizeOf_21 (fun z_9 (hz_9 : True) => ?_)
      rw [hQ]
      exact W.iret (v := z_9) hx hb hr (fun t ht hW => ⟨⟨z_9, (), rfl, trivial, hh_7.rt (M1 := []) [] rfl ht⟩, by rw [ht]; try exact hh_7.1.1, fun q h9 hq => by rw [ht]; try exact hh_7.1.2.1 q h9 hq⟩) hh_7.1.2.2 dX4_sizeOf_22
    · skip
      have c_5' : a1.toInt ≥ values_4.toInt := jb_lt_n (rfl) (rfl) c_5
      refine lv_iconst (v := 0) hx hb dX4_sizeOf_12 (by decide) ?_
      refine lv_goto (tgt := 22) hx hb dX4_sizeOf_13 (by decide) ?_
      rw [hQ]
      exact W.iret (v := 0) hx hb hr (fun t ht hW => ⟨⟨0, (), rfl, trivial, hh_3.rt (M1 := []) [] rfl ht⟩, by rw [ht]; try exact hh_3.1.1, fun q h9 hq => by rw [ht]; try exact hh_3.1.2.1 q h9 hq⟩) hh_3.1.2.2 dX4_sizeOf_22
set_option maxHeartbeats 4000000 in
set_option maxRecDepth 20000 in
theorem uX4_valueOf (l : Launch) (dC : Nat → ClassId) (dI : Nat → Nat → Nat) (ca : Nat → ClassId) (base : Nat) (B : jF) (hB : jBok B) (hAp : jAp (dC, dI)) (hB6 : ∀ n G a H, B 6 n G a H ↔ jOb (dC, dI) 6 12 (F6 n G) a H) (hB141 : ∀ n G a H, B 141 n G a H ↔ jAr (dC, dI) (ca 1) (fun j z => True) n a H) (G0 : jT) (H0 : Heap) (r0 : Nat) (a1 : Int32) : Met l yX4_valueOf (jw yX4_valueOf cX4_valueOf 2 (some .int)) ({ frames := 0, cells := 0, slots := 0, locals := 0 }) (va_Pc [.ref r0, .int a1] (fun U => U.heap = H0 ∧ jX B base G0 [] H0 ∧ jG dC dI ca base U ∧ G0 r0 = some (6, 0) ∧ jP (dC, dI) G0 H0 [] ∧ True)) (va_Qi (S := Unit) (fun r u => (True)) (fun u t => jRt (dC, dI) B base G0 EX4_valueOf H0 [] t.heap) (jA base)) 0 0 (jA base) := by
  refine Met.ofW (cc := cX4_valueOf) (maxL := 2) (ret := (some .int)) (by decide) rfl ?_
  intro p e s m args below meth c s₁ Bd hml hv
  obtain ⟨rfl, hH0, hX, hG, hg_r0, hP0, hp0⟩ := hv
  have hK := hG.1
  have hx := Bd.exec
  have hb := Bd.bytes
  have hr := Bd.returns
  have hts := atoms_spec (ws := (jw yX4_valueOf cX4_valueOf 2 (some .int))) Bd.pre
  have htw : ∀ w ∈ jWl, w.before _ s = true := fun w h => hts w (List.mem_cons_of_mem _ h)
  have hown : s.vm.findClass RX4 = some m.cls := findClass_of_methodNamed Bd.named
  have hlocks := Bd.notSynchronized
  obtain ⟨Q, hQ⟩ : ∃ Q, Q = MQ below (va_Qi (S := Unit) (fun r u => (True)) (fun u t => jRt (dC, dI) B base G0 EX4_valueOf H0 [] t.heap) (jA base)) ([.ref r0, .int a1] : List Value).toArray s 0 0 (jA base) := ⟨_, rfl⟩
  rw [← hQ]
  have hl := lv_entry ([.ref r0, .int a1]) (n := 2) (Nat.le_of_ble_eq_true rfl)
  rw [lg_entry_eq]
  generalize (lg_sl ([.ref r0, .int a1]) ++ List.replicate (2 - (lg_sl ([.ref r0, .int a1])).length) Slot.unset).toArray = ls at hl ⊢
  have hl : lv_has ls 2 [(0, .ref r0), (1, .int a1)] := hl
  generalize hR : (headSpec (jw yX4_valueOf cX4_valueOf 2 (some .int)) ({ frames := 0, cells := 0, slots := 0, locals := 0 })).room = R
  subst hH0
  have hh : jSt (dC, dI) B base G0 G0 EX4_valueOf s.heap 0 0 [] [] [] s.heap [] := jSt.start hX hP0 jMc.nil jIs.nil
  clear hX hP0
  have hk0 : (0 : Int32).toInt = 0 := by decide
  have hk1 : (1 : Int32).toInt = 1 := by decide
  have hly_6_1 := htw (u_lay RX4 TX4 1) (jWc_wsX40 _ (u_in_lay (by decide)))
  have hly_6_7 := htw (u_lay RX4 TX4 7) (jWc_wsX40 _ (u_in_lay (by decide)))
  have hlk_50 := (htw (.fieldLink RX4 50 "ProofServer$Json" "values" "I") (jWr_19 _ (List.mem_of_getElem? (i := 13) rfl)))
  have hlk_15 := (htw (.fieldLink RX4 15 "ProofServer$Json" "firsts" "[I") (jWr_3 _ (List.mem_of_getElem? (i := 22) rfl)))
  have hrg_a1 := jb_rng a1
  refine lv_iload_n hx hb dX4_valueOf_0 rfl (lv_at hl 1 rfl) ?_
  refine lv_if_lt (tgt := 12) hx hb dX4_valueOf_1 (by decide) (fun c_1 => ?_) (fun c_1 => ?_)
  · skip
    have c_1' : a1.toInt < 0 := jb_lt (rfl) ((by decide)) c_1
    refine lv_iconst (v := 0) hx hb dX4_valueOf_12 (by decide) ?_
    refine lv_goto (tgt := 22) hx hb dX4_valueOf_13 (by decide) ?_
    rw [hQ]
    exact W.iret (v := 0) hx hb hr (fun t ht hW => ⟨⟨0, (), rfl, trivial, hh.rt (M1 := []) [] rfl ht⟩, by rw [ht]; try exact hh.1.1, fun q h9 hq => by rw [ht]; try exact hh.1.2.1 q h9 hq⟩) hh.1.2.2 dX4_valueOf_22
  · skip
    have c_1' : a1.toInt ≥ 0 := jb_lt_n (rfl) ((by decide)) c_1
    refine lv_iload_n hx hb dX4_valueOf_4 rfl (lv_at hl 1 rfl) ?_
    refine lv_aload_n hx hb dX4_valueOf_5 rfl (lv_at hl 0 rfl) ?_
    obtain ⟨v_2, hv_2, hh_3⟩ := hh.pin (C := RX4) (T := TX4) (N := 12) hB6 rfl (by decide) hg_r0 (i := 7) (by decide) rfl
    clear hh
    obtain ⟨values_4, rfl, hlovalues_4, hhivalues_4⟩ := hv_2
    refine j7_read hx hb hown hK (C := RX4) (T := TX4) (N := 12) rfl hly_6_7 hlk_50 (hh_3.at 0 rfl) dX4_valueOf_6 ?_
    refine lv_icmp_lt (tgt := 16) hx hb dX4_valueOf_9 (by decide) (fun c_5 => ?_) (fun c_5 => ?_)
    · skip
      have c_5' : a1.toInt < values_4.toInt := jb_lt (rfl) (rfl) c_5
      refine lv_aload_n hx hb dX4_valueOf_16 rfl (lv_at hl 0 rfl) ?_
      obtain ⟨v_6, hv_6, hh_7⟩ := hh_3.pin (C := RX4) (T := TX4) (N := 12) hB6 rfl (by decide) hg_r0 (i := 1) (by decide) rfl
      clear hh_3
      obtain ⟨firsts_8, rfl, hg_firsts_8⟩ := hv_6
      refine j7_read hx hb hown hK (C := RX4) (T := TX4) (N := 12) rfl hly_6_1 hlk_15 (hh_7.at 0 rfl) dX4_valueOf_17 ?_
      refine lv_iload_n hx hb dX4_valueOf_20 rfl (lv_at hl 1 rfl) ?_
      refine j7_iald hx hb hK hh_7 hB141 1 rfl (by decide) hg_firsts_8 (x := a1.toInt) (rfl) (by omega) dX4_valueOf_21 (fun z_9 (hz_9 : True) => ?_)
      rw [hQ]
      exact W.iret (v := z_9) hx hb hr (fun t ht hW => ⟨⟨z_9, (), rfl, trivial, hh_7.rt (M1 := []) [] rfl ht⟩, by rw [ht]; try exact hh_7.1.1, fun q h9 hq => by rw [ht]; try exact hh_7.1.2.1 q h9 hq⟩) hh_7.1.2.2 dX4_valueOf_22
    · skip
      have c_5' : a1.toInt ≥ values_4.toInt := jb_lt_n (rfl) (rfl) c_5
      refine lv_iconst (v := 0) hx hb dX4_valueOf_12 (by decide) ?_
      refine lv_goto (tgt := 22) hx hb dX4_valueOf_13 (by decide) ?_
      rw [hQ]
      exact W.iret (v := 0) hx hb hr (fun t ht hW => ⟨⟨0, (), rfl, trivial, hh_3.rt (M1 := []) [] rfl ht⟩, by rw [ht]; try exact hh_3.1.1, fun q h9 hq => by rw [ht]; try exact hh_3.1.2.1 q h9 hq⟩) hh_3.1.2.2 dX4_valueOf_22
set_option maxHeartbeats 4000000 in
set_option maxRecDepth 20000 in
theorem uX4_unitAt (l : Launch) (dC : Nat → ClassId) (dI : Nat → Nat → Nat) (ca : Nat → ClassId) (base : Nat) (B : jF) (hB : jBok B) (hAp : jAp (dC, dI)) (hB6 : ∀ n G a H, B 6 n G a H ↔ jOb (dC, dI) 6 12 (F6 n G) a H) (hB140 : ∀ n G a H, B 140 n G a H ↔ jAr (dC, dI) (ca 1) (fun j z => True) n a H) (hB141 : ∀ n G a H, B 141 n G a H ↔ jAr (dC, dI) (ca 1) (fun j z => True) n a H) (hB142 : ∀ n G a H, B 142 n G a H ↔ jAr (dC, dI) (ca 1) (fun j z => True) n a H) (hB146 : ∀ n G a H, B 146 n G a H ↔ jAr (dC, dI) (ca 1) (fun j z => True) n a H) (G0 : jT) (H0 : Heap) (r0 : Nat) (a1 : Int32) (a2 : Int32) : Met l yX4_unitAt (jw yX4_unitAt cX4_unitAt 4 (some .int)) ({ frames := 1, cells := 0, slots := 0, locals := 21 }) (va_Pc [.ref r0, .int a1, .int a2] (fun U => U.heap = H0 ∧ jX B base G0 [] H0 ∧ jG dC dI ca base U ∧ G0 r0 = some (6, 0) ∧ jP (dC, dI) G0 H0 [] ∧ True)) (va_Qi (S := Unit) (fun r u => (True)) (fun u t => jRt (dC, dI) B base G0 EX4_unitAt H0 [] t.heap) (jA base)) 0 0 (jA base) := by
  refine Met.ofW (cc := cX4_unitAt) (maxL := 4) (ret := (some .int)) (by decide) rfl ?_
  intro p e s m args below meth c s₁ Bd hml hv
  obtain ⟨rfl, hH0, hX, hG, hg_r0, hP0, hp0⟩ := hv
  have hK := hG.1
  have hx := Bd.exec
  have hb := Bd.bytes
  have hr := Bd.returns
  have hts := atoms_spec (ws := (jw yX4_unitAt cX4_unitAt 4 (some .int))) Bd.pre
  have htw : ∀ w ∈ jWl, w.before _ s = true := fun w h => hts w (List.mem_cons_of_mem _ h)
  have hown : s.vm.findClass RX4 = some m.cls := findClass_of_methodNamed Bd.named
  have hlocks := Bd.notSynchronized
  obtain ⟨Q, hQ⟩ : ∃ Q, Q = MQ below (va_Qi (S := Unit) (fun r u => (True)) (fun u t => jRt (dC, dI) B base G0 EX4_unitAt H0 [] t.heap) (jA base)) ([.ref r0, .int a1, .int a2] : List Value).toArray s 0 0 (jA base) := ⟨_, rfl⟩
  rw [← hQ]
  have hl := lv_entry ([.ref r0, .int a1, .int a2]) (n := 4) (Nat.le_of_ble_eq_true rfl)
  rw [lg_entry_eq]
  generalize (lg_sl ([.ref r0, .int a1, .int a2]) ++ List.replicate (4 - (lg_sl ([.ref r0, .int a1, .int a2])).length) Slot.unset).toArray = ls at hl ⊢
  have hl : lv_has ls 4 [(0, .ref r0), (1, .int a1), (2, .int a2)] := hl
  generalize hR : (headSpec (jw yX4_unitAt cX4_unitAt 4 (some .int)) ({ frames := 1, cells := 0, slots := 0, locals := 21 })).room = R
  subst hH0
  have hh : jSt (dC, dI) B base G0 G0 EX4_unitAt s.heap 0 0 [] [] [] s.heap [] := jSt.start hX hP0 jMc.nil jIs.nil
  clear hX hP0
  have hkm1 : ((-1) : Int32).toInt = (-1) := by decide
  have hk0 : (0 : Int32).toInt = 0 := by decide
  have hk1 : (1 : Int32).toInt = 1 := by decide
  have hk3 : (3 : Int32).toInt = 3 := by decide
  have hly_6_1 := htw (u_lay RX4 TX4 1) (jWc_wsX40 _ (u_in_lay (by decide)))
  have hly_6_6 := htw (u_lay RX4 TX4 6) (jWc_wsX40 _ (u_in_lay (by decide)))
  have hlk_15 := (htw (.fieldLink RX4 15 "ProofServer$Json" "firsts" "[I") (jWr_3 _ (List.mem_of_getElem? (i := 22) rfl)))
  have hlk_30 := (htw (.fieldLink RX4 30 "ProofServer$Json" "units" "[I") (jWr_4 _ (List.mem_of_getElem? (i := 3) rfl)))
  have hrg_a1 := jb_rng a1
  have hrg_a2 := jb_rng a2
  refine lv_aload_n hx hb dX4_unitAt_0 rfl (lv_at hl 0 rfl) ?_
  refine lv_iload_n hx hb dX4_unitAt_1 rfl (lv_at hl 1 rfl) ?_
  obtain ⟨v_3, hv_3, hh_4⟩ := hh.pin (C := RX4) (T := TX4) (N := 12) hB6 rfl (by decide) hg_r0 (i := 7) (by decide) rfl
  obtain ⟨values_5, rfl, hlovalues_5, hhivalues_5⟩ := hv_3
  refine va_calli (A0 := jA base) (H0 := s.heap) (va_runV (As := [.int a1]) (rest := []) ⟨hx, hb, hml, hown, hts⟩ (uX4_kindOf l dC dI ca base B hB hAp hB6 hB140 G0 s.heap r0 a1 values_5) (cwV 1 hts (jgV (jWr_23 _ (List.mem_of_getElem? (i := 14) rfl)) (jWr_23 _ (List.mem_of_getElem? (i := 15) rfl)) (jWr_23 _ (List.mem_of_getElem? (i := 16) rfl)) (jWr_1 _ (List.mem_of_getElem? (i := 22) rfl)) (jWr_23 _ (List.mem_of_getElem? (i := 17) rfl))) rfl rfl rfl (by decide +kernel) ⟨by rw [← hR]; exact Nat.le_of_ble_eq_true rfl, by rw [← hR]; exact Nat.le_of_ble_eq_true rfl⟩) ⟨fun a U g mk q => by obtain ⟨q0, q1, q2, qK, q10, q11, q12⟩ := q; exact ⟨q0, q1, q2, jG.calling g mk a qK, q10, q11, q12⟩, hh_4.recv (C := RX4) (T := TX4) (N := 12) hB6 rfl (by decide) hg_r0 hK, fun U hU hW => ⟨rfl, hU, hh_4.2.1, hG.step hW hU hh_4.1, hg_r0, (hh_4.2.2.1.sub (L1 := [(r0, 6, 7, .int values_5)]) [0] rfl), by first | omega | (refine ⟨?_, ?_⟩ <;> (first | omega | rfl | assumption | decide | exact Or.inl rfl | exact Or.inr rfl | (simp only; omega)))⟩⟩ rfl rfl hl.1 rfl (lv_room (Nat.le_of_ble_eq_true rfl)) dX4_unitAt_2 ⟨Nat.zero_le _, Nat.zero_le _⟩) hh_4.1 (fun q _ h => h) (fun q h => h) (fun r_2 u_1 t_1 H_1 locs_1 ht_1 hvm_1 hr_2 hb_1 hz_1 hk_1 hS_1 => ?_)
  rw [ht_1] at hb_1
  obtain ⟨hb_11, hb_12, hb_13, hb_14, hb_15⟩ := hb_1
  have hh_1 : jSt (dC, dI) B base G0 G0 EX4_unitAt s.heap 0 0 [(r0, 6, 7, .int values_5)] [] [] H_1 locs_1 := ((hh_4.call hb_11 hb_12 hb_13 hb_14 hS_1 rfl (L1 := [(r0, 6, 7, .int values_5)]) [0] rfl rfl (M1 := []) [] rfl rfl (I1 := []) [] rfl rfl).more hb_15)
  clear hh_4 ht_1 hvm_1 hz_1 hk_1 hS_1 hb_11 hb_12 hb_13 hb_14 hb_15
  refine lv_iconst (v := 3) hx hb dX4_unitAt_5 (by decide) ?_
  refine lv_icmp_ne (tgt := 20) hx hb dX4_unitAt_6 (by decide) (fun c_6 => ?_) (fun c_6 => ?_)
  · skip
    have c_6' : r_2.toInt ≠ 3 := jb_ne (rfl) ((by decide)) c_6
    try clear hr_2
    refine lv_iconst (v := (-1)) hx hb dX4_unitAt_20 (by decide) ?_
    refine lv_istore_n (lv' := [(3, .int (-1)), (0, .ref r0), (1, .int a1), (2, .int a2)]) hx hb dX4_unitAt_21 rfl hl (by decide) rfl (fun ls hl => ?_)
    refine lv_iload_n hx hb dX4_unitAt_22 rfl (lv_at hl 3 rfl) ?_
    refine lv_if_lt (tgt := 48) hx hb dX4_unitAt_23 (by decide) (fun c_7 => ?_) (fun c_7 => ?_)
    · skip
      have c_7' : a2.toInt < 0 := jb_lt (rfl) ((by decide)) c_7
      refine lv_iconst (v := 0) hx hb dX4_unitAt_48 (by decide) ?_
      refine lv_goto (tgt := 58) hx hb dX4_unitAt_49 (by decide) ?_
      rw [hQ]
      exact W.iret (v := 0) hx hb hr (fun t ht hW => ⟨⟨0, (), rfl, trivial, hh_1.rt (M1 := []) [] rfl ht⟩, by rw [ht]; try exact hh_1.1.1, fun q h9 hq => by rw [ht]; try exact hh_1.1.2.1 q h9 hq⟩) hh_1.1.2.2 dX4_unitAt_58
    · skip
      have c_7' : a2.toInt ≥ 0 := jb_lt_n (rfl) ((by decide)) c_7
      refine lv_iload_n hx hb dX4_unitAt_26 rfl (lv_at hl 3 rfl) ?_
      refine lv_aload_n hx hb dX4_unitAt_27 rfl (lv_at hl 1 rfl) ?_
      refine lv_iload_n hx hb dX4_unitAt_28 rfl (lv_at hl 2 rfl) ?_
      refine va_calli (A0 := jA base) (H0 := s.heap) (va_runV (As := [.int a1]) (rest := [.int a2]) ⟨hx, hb, hml, hown, hts⟩ (uX4_sizeOf l dC dI ca base B hB hAp hB6 hB142 G0 H_1 r0 a1) (cwV 1 hts (jgV (jWr_25 _ (List.mem_of_getElem? (i := 8) rfl)) (jWr_24 _ (List.mem_of_getElem? (i := 7) rfl)) (jWr_24 _ (List.mem_of_getElem? (i := 8) rfl)) (jWr_1 _ (List.mem_of_getElem? (i := 22) rfl)) (jWr_24 _ (List.mem_of_getElem? (i := 9) rfl))) rfl rfl rfl (by decide +kernel) ⟨by rw [← hR]; exact Nat.le_of_ble_eq_true rfl, by rw [← hR]; exact Nat.le_of_ble_eq_true rfl⟩) ⟨fun a U g mk q => by obtain ⟨q0, q1, q2, qK, q10, q11, q12⟩ := q; exact ⟨q0, q1, q2, jG.calling g mk a qK, q10, q11, q12⟩, hh_1.recv (C := RX4) (T := TX4) (N := 12) hB6 rfl (by decide) hg_r0 hK, fun U hU hW => ⟨rfl, hU, hh_1.2.1, hG.step hW hU hh_1.1, hg_r0, jP.nil, trivial⟩⟩ rfl rfl hl.1 rfl (lv_room (Nat.le_of_ble_eq_true rfl)) dX4_unitAt_29 ⟨Nat.zero_le _, Nat.zero_le _⟩) hh_1.1 (fun q _ h => h) (fun q h => h) (fun r_9 u_8 t_8 H_8 locs_8 ht_8 hvm_8 hr_9 hb_8 hz_8 hk_8 hS_8 => ?_)
      rw [ht_8] at hb_8
      obtain ⟨hb_81, hb_82, hb_83, hb_84, hb_85⟩ := hb_8
      have hh_8 : jSt (dC, dI) B base G0 G0 EX4_unitAt s.heap 0 0 [(r0, 6, 7, .int values_5)] [] [] H_8 locs_8 := ((hh_1.call hb_81 hb_82 hb_83 hb_84 hS_8 rfl (L1 := [(r0, 6, 7, .int values_5)]) [0] rfl rfl (M1 := []) [] rfl rfl (I1 := []) [] rfl rfl).more hb_85)
      clear hh_1 ht_8 hvm_8 hz_8 hk_8 hS_8 hb_81 hb_82 hb_83 hb_84 hb_85
      refine lv_icmp_ge (tgt := 48) hx hb dX4_unitAt_32 (by decide) (fun c_10 => ?_) (fun c_10 => ?_)
      · skip
        have c_10' : a2.toInt ≥ r_9.toInt := jb_ge (rfl) (rfl) c_10
        refine lv_iconst (v := 0) hx hb dX4_unitAt_48 (by decide) ?_
        refine lv_goto (tgt := 58) hx hb dX4_unitAt_49 (by decide) ?_
        rw [hQ]
        exact W.iret (v := 0) hx hb hr (fun t ht hW => ⟨⟨0, (), rfl, trivial, hh_8.rt (M1 := []) [] rfl ht⟩, by rw [ht]; try exact hh_8.1.1, fun q h9 hq => by rw [ht]; try exact hh_8.1.2.1 q h9 hq⟩) hh_8.1.2.2 dX4_unitAt_58
      · skip
        have c_10' : a2.toInt < r_9.toInt := jb_ge_n (rfl) (rfl) c_10
        refine lv_iload_n hx hb dX4_unitAt_35 rfl (lv_at hl 0 rfl) ?_
        refine lv_if_lt (tgt := 48) hx hb dX4_unitAt_36 (by decide) (fun c_11 => ?_) (fun c_11 => ?_)
        · skip
          refine lv_iconst (v := 0) hx hb dX4_unitAt_48 (by decide) ?_
          refine lv_goto (tgt := 58) hx hb dX4_unitAt_49 (by decide) ?_
          rw [hQ]
          exact W.iret (v := 0) hx hb hr (fun t ht hW => ⟨⟨0, (), rfl, trivial, hh_8.rt (M1 := []) [] rfl ht⟩, by rw [ht]; try exact hh_8.1.1, fun q h9 hq => by rw [ht]; try exact hh_8.1.2.1 q h9 hq⟩) hh_8.1.2.2 dX4_unitAt_58
        · skip
          exact absurd c_11 (by decide)
  · skip
    have c_6' : r_2.toInt = 3 := jb_ne_n (rfl) ((by decide)) c_6
    first | (have hr_2q := hr_2.resolve_left (by omega); clear hr_2) | (have hr_2q := hr_2.resolve_right (by omega); clear hr_2) | try clear hr_2
    refine lv_aload_n hx hb dX4_unitAt_9 rfl (lv_at hl 0 rfl) ?_
    obtain ⟨v_12, hv_12, hh_13⟩ := hh_1.pin (C := RX4) (T := TX4) (N := 12) hB6 rfl (by decide) hg_r0 (i := 1) (by decide) rfl
    clear hh_1
    obtain ⟨firsts_14, rfl, hg_firsts_14⟩ := hv_12
    refine j7_read hx hb hown hK (C := RX4) (T := TX4) (N := 12) rfl hly_6_1 hlk_15 (hh_13.at 0 rfl) dX4_unitAt_10 ?_
    refine lv_iload_n hx hb dX4_unitAt_13 rfl (lv_at hl 1 rfl) ?_
    refine j7_iald hx hb hK hh_13 hB141 1 rfl (by decide) hg_firsts_14 (x := a1.toInt) (rfl) (by omega) dX4_unitAt_14 (fun z_15 (hz_15 : True) => ?_)
    refine lv_iload_n hx hb dX4_unitAt_15 rfl (lv_at hl 2 rfl) ?_
    refine lv_iadd hx hb dX4_unitAt_16 ?_
    refine lv_topi (fun z_16 ez_16 => ?_)
    refine lv_goto (tgt := 21) hx hb dX4_unitAt_17 (by decide) ?_
    refine lv_istore_n (lv' := [(3, .int z_16), (0, .ref r0), (1, .int a1), (2, .int a2)]) hx hb dX4_unitAt_21 rfl hl (by decide) rfl (fun ls hl => ?_)
    refine lv_iload_n hx hb dX4_unitAt_22 rfl (lv_at hl 3 rfl) ?_
    refine lv_if_lt (tgt := 48) hx hb dX4_unitAt_23 (by decide) (fun c_17 => ?_) (fun c_17 => ?_)
    · skip
      have c_17' : a2.toInt < 0 := jb_lt (rfl) ((by decide)) c_17
      refine lv_iconst (v := 0) hx hb dX4_unitAt_48 (by decide) ?_
      refine lv_goto (tgt := 58) hx hb dX4_unitAt_49 (by decide) ?_
      rw [hQ]
      exact W.iret (v := 0) hx hb hr (fun t ht hW => ⟨⟨0, (), rfl, trivial, hh_13.rt (M1 := []) [] rfl ht⟩, by rw [ht]; try exact hh_13.1.1, fun q h9 hq => by rw [ht]; try exact hh_13.1.2.1 q h9 hq⟩) hh_13.1.2.2 dX4_unitAt_58
    · skip
      have c_17' : a2.toInt ≥ 0 := jb_lt_n (rfl) ((by decide)) c_17
      refine lv_iload_n hx hb dX4_unitAt_26 rfl (lv_at hl 3 rfl) ?_
      refine lv_aload_n hx hb dX4_unitAt_27 rfl (lv_at hl 1 rfl) ?_
      refine lv_iload_n hx hb dX4_unitAt_28 rfl (lv_at hl 2 rfl) ?_
      refine va_calli (A0 := jA base) (H0 := s.heap) (va_runV (As := [.int a1]) (rest := [.int a2]) ⟨hx, hb, hml, hown, hts⟩ (uX4_sizeOf l dC dI ca base B hB hAp hB6 hB142 G0 H_1 r0 a1) (cwV 1 hts (jgV (jWr_25 _ (List.mem_of_getElem? (i := 8) rfl)) (jWr_24 _ (List.mem_of_getElem? (i := 7) rfl)) (jWr_24 _ (List.mem_of_getElem? (i := 8) rfl)) (jWr_1 _ (List.mem_of_getElem? (i := 22) rfl)) (jWr_24 _ (List.mem_of_getElem? (i := 9) rfl))) rfl rfl rfl (by decide +kernel) ⟨by rw [← hR]; exact Nat.le_of_ble_eq_true rfl, by rw [← hR]; exact Nat.le_of_ble_eq_true rfl⟩) ⟨fun a U g mk q => by obtain ⟨q0, q1, q2, qK, q10, q11, q12⟩ := q; exact ⟨q0, q1, q2, jG.calling g mk a qK, q10, q11, q12⟩, hh_13.recv (C := RX4) (T := TX4) (N := 12) hB6 rfl (by decide) hg_r0 hK, fun U hU hW => ⟨rfl, hU, hh_13.2.1, hG.step hW hU hh_13.1, hg_r0, jP.nil, trivial⟩⟩ rfl rfl hl.1 rfl (lv_room (Nat.le_of_ble_eq_true rfl)) dX4_unitAt_29 ⟨Nat.zero_le _, Nat.zero_le _⟩) hh_13.1 (fun q _ h => h) (fun q h => h) (fun r_19 u_18 t_18 H_18 locs_18 ht_18 hvm_18 hr_19 hb_18 hz_18 hk_18 hS_18 => ?_)
      rw [ht_18] at hb_18
      obtain ⟨hb_181, hb_182, hb_183, hb_184, hb_185⟩ := hb_18
      have hh_18 : jSt (dC, dI) B base G0 G0 EX4_unitAt s.heap 0 0 [(r0, 6, 1, .ref firsts_14), (r0, 6, 7, .int values_5)] [] [] H_18 locs_18 := ((hh_13.call hb_181 hb_182 hb_183 hb_184 hS_18 rfl (L1 := [(r0, 6, 1, .ref firsts_14), (r0, 6, 7, .int values_5)]) [0, 1] rfl rfl (M1 := []) [] rfl rfl (I1 := []) [] rfl rfl).more hb_185)
      clear hh_13 ht_18 hvm_18 hz_18 hk_18 hS_18 hb_181 hb_182 hb_183 hb_184 hb_185
      refine lv_icmp_ge (tgt := 48) hx hb dX4_unitAt_32 (by decide) (fun c_20 => ?_) (fun c_20 => ?_)
      · skip
        have c_20' : a2.toInt ≥ r_19.toInt := jb_ge (rfl) (rfl) c_20
        refine lv_iconst (v := 0) hx hb dX4_unitAt_48 (by decide) ?_
        refine lv_goto (tgt := 58) hx hb dX4_unitAt_49 (by decide) ?_
        rw [hQ]
        exact W.iret (v := 0) hx hb hr (fun t ht hW => ⟨⟨0, (), rfl, trivial, hh_18.rt (M1 := []) [] rfl ht⟩, by rw [ht]; try exact hh_18.1.1, fun q h9 hq => by rw [ht]; try exact hh_18.1.2.1 q h9 hq⟩) hh_18.1.2.2 dX4_unitAt_58
      · skip
        have c_20' : a2.toInt < r_19.toInt := jb_ge_n (rfl) (rfl) c_20
        refine lv_iload_n hx hb dX4_unitAt_35 rfl (lv_at hl 0 rfl) ?_
        refine lv_if_lt (tgt := 48) hx hb dX4_unitAt_36 (by decide) (fun c_21 => ?_) (fun c_21 => ?_)
        · skip
          have c_21' : z_16.toInt < 0 := jb_lt (rfl) ((by decide)) c_21
          refine lv_iconst (v := 0) hx hb dX4_unitAt_48 (by decide) ?_
          refine lv_goto (tgt := 58) hx hb dX4_unitAt_49 (by decide) ?_
          rw [hQ]
          exact W.iret (v := 0) hx hb hr (fun t ht hW => ⟨⟨0, (), rfl, trivial, hh_18.rt (M1 := []) [] rfl ht⟩, by rw [ht]; try exact hh_18.1.1, fun q h9 hq => by rw [ht]; try exact hh_18.1.2.1 q h9 hq⟩) hh_18.1.2.2 dX4_unitAt_58
        · skip
          have c_21' : z_16.toInt ≥ 0 := jb_lt_n (rfl) ((by decide)) c_21
          refine lv_iload_n hx hb dX4_unitAt_39 rfl (lv_at hl 0 rfl) ?_
          refine lv_aload_n hx hb dX4_unitAt_40 rfl (lv_at hl 1 rfl) ?_
          obtain ⟨v_22, hv_22, hh_23⟩ := hh_18.pin (C := RX4) (T := TX4) (N := 12) hB6 rfl (by decide) hg_r0 (i := 6) (by decide) rfl
          clear hh_18
          obtain ⟨units_24, rfl, hg_units_24⟩ := hv_22
          refine j7_read hx hb hown hK (C := RX4) (T := TX4) (N := 12) rfl hly_6_6 hlk_30 (hh_23.at 0 rfl) dX4_unitAt_41 ?_
          refine j7_len hx hb hK hh_23 hB146 1 rfl (by decide) hg_units_24 (by omega) dX4_unitAt_44 (fun z_25 hz_25 => ?_)
          refine lv_icmp_lt (tgt := 52) hx hb dX4_unitAt_45 (by decide) (fun c_26 => ?_) (fun c_26 => ?_)
          · skip
            have c_26' : z_16.toInt < z_25.toInt := jb_lt (rfl) (rfl) c_26
            refine lv_aload_n hx hb dX4_unitAt_52 rfl (lv_at hl 1 rfl) ?_
            refine j7_read hx hb hown hK (C := RX4) (T := TX4) (N := 12) rfl hly_6_6 hlk_30 (hh_23.at 0 rfl) dX4_unitAt_53 ?_
            refine lv_iload_n hx hb dX4_unitAt_56 rfl (lv_at hl 0 rfl) ?_
            refine j7_iald hx hb hK hh_23 hB146 1 rfl (by decide) hg_units_24 (x := z_16.toInt) (rfl) (by omega) dX4_unitAt_57 (fun z_27 (hz_27 : True) => ?_)
            rw [hQ]
            exact W.iret (v := z_27) hx hb hr (fun t ht hW => ⟨⟨z_27, (), rfl, trivial, hh_23.rt (M1 := []) [] rfl ht⟩, by rw [ht]; try exact hh_23.1.1, fun q h9 hq => by rw [ht]; try exact hh_23.1.2.1 q h9 hq⟩) hh_23.1.2.2 dX4_unitAt_58
          · skip
            have c_26' : z_16.toInt ≥ z_25.toInt := jb_lt_n (rfl) (rfl) c_26
            refine lv_iconst (v := 0) hx hb dX4_unitAt_48 (by decide) ?_
            refine lv_goto (tgt := 58) hx hb dX4_unitAt_49 (by decide) ?_
            rw [hQ]
            exact W.iret (v := 0) hx hb hr (fun t ht hW => ⟨⟨0, (), rfl, trivial, hh_23.rt (M1 := []) [] rfl ht⟩, by rw [ht]; try exact hh_23.1.1, fun q h9 hq => by rw [ht]; try exact hh_23.1.2.1 q h9 hq⟩) hh_23.1.2.2 dX4_unitAt_58
end
section
def EX4_kindOfK : List (Nat × Nat) := []
set_option maxHeartbeats 4000000 in
set_option maxRecDepth 20000 in
theorem uX4_kindOfK (l : Launch) (dC : Nat → ClassId) (dI : Nat → Nat → Nat) (ca : Nat → ClassId) (base : Nat) (B : jF) (hB : jBok B) (hAp : jAp (dC, dI)) (hB6 : ∀ n G a H, B 6 n G a H ↔ jOb (dC, dI) 6 12 (F6 n G) a H) (hB140 : ∀ n G a H, B 140 n G a H ↔ jAr (dC, dI) (ca 1) (fun j z => True) n a H) (G0 : jT) (H0 : Heap) (r0 : Nat) (a1 : Int32) (pv : Int32) (wk : Nat) (wi : Nat) (wz : Nat) (fk : Nat → Int32) (fi : Nat → Int32) (fz : Nat → Int32) : Met l yX4_kindOf (jw yX4_kindOf cX4_kindOf 2 (some .int)) ({ frames := 0, cells := 0, slots := 0, locals := 0 }) (va_Pc [.ref r0, .int a1] (fun U => U.heap = H0 ∧ jX B base G0 [] H0 ∧ jG dC dI ca base U ∧ G0 r0 = some (6, 0) ∧ G0 wk = some (140, 1502) ∧ G0 wi = some (141, 1502) ∧ G0 wz = some (142, 1502) ∧ jP (dC, dI) G0 H0 [(r0, 6, 7, .int pv), (r0, 6, 0, .ref wk), (r0, 6, 1, .ref wi), (r0, 6, 2, .ref wz)] ∧ jMc (dC, dI) G0 H0 [(wk, 140, 1502, ca 1, fk), (wi, 141, 1502, ca 1, fi), (wz, 142, 1502, ca 1, fz)] ∧ 0 ≤ pv.toInt ∧ pv.toInt ≤ 1502)) (va_Qi (S := Unit) (fun r u => (r.toInt = 0 ∨ (0 ≤ a1.toInt ∧ a1.toInt < pv.toInt ∧ r.toInt = jSo fk a1.toInt))) (fun u t => jRt (dC, dI) B base G0 EX4_kindOfK H0 [] t.heap) (jA base)) 0 0 (jA base) := by
  refine Met.ofW (cc := cX4_kindOf) (maxL := 2) (ret := (some .int)) (by decide) rfl ?_
  intro p e s m args below meth c s₁ Bd hml hv
  obtain ⟨rfl, hH0, hX, hG, hg_r0, hg_wk, hg_wi, hg_wz, hP0, hM0, hp0, hp1⟩ := hv
  have hK := hG.1
  have hx := Bd.exec
  have hb := Bd.bytes
  have hr := Bd.returns
  have hts := atoms_spec (ws := (jw yX4_kindOf cX4_kindOf 2 (some .int))) Bd.pre
  have htw : ∀ w ∈ jWl, w.before _ s = true := fun w h => hts w (List.mem_cons_of_mem _ h)
  have hown : s.vm.findClass RX4 = some m.cls := findClass_of_methodNamed Bd.named
  have hlocks := Bd.notSynchronized
  obtain ⟨Q, hQ⟩ : ∃ Q, Q = MQ below (va_Qi (S := Unit) (fun r u => (r.toInt = 0 ∨ (0 ≤ a1.toInt ∧ a1.toInt < pv.toInt ∧ r.toInt = jSo fk a1.toInt))) (fun u t => jRt (dC, dI) B base G0 EX4_kindOfK H0 [] t.heap) (jA base)) ([.ref r0, .int a1] : List Value).toArray s 0 0 (jA base) := ⟨_, rfl⟩
  rw [← hQ]
  have hl := lv_entry ([.ref r0, .int a1]) (n := 2) (Nat.le_of_ble_eq_true rfl)
  rw [lg_entry_eq]
  generalize (lg_sl ([.ref r0, .int a1]) ++ List.replicate (2 - (lg_sl ([.ref r0, .int a1])).length) Slot.unset).toArray = ls at hl ⊢
  have hl : lv_has ls 2 [(0, .ref r0), (1, .int a1)] := hl
  generalize hR : (headSpec (jw yX4_kindOf cX4_kindOf 2 (some .int)) ({ frames := 0, cells := 0, slots := 0, locals := 0 })).room = R
  subst hH0
  have hh : jSt (dC, dI) B base G0 G0 EX4_kindOfK s.heap 0 0 [(r0, 6, 7, .int pv), (r0, 6, 0, .ref wk), (r0, 6, 1, .ref wi), (r0, 6, 2, .ref wz)] [(wk, 140, 1502, ca 1, fk), (wi, 141, 1502, ca 1, fi), (wz, 142, 1502, ca 1, fz)] [] s.heap [] := jSt.start hX hP0 hM0 jIs.nil
  clear hX hP0
  have hk0 : (0 : Int32).toInt = 0 := by decide
  have hk1 : (1 : Int32).toInt = 1 := by decide
  have hly_6_0 := htw (u_lay RX4 TX4 0) (jWc_wsX40 _ (u_in_lay (by decide)))
  have hly_6_7 := htw (u_lay RX4 TX4 7) (jWc_wsX40 _ (u_in_lay (by decide)))
  have hlk_50 := (htw (.fieldLink RX4 50 "ProofServer$Json" "values" "I") (jWr_19 _ (List.mem_of_getElem? (i := 13) rfl)))
  have hlk_11 := (htw (.fieldLink RX4 11 "ProofServer$Json" "kinds" "[I") (jWr_3 _ (List.mem_of_getElem? (i := 21) rfl)))
  have hrg_a1 := jb_rng a1
  refine lv_iload_n hx hb dX4_kindOf_0 rfl (lv_at hl 1 rfl) ?_
  refine lv_if_lt (tgt := 12) hx hb dX4_kindOf_1 (by decide) (fun c_1 => ?_) (fun c_1 => ?_)
  · skip
    have c_1' : a1.toInt < 0 := jb_lt (rfl) ((by decide)) c_1
    refine lv_iconst (v := 0) hx hb dX4_kindOf_12 (by decide) ?_
    refine lv_goto (tgt := 22) hx hb dX4_kindOf_13 (by decide) ?_
    rw [hQ]
    exact W.iret (v := 0) hx hb hr (fun t ht hW => ⟨⟨0, (), rfl, by first | omega | rfl | assumption | decide | exact Or.inl rfl | exact Or.inr rfl | (simp only; omega), hh.rt (M1 := []) [] rfl ht⟩, by rw [ht]; try exact hh.1.1, fun q h9 hq => by rw [ht]; try exact hh.1.2.1 q h9 hq⟩) hh.1.2.2 dX4_kindOf_22
  · skip
    have c_1' : a1.toInt ≥ 0 := jb_lt_n (rfl) ((by decide)) c_1
    refine lv_iload_n hx hb dX4_kindOf_4 rfl (lv_at hl 1 rfl) ?_
    refine lv_aload_n hx hb dX4_kindOf_5 rfl (lv_at hl 0 rfl) ?_
    refine j7_read hx hb hown hK (C := RX4) (T := TX4) (N := 12) rfl hly_6_7 hlk_50 (hh.at 0 rfl) dX4_kindOf_6 ?_
    refine lv_icmp_lt (tgt := 16) hx hb dX4_kindOf_9 (by decide) (fun c_2 => ?_) (fun c_2 => ?_)
    · skip
      have c_2' : a1.toInt < pv.toInt := jb_lt (rfl) (rfl) c_2
      refine lv_aload_n hx hb dX4_kindOf_16 rfl (lv_at hl 0 rfl) ?_
      refine j7_read hx hb hown hK (C := RX4) (T := TX4) (N := 12) rfl hly_6_0 hlk_11 (hh.at 1 rfl) dX4_kindOf_17 ?_
      refine lv_iload_n hx hb dX4_kindOf_20 rfl (lv_at hl 1 rfl) ?_
      refine j7_ialdM hx hb hK hh hB140 1 rfl (by decide) hg_wk (x := a1.toInt) (rfl) (by omega) (j := 0) rfl dX4_kindOf_21 (fun z_3 ez_3 (hz_3 : True) => ?_)
      have hqz_3 : z_3.toInt = jSo fk (a1.toInt) := by unfold jSo; rw [ez_3]
      rw [hQ]
      exact W.iret (v := z_3) hx hb hr (fun t ht hW => ⟨⟨z_3, (), rfl, by first | omega | rfl | assumption | decide | exact Or.inl rfl | exact Or.inr rfl | (simp only; omega), hh.rt (M1 := []) [] rfl ht⟩, by rw [ht]; try exact hh.1.1, fun q h9 hq => by rw [ht]; try exact hh.1.2.1 q h9 hq⟩) hh.1.2.2 dX4_kindOf_22
    · skip
      have c_2' : a1.toInt ≥ pv.toInt := jb_lt_n (rfl) (rfl) c_2
      refine lv_iconst (v := 0) hx hb dX4_kindOf_12 (by decide) ?_
      refine lv_goto (tgt := 22) hx hb dX4_kindOf_13 (by decide) ?_
      rw [hQ]
      exact W.iret (v := 0) hx hb hr (fun t ht hW => ⟨⟨0, (), rfl, by first | omega | rfl | assumption | decide | exact Or.inl rfl | exact Or.inr rfl | (simp only; omega), hh.rt (M1 := []) [] rfl ht⟩, by rw [ht]; try exact hh.1.1, fun q h9 hq => by rw [ht]; try exact hh.1.2.1 q h9 hq⟩) hh.1.2.2 dX4_kindOf_22
end
section
theorem dX4_unitsOf_0 : decode cX4_unitsOf 0 = .ok (.aload_n 0, 1) := by decide +kernel
theorem dX4_unitsOf_1 : decode cX4_unitsOf 1 = .ok (.iload_n 1, 1) := by decide +kernel
theorem dX4_unitsOf_2 : decode cX4_unitsOf 2 = .ok (.invokevirtual 63, 3) := by decide +kernel
theorem dX4_unitsOf_5 : decode cX4_unitsOf 5 = .ok (.iconst 3, 1) := by decide +kernel
theorem dX4_unitsOf_6 : decode cX4_unitsOf 6 = .ok (.if_icmp .ne 16, 3) := by decide +kernel
theorem dX4_unitsOf_9 : decode cX4_unitsOf 9 = .ok (.aload_n 0, 1) := by decide +kernel
theorem dX4_unitsOf_10 : decode cX4_unitsOf 10 = .ok (.getfield 18, 3) := by decide +kernel
theorem dX4_unitsOf_13 : decode cX4_unitsOf 13 = .ok (.iload_n 1, 1) := by decide +kernel
theorem dX4_unitsOf_14 : decode cX4_unitsOf 14 = .ok (.iaload, 1) := by decide +kernel
theorem dX4_unitsOf_15 : decode cX4_unitsOf 15 = .ok (.iconst 0, 1) := by decide +kernel
theorem dX4_unitsOf_16 : decode cX4_unitsOf 16 = .ok (.invokestatic 86, 3) := by decide +kernel
theorem dX4_unitsOf_19 : decode cX4_unitsOf 19 = .ok (.goto 4, 3) := by decide +kernel
theorem dX4_unitsOf_22 : decode cX4_unitsOf 22 = .ok (.iconst 0, 1) := by decide +kernel
theorem dX4_unitsOf_23 : decode cX4_unitsOf 23 = .ok (.newarray .int, 2) := by decide +kernel
theorem dX4_unitsOf_25 : decode cX4_unitsOf 25 = .ok (.astore_n 2, 1) := by decide +kernel
theorem dX4_unitsOf_26 : decode cX4_unitsOf 26 = .ok (.iconst 0, 1) := by decide +kernel
theorem dX4_unitsOf_27 : decode cX4_unitsOf 27 = .ok (.istore_n 3, 1) := by decide +kernel
theorem dX4_unitsOf_28 : decode cX4_unitsOf 28 = .ok (.iload_n 3, 1) := by decide +kernel
theorem dX4_unitsOf_29 : decode cX4_unitsOf 29 = .ok (.aload_n 2, 1) := by decide +kernel
theorem dX4_unitsOf_30 : decode cX4_unitsOf 30 = .ok (.arraylength, 1) := by decide +kernel
theorem dX4_unitsOf_31 : decode cX4_unitsOf 31 = .ok (.if_icmp .ge 18, 3) := by decide +kernel
theorem dX4_unitsOf_34 : decode cX4_unitsOf 34 = .ok (.aload_n 2, 1) := by decide +kernel
theorem dX4_unitsOf_35 : decode cX4_unitsOf 35 = .ok (.iload_n 3, 1) := by decide +kernel
theorem dX4_unitsOf_36 : decode cX4_unitsOf 36 = .ok (.aload_n 0, 1) := by decide +kernel
theorem dX4_unitsOf_37 : decode cX4_unitsOf 37 = .ok (.iload_n 1, 1) := by decide +kernel
theorem dX4_unitsOf_38 : decode cX4_unitsOf 38 = .ok (.iload_n 3, 1) := by decide +kernel
theorem dX4_unitsOf_39 : decode cX4_unitsOf 39 = .ok (.invokevirtual 80, 3) := by decide +kernel
theorem dX4_unitsOf_42 : decode cX4_unitsOf 42 = .ok (.iastore, 1) := by decide +kernel
theorem dX4_unitsOf_43 : decode cX4_unitsOf 43 = .ok (.iinc 3 1, 3) := by decide +kernel
theorem dX4_unitsOf_46 : decode cX4_unitsOf 46 = .ok (.goto (-18), 3) := by decide +kernel
theorem dX4_unitsOf_49 : decode cX4_unitsOf 49 = .ok (.aload_n 2, 1) := by decide +kernel
theorem dX4_unitsOf_50 : decode cX4_unitsOf 50 = .ok (.areturn, 1) := by decide +kernel
end
section
-- Bytes that stay small; new Bytes
theorem jPw.z16 : jPw 16 := ⟨0, by decide, by decide⟩
/-- what a callee writes of an object that is new -/
theorem jOl.trN {D : va_G} {G G1 : jT} {k r : Nat} {rs : List Nat} {H0 H H1 : Heap} (h : jOl D G k rs H0 H) (hle : jLe G G1) (h1 : jOw D G1 k r H H1) (hr : ∀ t, G r ≠ some t) : jOl D G k rs H0 H1 := fun a n i v hne ha hf => h1 a n i v (fun q => hr _ (by rw [← q]; exact ha)) (hle _ _ ha) (h a n i v hne ha hf)
end
