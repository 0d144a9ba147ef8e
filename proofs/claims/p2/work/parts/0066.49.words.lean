section
theorem jWr_42 : ∀ w ∈ wsL_law_r42, w ∈ jWl := fun w h => jT42 w (List.mem_append_left _ h)
theorem jWr_43 : ∀ w ∈ wsL_law_r43, w ∈ jWl := fun w h => jT43 w (List.mem_append_left _ h)
theorem jWc_wsX80 : ∀ w ∈ wsX80, w ∈ jWl := fun w h => (List.mem_append_left _ (List.mem_append_left _ (List.mem_append_right _ h)))
end
section
theorem dX4_firstOf_0 : decode cX4_firstOf 0 = .ok (.iload_n 1, 1) := by decide +kernel
theorem dX4_firstOf_1 : decode cX4_firstOf 1 = .ok (.ifCond .lt 11, 3) := by decide +kernel
theorem dX4_firstOf_4 : decode cX4_firstOf 4 = .ok (.iload_n 1, 1) := by decide +kernel
theorem dX4_firstOf_5 : decode cX4_firstOf 5 = .ok (.aload_n 0, 1) := by decide +kernel
theorem dX4_firstOf_6 : decode cX4_firstOf 6 = .ok (.getfield 50, 3) := by decide +kernel
theorem dX4_firstOf_9 : decode cX4_firstOf 9 = .ok (.if_icmp .lt 7, 3) := by decide +kernel
theorem dX4_firstOf_12 : decode cX4_firstOf 12 = .ok (.iconst (-1), 1) := by decide +kernel
theorem dX4_firstOf_13 : decode cX4_firstOf 13 = .ok (.goto 9, 3) := by decide +kernel
theorem dX4_firstOf_16 : decode cX4_firstOf 16 = .ok (.aload_n 0, 1) := by decide +kernel
theorem dX4_firstOf_17 : decode cX4_firstOf 17 = .ok (.getfield 15, 3) := by decide +kernel
theorem dX4_firstOf_20 : decode cX4_firstOf 20 = .ok (.iload_n 1, 1) := by decide +kernel
theorem dX4_firstOf_21 : decode cX4_firstOf 21 = .ok (.iaload, 1) := by decide +kernel
theorem dX4_firstOf_22 : decode cX4_firstOf 22 = .ok (.ireturn, 1) := by decide +kernel
theorem dX4_nextOf_0 : decode cX4_nextOf 0 = .ok (.iload_n 1, 1) := by decide +kernel
theorem dX4_nextOf_1 : decode cX4_nextOf 1 = .ok (.ifCond .lt 11, 3) := by decide +kernel
theorem dX4_nextOf_4 : decode cX4_nextOf 4 = .ok (.iload_n 1, 1) := by decide +kernel
theorem dX4_nextOf_5 : decode cX4_nextOf 5 = .ok (.aload_n 0, 1) := by decide +kernel
theorem dX4_nextOf_6 : decode cX4_nextOf 6 = .ok (.getfield 50, 3) := by decide +kernel
theorem dX4_nextOf_9 : decode cX4_nextOf 9 = .ok (.if_icmp .lt 7, 3) := by decide +kernel
theorem dX4_nextOf_12 : decode cX4_nextOf 12 = .ok (.iconst (-1), 1) := by decide +kernel
theorem dX4_nextOf_13 : decode cX4_nextOf 13 = .ok (.goto 9, 3) := by decide +kernel
theorem dX4_nextOf_16 : decode cX4_nextOf 16 = .ok (.aload_n 0, 1) := by decide +kernel
theorem dX4_nextOf_17 : decode cX4_nextOf 17 = .ok (.getfield 21, 3) := by decide +kernel
theorem dX4_nextOf_20 : decode cX4_nextOf 20 = .ok (.iload_n 1, 1) := by decide +kernel
theorem dX4_nextOf_21 : decode cX4_nextOf 21 = .ok (.iaload, 1) := by decide +kernel
theorem dX4_nextOf_22 : decode cX4_nextOf 22 = .ok (.ireturn, 1) := by decide +kernel
def EX4_firstOf : List (Nat × Nat) := []
def EX4_nextOf : List (Nat × Nat) := []
def EX4_areUnits : List (Nat × Nat) := []
def EX4_member : List (Nat × Nat) := []
set_option maxHeartbeats 4000000 in
set_option maxRecDepth 20000 in
theorem uX4_firstOf (l : Launch) (dC : Nat → ClassId) (dI : Nat → Nat → Nat) (ca : Nat → ClassId) (base : Nat) (B : jF) (hB : jBok B) (hAp : jAp (dC, dI)) (hB6 : ∀ n G a H, B 6 n G a H ↔ jOb (dC, dI) 6 12 (F6 n G) a H) (hB141 : ∀ n G a H, B 141 n G a H ↔ jAr (dC, dI) (ca 1) (fun j z => True) n a H) (G0 : jT) (H0 : Heap) (r0 : Nat) (a1 : Int32) : Met l yX4_firstOf (jw yX4_firstOf cX4_firstOf 2 (some .int)) ({ frames := 0, cells := 0, slots := 0, locals := 0 }) (va_Pc [.ref r0, .int a1] (fun U => U.heap = H0 ∧ jX B base G0 [] H0 ∧ jG dC dI ca base U ∧ G0 r0 = some (6, 0) ∧ jP (dC, dI) G0 H0 [] ∧ True)) (va_Qi (S := Unit) (fun r u => (True)) (fun u t => jRt (dC, dI) B base G0 EX4_firstOf H0 [] t.heap) (jA base)) 0 0 (jA base) := by
  refine Met.ofW (cc := cX4_firstOf) (maxL := 2) (ret := (some .int)) (by decide) rfl ?_
  intro p e s m args below meth c s₁ Bd hml hv
  obtain ⟨rfl, hH0, hX, hG, hg_r0, hP0, hp0⟩ := hv
  have hK := hG.1
  have hx := Bd.exec
  have hb := Bd.bytes
  have hr := Bd.returns
  have hts := atoms_spec (ws := (jw yX4_firstOf cX4_firstOf 2 (some .int))) Bd.pre
  have htw : ∀ w ∈ jWl, w.before _ s = true := fun w h => hts w (List.mem_cons_of_mem _ h)
  have hown : s.vm.findClass RX4 = some m.cls := findClass_of_methodNamed Bd.named
  have hlocks := Bd.notSynchronized
  obtain ⟨Q, hQ⟩ : ∃ Q, Q = MQ below (va_Qi (S := Unit) (fun r u => (True)) (fun u t => jRt (dC, dI) B base G0 EX4_firstOf H0 [] t.heap) (jA base)) ([.ref r0, .int a1] : List Value).toArray s 0 0 (jA base) := ⟨_, rfl⟩
  rw [← hQ]
  have hl := lv_entry ([.ref r0, .int a1]) (n := 2) (Nat.le_of_ble_eq_true rfl)
  rw [lg_entry_eq]
  generalize (lg_sl ([.ref r0, .int a1]) ++ List.replicate (2 - (lg_sl ([.ref r0, .int a1])).length) Slot.unset).toArray = ls at hl ⊢
  have hl : lv_has ls 2 [(0, .ref r0), (1, .int a1)] := hl
  generalize hR : (headSpec (jw yX4_firstOf cX4_firstOf 2 (some .int)) ({ frames := 0, cells := 0, slots := 0, locals := 0 })).room = R
  subst hH0
  have hh : jSt (dC, dI) B base G0 G0 EX4_firstOf s.heap 0 0 [] [] [] s.heap [] := jSt.start hX hP0 jMc.nil jIs.nil
  clear hX hP0
  have hkm1 : ((-1) : Int32).toInt = (-1) := by decide
  have hk0 : (0 : Int32).toInt = 0 := by decide
  have hk1 : (1 : Int32).toInt = 1 := by decide
  have hly_6_1 := htw (u_lay RX4 TX4 1) (jWc_wsX40 _ (u_in_lay (by decide)))
  have hly_6_7 := htw (u_lay RX4 TX4 7) (jWc_wsX40 _ (u_in_lay (by decide)))
  have hlk_50 := (htw (.fieldLink RX4 50 "ProofServer$Json" "values" "I") (jWr_19 _ (List.mem_of_getElem? (i := 13) rfl)))
  have hlk_15 := (htw (.fieldLink RX4 15 "ProofServer$Json" "firsts" "[I") (jWr_3 _ (List.mem_of_getElem? (i := 22) rfl)))
  have hrg_a1 := jb_rng a1
  refine lv_iload_n hx hb dX4_firstOf_0 rfl (lv_at hl 1 rfl) ?_
  refine lv_if_lt (tgt := 12) hx hb dX4_firstOf_1 (by decide) (fun c_1 => ?_) (fun c_1 => ?_)
  · skip
    have c_1' : a1.toInt < 0 := jb_lt (rfl) ((by decide)) c_1
    refine lv_iconst (v := (-1)) hx hb dX4_firstOf_12 (by decide) ?_
    refine lv_goto (tgt := 22) hx hb dX4_firstOf_13 (by decide) ?_
    rw [hQ]
    exact W.iret (v := (-1)) hx hb hr (fun t ht hW => ⟨⟨(-1), (), rfl, trivial, hh.rt (M1 := []) [] rfl ht⟩, by rw [ht]; try exact hh.1.1, fun q h9 hq => by rw [ht]; try exact hh.1.2.1 q h9 hq⟩) hh.1.2.2 dX4_firstOf_22
  · skip
    have c_1' : a1.toInt ≥ 0 := jb_lt_n (rfl) ((by decide)) c_1
    refine lv_iload_n hx hb dX4_firstOf_4 rfl (lv_at hl 1 rfl) ?_
    refine lv_aload_n hx hb dX4_firstOf_5 rfl (lv_at hl 0 rfl) ?_
    obtain ⟨v_2, hv_2, hh_3⟩ := hh.pin (C := RX4) (T := TX4) (N := 12) hB6 rfl (by decide) hg_r0 (i := 7) (by decide) rfl
    clear hh
    obtain ⟨values_4, rfl, hlovalues_4, hhivalues_4⟩ := hv_2
    refine j7_read hx hb hown hK (C := RX4) (T := TX4) (N := 12) rfl hly_6_7 hlk_50 (hh_3.at 0 rfl) dX4_firstOf_6 ?_
    refine lv_icmp_lt (tgt := 16) hx hb dX4_firstOf_9 (by decide) (fun c_5 => ?_) (fun c_5 => ?_)
    · skip
      have c_5' : a1.toInt < values_4.toInt := jb_lt (rfl) (rfl) c_5
      refine lv_aload_n hx hb dX4_firstOf_16 rfl (lv_at hl 0 rfl) ?_
      obtain ⟨v_6, hv_6, hh_7⟩ := hh_3.pin (C := RX4) (T := TX4) (N := 12) hB6 rfl (by decide) hg_r0 (i := 1) (by decide) rfl
      clear hh_3
      obtain ⟨firsts_8, rfl, hg_firsts_8⟩ := hv_6
      refine j7_read hx hb hown hK (C := RX4) (T := TX4) (N := 12) rfl hly_6_1 hlk_15 (hh_7.at 0 rfl) dX4_firstOf_17 ?_
      refine lv_iload_n hx hb dX4_firstOf_20 rfl (lv_at hl 1 rfl) ?_
      refine j7_iald hx hb hK hh_7 hB141 1 rfl (by decide) hg_firsts_8 (x := a1.toInt) (rfl) (by omega) dX4_firstOf_21 (fun z_9 (hz_9 : True) => ?_)
      rw [hQ]
      exact W.iret (v := z_9) hx hb hr (fun t ht hW => ⟨⟨z_9, (), rfl, trivial, hh_7.rt (M1 := []) [] rfl ht⟩, by rw [ht]; try exact hh_7.1.1, fun q h9 hq => by rw [ht]; try exact hh_7.1.2.1 q h9 hq⟩) hh_7.1.2.2 dX4_firstOf_22
    · skip
      have c_5' : a1.toInt ≥ values_4.toInt := jb_lt_n (rfl) (rfl) c_5
      refine lv_iconst (v := (-1)) hx hb dX4_firstOf_12 (by decide) ?_
      refine lv_goto (tgt := 22) hx hb dX4_firstOf_13 (by decide) ?_
      rw [hQ]
      exact W.iret (v := (-1)) hx hb hr (fun t ht hW => ⟨⟨(-1), (), rfl, trivial, hh_3.rt (M1 := []) [] rfl ht⟩, by rw [ht]; try exact hh_3.1.1, fun q h9 hq => by rw [ht]; try exact hh_3.1.2.1 q h9 hq⟩) hh_3.1.2.2 dX4_firstOf_22
set_option maxHeartbeats 4000000 in
set_option maxRecDepth 20000 in
theorem uX4_nextOf (l : Launch) (dC : Nat → ClassId) (dI : Nat → Nat → Nat) (ca : Nat → ClassId) (base : Nat) (B : jF) (hB : jBok B) (hAp : jAp (dC, dI)) (hB6 : ∀ n G a H, B 6 n G a H ↔ jOb (dC, dI) 6 12 (F6 n G) a H) (hB143 : ∀ n G a H, B 143 n G a H ↔ jAr (dC, dI) (ca 1) (fun j z => True) n a H) (G0 : jT) (H0 : Heap) (r0 : Nat) (a1 : Int32) : Met l yX4_nextOf (jw yX4_nextOf cX4_nextOf 2 (some .int)) ({ frames := 0, cells := 0, slots := 0, locals := 0 }) (va_Pc [.ref r0, .int a1] (fun U => U.heap = H0 ∧ jX B base G0 [] H0 ∧ jG dC dI ca base U ∧ G0 r0 = some (6, 0) ∧ jP (dC, dI) G0 H0 [] ∧ True)) (va_Qi (S := Unit) (fun r u => (True)) (fun u t => jRt (dC, dI) B base G0 EX4_nextOf H0 [] t.heap) (jA base)) 0 0 (jA base) := by
  refine Met.ofW (cc := cX4_nextOf) (maxL := 2) (ret := (some .int)) (by decide) rfl ?_
  intro p e s m args below meth c s₁ Bd hml hv
  obtain ⟨rfl, hH0, hX, hG, hg_r0, hP0, hp0⟩ := hv
  have hK := hG.1
  have hx := Bd.exec
  have hb := Bd.bytes
  have hr := Bd.returns
  have hts := atoms_spec (ws := (jw yX4_nextOf cX4_nextOf 2 (some .int))) Bd.pre
  have htw : ∀ w ∈ jWl, w.before _ s = true := fun w h => hts w (List.mem_cons_of_mem _ h)
  have hown : s.vm.findClass RX4 = some m.cls := findClass_of_methodNamed Bd.named
  have hlocks := Bd.notSynchronized
  obtain ⟨Q, hQ⟩ : ∃ Q, Q = MQ below (va_Qi (S := Unit) (fun r u => (True)) (fun u t => jRt (dC, dI) B base G0 EX4_nextOf H0 [] t.heap) (jA base)) ([.ref r0, .int a1] : List Value).toArray s 0 0 (jA base) := ⟨_, rfl⟩
  rw [← hQ]
  have hl := lv_entry ([.ref r0, .int a1]) (n := 2) (Nat.le_of_ble_eq_true rfl)
  rw [lg_entry_eq]
  generalize (lg_sl ([.ref r0, .int a1]) ++ List.replicate (2 - (lg_sl ([.ref r0, .int a1])).length) Slot.unset).toArray = ls at hl ⊢
  have hl : lv_has ls 2 [(0, .ref r0), (1, .int a1)] := hl
  generalize hR : (headSpec (jw yX4_nextOf cX4_nextOf 2 (some .int)) ({ frames := 0, cells := 0, slots := 0, locals := 0 })).room = R
  subst hH0
  have hh : jSt (dC, dI) B base G0 G0 EX4_nextOf s.heap 0 0 [] [] [] s.heap [] := jSt.start hX hP0 jMc.nil jIs.nil
  clear hX hP0
  have hkm1 : ((-1) : Int32).toInt = (-1) := by decide
  have hk0 : (0 : Int32).toInt = 0 := by decide
  have hk1 : (1 : Int32).toInt = 1 := by decide
  have hly_6_3 := htw (u_lay RX4 TX4 3) (jWc_wsX40 _ (u_in_lay (by decide)))
  have hly_6_7 := htw (u_lay RX4 TX4 7) (jWc_wsX40 _ (u_in_lay (by decide)))
  have hlk_50 := (htw (.fieldLink RX4 50 "ProofServer$Json" "values" "I") (jWr_19 _ (List.mem_of_getElem? (i := 13) rfl)))
  have hlk_21 := (htw (.fieldLink RX4 21 "ProofServer$Json" "nexts" "[I") (jWr_4 _ (List.mem_of_getElem? (i := 0) rfl)))
  have hrg_a1 := jb_rng a1
  refine lv_iload_n hx hb dX4_nextOf_0 rfl (lv_at hl 1 rfl) ?_
  refine lv_if_lt (tgt := 12) hx hb dX4_nextOf_1 (by decide) (fun c_1 => ?_) (fun c_1 => ?_)
  · skip
    have c_1' : a1.toInt < 0 := jb_lt (rfl) ((by decide)) c_1
    refine lv_iconst (v := (-1)) hx hb dX4_nextOf_12 (by decide) ?_
    refine lv_goto (tgt := 22) hx hb dX4_nextOf_13 (by decide) ?_
    rw [hQ]
    exact W.iret (v := (-1)) hx hb hr (fun t ht hW => ⟨⟨(-1), (), rfl, trivial, hh.rt (M1 := []) [] rfl ht⟩, by rw [ht]; try exact hh.1.1, fun q h9 hq => by rw [ht]; try exact hh.1.2.1 q h9 hq⟩) hh.1.2.2 dX4_nextOf_22
  · skip
    have c_1' : a1.toInt ≥ 0 := jb_lt_n (rfl) ((by decide)) c_1
    refine lv_iload_n hx hb dX4_nextOf_4 rfl (lv_at hl 1 rfl) ?_
    refine lv_aload_n hx hb dX4_nextOf_5 rfl (lv_at hl 0 rfl) ?_
    obtain ⟨v_2, hv_2, hh_3⟩ := hh.pin (C := RX4) (T := TX4) (N := 12) hB6 rfl (by decide) hg_r0 (i := 7) (by decide) rfl
    clear hh
    obtain ⟨values_4, rfl, hlovalues_4, hhivalues_4⟩ := hv_2
    refine j7_read hx hb hown hK (C := RX4) (T := TX4) (N := 12) rfl hly_6_7 hlk_50 (hh_3.at 0 rfl) dX4_nextOf_6 ?_
    refine lv_icmp_lt (tgt := 16) hx hb dX4_nextOf_9 (by decide) (fun c_5 => ?_) (fun c_5 => ?_)
    · skip
      have c_5' : a1.toInt < values_4.toInt := jb_lt (rfl) (rfl) c_5
      refine lv_aload_n hx hb dX4_nextOf_16 rfl (lv_at hl 0 rfl) ?_
      obtain ⟨v_6, hv_6, hh_7⟩ := hh_3.pin (C := RX4) (T := TX4) (N := 12) hB6 rfl (by decide) hg_r0 (i := 3) (by decide) rfl
      clear hh_3
      obtain ⟨nexts_8, rfl, hg_nexts_8⟩ := hv_6
      refine j7_read hx hb hown hK (C := RX4) (T := TX4) (N := 12) rfl hly_6_3 hlk_21 (hh_7.at 0 rfl) dX4_nextOf_17 ?_
      refine lv_iload_n hx hb dX4_nextOf_20 rfl (lv_at hl 1 rfl) ?_
      refine j7_iald hx hb hK hh_7 hB143 1 rfl (by decide) hg_nexts_8 (x := a1.toInt) (rfl) (by omega) dX4_nextOf_21 (fun z_9 (hz_9 : True) => ?_)
      rw [hQ]
      exact W.iret (v := z_9) hx hb hr (fun t ht hW => ⟨⟨z_9, (), rfl, trivial, hh_7.rt (M1 := []) [] rfl ht⟩, by rw [ht]; try exact hh_7.1.1, fun q h9 hq => by rw [ht]; try exact hh_7.1.2.1 q h9 hq⟩) hh_7.1.2.2 dX4_nextOf_22
    · skip
      have c_5' : a1.toInt ≥ values_4.toInt := jb_lt_n (rfl) (rfl) c_5
      refine lv_iconst (v := (-1)) hx hb dX4_nextOf_12 (by decide) ?_
      refine lv_goto (tgt := 22) hx hb dX4_nextOf_13 (by decide) ?_
      rw [hQ]
      exact W.iret (v := (-1)) hx hb hr (fun t ht hW => ⟨⟨(-1), (), rfl, trivial, hh_3.rt (M1 := []) [] rfl ht⟩, by rw [ht]; try exact hh_3.1.1, fun q h9 hq => by rw [ht]; try exact hh_3.1.2.1 q h9 hq⟩) hh_3.1.2.2 dX4_nextOf_22
set_option maxHeartbeats 4000000 in
set_option maxRecDepth 20000 in
theorem uX4_areUnits (l : Launch) (dC : Nat → ClassId) (dI : Nat → Nat → Nat) (ca : Nat → ClassId) (base : Nat) (B : jF) (hB : jBok B) (hAp : jAp (dC, dI)) (hB6 : ∀ n G a H, B 6 n G a H ↔ jOb (dC, dI) 6 12 (F6 n G) a H) (hB146 : ∀ n G a H, B 146 n G a H ↔ jAr (dC, dI) (ca 1) (fun j z => True) n a H) (G0 : jT) (H0 : Heap) (r0 : Nat) (a1 : Int32) (a2 : Int32) (r3 : Nat) (n3 : Nat) : Met l yX4_areUnits (jw yX4_areUnits cX4_areUnits 5 (some .boolean)) ({ frames := 4, cells := 0, slots := 0, locals := 141 }) (va_Pc [.ref r0, .int a1, .int a2, .ref r3] (fun U => U.heap = H0 ∧ jX B base G0 [] H0 ∧ jG dC dI ca base U ∧ jStr base r3 n3 U H0 ∧ G0 r0 = some (6, 0) ∧ jP (dC, dI) G0 H0 [] ∧ a1.toInt ≤ 1000000 ∧ n3 ≤ 1000)) (va_Qi (S := Unit) (fun r u => (r = 0 ∨ r = 1) ∧ (True)) (fun u t => jRt (dC, dI) B base G0 EX4_areUnits H0 [] t.heap) (jA base)) 0 0 (jA base) := by
  refine Met.ofW (cc := cX4_areUnits) (maxL := 5) (ret := (some .boolean)) (by decide) rfl ?_
  intro p e s m args below meth c s₁ Bd hml hv
  obtain ⟨rfl, hH0, hX, hG, hstr_r3, hg_r0, hP0, hp0, hp1⟩ := hv
  have hK := hG.1
  have hx := Bd.exec
  have hb := Bd.bytes
  have hr := Bd.returns
  have hts := atoms_spec (ws := (jw yX4_areUnits cX4_areUnits 5 (some .boolean))) Bd.pre
  have htw : ∀ w ∈ jWl, w.before _ s = true := fun w h => hts w (List.mem_cons_of_mem _ h)
  have hown : s.vm.findClass RX4 = some m.cls := findClass_of_methodNamed Bd.named
  have hlocks := Bd.notSynchronized
  obtain ⟨Q, hQ⟩ : ∃ Q, Q = MQ below (va_Qi (S := Unit) (fun r u => (r = 0 ∨ r = 1) ∧ (True)) (fun u t => jRt (dC, dI) B base G0 EX4_areUnits H0 [] t.heap) (jA base)) ([.ref r0, .int a1, .int a2, .ref r3] : List Value).toArray s 0 0 (jA base) := ⟨_, rfl⟩
  rw [← hQ]
  have hl := lv_entry ([.ref r0, .int a1, .int a2, .ref r3]) (n := 5) (Nat.le_of_ble_eq_true rfl)
  rw [lg_entry_eq]
  generalize (lg_sl ([.ref r0, .int a1, .int a2, .ref r3]) ++ List.replicate (5 - (lg_sl ([.ref r0, .int a1, .int a2, .ref r3])).length) Slot.unset).toArray = ls at hl ⊢
  have hl : lv_has ls 5 [(0, .ref r0), (1, .int a1), (2, .int a2), (3, .ref r3)] := hl
  generalize hR : (headSpec (jw yX4_areUnits cX4_areUnits 5 (some .boolean)) ({ frames := 4, cells := 0, slots := 0, locals := 141 })).room = R
  subst hH0
  have hh : jSt (dC, dI) B base G0 G0 EX4_areUnits s.heap 0 0 [] [] [] s.heap [] := jSt.start hX hP0 jMc.nil jIs.nil
  clear hX hP0
  have hk0 : (0 : Int32).toInt = 0 := by decide
  have hk1 : (1 : Int32).toInt = 1 := by decide
  have hly_6_6 := htw (u_lay RX4 TX4 6) (jWc_wsX40 _ (u_in_lay (by decide)))
  have hlk_30 := (htw (.fieldLink RX4 30 "ProofServer$Json" "units" "[I") (jWr_4 _ (List.mem_of_getElem? (i := 3) rfl)))
  have hrg_a1 := jb_rng a1
  have hrg_a2 := jb_rng a2
  refine lv_iload_n hx hb dX4_areUnits_0 rfl (lv_at hl 2 rfl) ?_
  refine lv_aload_n hx hb dX4_areUnits_1 rfl (lv_at hl 3 rfl) ?_
  refine vp_callSi (W.runV (As := []) (rest := [.int a2]) ⟨hx, hb, hml, hown, hts⟩ (wJ0_length_8abf5 l dC dI ca base s.heap r3 n3) (cwV 0 hts (jgV (jWr_20 _ (List.mem_of_getElem? (i := 23) rfl)) (jWr_5 _ (List.mem_of_getElem? (i := 13) rfl)) (jWr_5 _ (List.mem_of_getElem? (i := 14) rfl)) (jWr_5 _ (List.mem_of_getElem? (i := 15) rfl)) (jWr_5 _ (List.mem_of_getElem? (i := 16) rfl))) rfl rfl rfl (by decide +kernel) ⟨by rw [← hR]; exact Nat.le_of_ble_eq_true rfl, by rw [← hR]; exact Nat.le_of_ble_eq_true rfl⟩) ⟨fun a U g mk q => by obtain ⟨q0, q1, q2, qK, q9⟩ := q; exact ⟨q0, q1, (q2.moved (Vm.Alike.refl U.vm)), jG.calling g mk a qK, q9⟩, jStr_recv hstr_r3 hh.1, fun U hU hW => ⟨rfl, hU, (hstr_r3.moved hW.alike).kept hh.1.2.1, hG.step hW hU hh.1, by omega⟩⟩ rfl rfl hl.1 rfl (lv_room (Nat.le_of_ble_eq_true rfl)) dX4_areUnits_2 ⟨Nat.zero_le _, Nat.zero_le _⟩) (fun r_1 hr_1 => ?_)
  refine lv_icmp_ne (tgt := 23) hx hb dX4_areUnits_5 (by decide) (fun c_2 => ?_) (fun c_2 => ?_)
  · skip
    have c_2' : a2.toInt ≠ r_1.toInt := jb_ne (rfl) (rfl) c_2
    refine lv_iconst (v := 0) hx hb dX4_areUnits_23 (by decide) ?_
    rw [hQ]
    exact W.zret (v := 0) hx hb hr (jb_nz (Or.inl rfl)) (fun t ht hW => ⟨⟨0, (), rfl, ⟨(Or.inl rfl), trivial⟩, hh.rt (M1 := []) [] rfl ht⟩, by rw [ht]; try exact hh.1.1, fun q h9 hq => by rw [ht]; try exact hh.1.2.1 q h9 hq⟩) hh.1.2.2 dX4_areUnits_24
  · skip
    have c_2' : a2.toInt = r_1.toInt := jb_ne_n (rfl) (rfl) c_2
    refine lv_iload_n hx hb dX4_areUnits_8 rfl (lv_at hl 1 rfl) ?_
    refine lv_if_lt (tgt := 23) hx hb dX4_areUnits_9 (by decide) (fun c_3 => ?_) (fun c_3 => ?_)
    · skip
      have c_3' : a1.toInt < 0 := jb_lt (rfl) ((by decide)) c_3
      refine lv_iconst (v := 0) hx hb dX4_areUnits_23 (by decide) ?_
      rw [hQ]
      exact W.zret (v := 0) hx hb hr (jb_nz (Or.inl rfl)) (fun t ht hW => ⟨⟨0, (), rfl, ⟨(Or.inl rfl), trivial⟩, hh.rt (M1 := []) [] rfl ht⟩, by rw [ht]; try exact hh.1.1, fun q h9 hq => by rw [ht]; try exact hh.1.2.1 q h9 hq⟩) hh.1.2.2 dX4_areUnits_24
    · skip
      have c_3' : a1.toInt ≥ 0 := jb_lt_n (rfl) ((by decide)) c_3
      refine lv_iload_n hx hb dX4_areUnits_12 rfl (lv_at hl 1 rfl) ?_
      refine lv_iload_n hx hb dX4_areUnits_13 rfl (lv_at hl 2 rfl) ?_
      refine lv_iadd hx hb dX4_areUnits_14 ?_
      refine lv_topi (fun z_4 ez_4 => ?_)
      have hz_4 : z_4.toInt = a1.toInt + a2.toInt := by rw [ez_4]; exact jb_iadd2 (rfl) (rfl) (by omega)
      refine lv_aload_n hx hb dX4_areUnits_15 rfl (lv_at hl 0 rfl) ?_
      obtain ⟨v_5, hv_5, hh_6⟩ := hh.pin (C := RX4) (T := TX4) (N := 12) hB6 rfl (by decide) hg_r0 (i := 6) (by decide) rfl
      clear hh
      obtain ⟨units_7, rfl, hg_units_7⟩ := hv_5
      refine j7_read hx hb hown hK (C := RX4) (T := TX4) (N := 12) rfl hly_6_6 hlk_30 (hh_6.at 0 rfl) dX4_areUnits_16 ?_
      refine j7_len hx hb hK hh_6 hB146 1 rfl (by decide) hg_units_7 (by omega) dX4_areUnits_19 (fun z_8 hz_8 => ?_)
      refine lv_icmp_le (tgt := 25) hx hb dX4_areUnits_20 (by decide) (fun c_9 => ?_) (fun c_9 => ?_)
      · skip
        have c_9' : z_4.toInt ≤ z_8.toInt := jb_le (rfl) (rfl) c_9
        refine lv_iconst (v := 0) hx hb dX4_areUnits_25 (by decide) ?_
        refine lv_istore (lv' := [(4, .int 0), (0, .ref r0), (1, .int a1), (2, .int a2), (3, .ref r3)]) hx hb dX4_areUnits_26 hl (by decide) rfl (fun ls hl => ?_)
        have L28 : ∀ (N : Nat) (v4_10 : Int32) (H_10 : Heap) (locs_10 : List Loc), jSt (dC, dI) B base G0 G0 EX4_areUnits s.heap 0 0 [(r0, 6, 6, .ref units_7)] [] [] H_10 locs_10 → (0 ≤ v4_10.toInt) → (((a2.toInt - v4_10.toInt).toNat : Int) : Int) < N → ∀ ls : Array Slot, lv_has ls 5 [(0, .ref r0), (1, .int a1), (2, .int a2), (3, .ref r3), (4, .int v4_10)] → W p l e R s m ([.ref r0, .int a1, .int a2, .ref r3] : List Value).toArray below meth c H_10 locs_10 0 0 Q (F0 m 28 ls []) := by
          intro N
          induction N with
          | zero => intro v4_10 H_10 locs_10 hh_10  hi_10 hm; exact absurd hm (by omega)
          | succ N L28 =>
            intro v4_10 H_10 locs_10 hh_10  hi_10 hm_10 ls hl
            refine lv_iload hx hb dX4_areUnits_28 (lv_at hl 4 rfl) ?_
            refine lv_iload_n hx hb dX4_areUnits_30 rfl (lv_at hl 2 rfl) ?_
            refine lv_icmp_ge (tgt := 60) hx hb dX4_areUnits_31 (by decide) (fun c_11 => ?_) (fun c_11 => ?_)
            · skip
              have c_11' : v4_10.toInt ≥ a2.toInt := jb_ge (rfl) (rfl) c_11
              refine lv_iconst (v := 1) hx hb dX4_areUnits_60 (by decide) ?_
              rw [hQ]
              exact W.zret (v := 1) hx hb hr (jb_nz (Or.inr rfl)) (fun t ht hW => ⟨⟨1, (), rfl, ⟨(Or.inr rfl), trivial⟩, hh_10.rt (M1 := []) [] rfl ht⟩, by rw [ht]; try exact hh_10.1.1, fun q h9 hq => by rw [ht]; try exact hh_10.1.2.1 q h9 hq⟩) hh_10.1.2.2 dX4_areUnits_61
            · skip
              have c_11' : v4_10.toInt < a2.toInt := jb_ge_n (rfl) (rfl) c_11
              refine lv_aload_n hx hb dX4_areUnits_34 rfl (lv_at hl 0 rfl) ?_
              refine j7_read hx hb hown hK (C := RX4) (T := TX4) (N := 12) rfl hly_6_6 hlk_30 (hh_10.at 0 rfl) dX4_areUnits_35 ?_
              refine lv_iload_n hx hb dX4_areUnits_38 rfl (lv_at hl 1 rfl) ?_
              refine lv_iload hx hb dX4_areUnits_39 (lv_at hl 4 rfl) ?_
              refine lv_iadd hx hb dX4_areUnits_41 ?_
              refine lv_topi (fun z_12 ez_12 => ?_)
              have hz_12 : z_12.toInt = a1.toInt + v4_10.toInt := by rw [ez_12]; exact jb_iadd2 (rfl) (rfl) (by omega)
              refine j7_iald hx hb hK hh_10 hB146 1 rfl (by decide) hg_units_7 (x := z_12.toInt) (rfl) (by omega) dX4_areUnits_42 (fun z_13 (hz_13 : True) => ?_)
              refine lv_aload_n hx hb dX4_areUnits_43 rfl (lv_at hl 3 rfl) ?_
              refine lv_iload hx hb dX4_areUnits_44 (lv_at hl 4 rfl) ?_
              refine vp_callSi (W.runV (As := [.int v4_10]) (rest := [.int z_13]) ⟨hx, hb, hml, hown, hts⟩ (wJ0_charAt_5068e l dC dI ca base H_10 r3 n3 v4_10) (cwV 1 hts (jgV (jWr_21 _ (List.mem_of_getElem? (i := 0) rfl)) (jWr_6 _ (List.mem_of_getElem? (i := 1) rfl)) (jWr_6 _ (List.mem_of_getElem? (i := 2) rfl)) (jWr_5 _ (List.mem_of_getElem? (i := 15) rfl)) (jWr_6 _ (List.mem_of_getElem? (i := 3) rfl))) rfl rfl rfl (by decide +kernel) ⟨by rw [← hR]; exact Nat.le_of_ble_eq_true rfl, by rw [← hR]; exact Nat.le_of_ble_eq_true rfl⟩) ⟨fun a U g mk q => by obtain ⟨q0, q1, q2, qK, q9⟩ := q; exact ⟨q0, q1, (q2.moved (Vm.Alike.refl U.vm)), jG.calling g mk a qK, q9⟩, jStr_recv hstr_r3 hh_10.1, fun U hU hW => ⟨rfl, hU, (hstr_r3.moved hW.alike).kept hh_10.1.2.1, hG.step hW hU hh_10.1, ⟨by omega, by omega, by omega⟩⟩⟩ rfl rfl hl.1 rfl (lv_room (Nat.le_of_ble_eq_true rfl)) dX4_areUnits_46 ⟨Nat.zero_le _, Nat.zero_le _⟩) (fun r_14 hr_14 => ?_)
              refine lv_icmp_eq (tgt := 54) hx hb dX4_areUnits_49 (by decide) (fun c_15 => ?_) (fun c_15 => ?_)
              · skip
                have c_15' : z_13.toInt = r_14.toInt := jb_eq (rfl) (rfl) c_15
                obtain ⟨z_16, ez_16⟩ : ∃ y : Int32, y = v4_10 + 1 := ⟨_, rfl⟩
                refine lv_iinc (v := z_16) (lv' := [(4, .int z_16), (0, .ref r0), (1, .int a1), (2, .int a2), (3, .ref r3)]) hx hb dX4_areUnits_54 hl (k := 4) rfl (by rw [ez_16]; rfl) (by decide) rfl (fun ls hl => ?_)
                have hz_16 : z_16.toInt = v4_10.toInt + 1 := by rw [ez_16]; exact jb_iadd2 (rfl) (by decide) (by omega)
                refine lv_goto (tgt := 28) hx hb dX4_areUnits_57 (by decide) ?_
                exact L28 z_16 _ _ hh_10 (by first | omega | rfl | assumption | decide | exact Or.inl rfl | exact Or.inr rfl | (simp only; omega)) (by omega) _ (lv_sub hl [1, 2, 3, 4, 0] rfl)
              · skip
                have c_15' : z_13.toInt ≠ r_14.toInt := jb_eq_n (rfl) (rfl) c_15
                refine lv_iconst (v := 0) hx hb dX4_areUnits_52 (by decide) ?_
                rw [hQ]
                exact W.zret (v := 0) hx hb hr (jb_nz (Or.inl rfl)) (fun t ht hW => ⟨⟨0, (), rfl, ⟨(Or.inl rfl), trivial⟩, hh_10.rt (M1 := []) [] rfl ht⟩, by rw [ht]; try exact hh_10.1.1, fun q h9 hq => by rw [ht]; try exact hh_10.1.2.1 q h9 hq⟩) hh_10.1.2.2 dX4_areUnits_53
        exact L28 (((a2.toInt - (0 : Int32).toInt).toNat : Int) : Int).toNat.succ 0 _ _ hh_6 (by first | omega | rfl | assumption | decide | exact Or.inl rfl | exact Or.inr rfl | (simp only; omega)) (by omega) _ (lv_sub hl [1, 2, 3, 4, 0] rfl)
      · skip
        have c_9' : z_4.toInt > z_8.toInt := jb_le_n (rfl) (rfl) c_9
        refine lv_iconst (v := 0) hx hb dX4_areUnits_23 (by decide) ?_
        rw [hQ]
        exact W.zret (v := 0) hx hb hr (jb_nz (Or.inl rfl)) (fun t ht hW => ⟨⟨0, (), rfl, ⟨(Or.inl rfl), trivial⟩, hh_6.rt (M1 := []) [] rfl ht⟩, by rw [ht]; try exact hh_6.1.1, fun q h9 hq => by rw [ht]; try exact hh_6.1.2.1 q h9 hq⟩) hh_6.1.2.2 dX4_areUnits_24
set_option maxHeartbeats 4000000 in
set_option maxRecDepth 20000 in
theorem uX4_member (l : Launch) (dC : Nat → ClassId) (dI : Nat → Nat → Nat) (ca : Nat → ClassId) (base : Nat) (B : jF) (hB : jBok B) (hAp : jAp (dC, dI)) (hB6 : ∀ n G a H, B 6 n G a H ↔ jOb (dC, dI) 6 12 (F6 n G) a H) (hB140 : ∀ n G a H, B 140 n G a H ↔ jAr (dC, dI) (ca 1) (fun j z => True) n a H) (hB141 : ∀ n G a H, B 141 n G a H ↔ jAr (dC, dI) (ca 1) (fun j z => True) n a H) (hB142 : ∀ n G a H, B 142 n G a H ↔ jAr (dC, dI) (ca 1) (fun j z => True) n a H) (hB143 : ∀ n G a H, B 143 n G a H ↔ jAr (dC, dI) (ca 1) (fun j z => True) n a H) (hB144 : ∀ n G a H, B 144 n G a H ↔ jAr (dC, dI) (ca 1) (fun j z => 0 ≤ z.toInt ∧ z.toInt ≤ 3000) n a H) (hB145 : ∀ n G a H, B 145 n G a H ↔ jAr (dC, dI) (ca 1) (fun j z => True) n a H) (hB146 : ∀ n G a H, B 146 n G a H ↔ jAr (dC, dI) (ca 1) (fun j z => True) n a H) (G0 : jT) (H0 : Heap) (r0 : Nat) (a1 : Int32) (r2 : Nat) (n2 : Nat) : Met l yX4_member (jw yX4_member cX4_member 6 (some .int)) ({ frames := 5, cells := 0, slots := 0, locals := 165 }) (va_Pc [.ref r0, .int a1, .ref r2] (fun U => U.heap = H0 ∧ jX B base G0 [] H0 ∧ jG dC dI ca base U ∧ jStr base r2 n2 U H0 ∧ G0 r0 = some (6, 0) ∧ jP (dC, dI) G0 H0 [] ∧ n2 ≤ 1000)) (va_Qi (S := Unit) (fun r u => (-1 ≤ r.toInt ∧ r.toInt ≤ 1501)) (fun u t => jRt (dC, dI) B base G0 EX4_member H0 [] t.heap) (jA base)) 0 0 (jA base) := by
  refine Met.ofW (cc := cX4_member) (maxL := 6) (ret := (some .int)) (by decide) rfl ?_
  intro p e s m args below meth c s₁ Bd hml hv
  obtain ⟨rfl, hH0, hX, hG, hstr_r2, hg_r0, hP0, hp0⟩ := hv
  have hK := hG.1
  have hx := Bd.exec
  have hb := Bd.bytes
  have hr := Bd.returns
  have hts := atoms_spec (ws := (jw yX4_member cX4_member 6 (some .int))) Bd.pre
  have htw : ∀ w ∈ jWl, w.before _ s = true := fun w h => hts w (List.mem_cons_of_mem _ h)
  have hown : s.vm.findClass RX4 = some m.cls := findClass_of_methodNamed Bd.named
  have hlocks := Bd.notSynchronized
  obtain ⟨Q, hQ⟩ : ∃ Q, Q = MQ below (va_Qi (S := Unit) (fun r u => (-1 ≤ r.toInt ∧ r.toInt ≤ 1501)) (fun u t => jRt (dC, dI) B base G0 EX4_member H0 [] t.heap) (jA base)) ([.ref r0, .int a1, .ref r2] : List Value).toArray s 0 0 (jA base) := ⟨_, rfl⟩
  rw [← hQ]
  have hl := lv_entry ([.ref r0, .int a1, .ref r2]) (n := 6) (Nat.le_of_ble_eq_true rfl)
  rw [lg_entry_eq]
  generalize (lg_sl ([.ref r0, .int a1, .ref r2]) ++ List.replicate (6 - (lg_sl ([.ref r0, .int a1, .ref r2])).length) Slot.unset).toArray = ls at hl ⊢
  have hl : lv_has ls 6 [(0, .ref r0), (1, .int a1), (2, .ref r2)] := hl
  generalize hR : (headSpec (jw yX4_member cX4_member 6 (some .int)) ({ frames := 5, cells := 0, slots := 0, locals := 165 })).room = R
  subst hH0
  have hh : jSt (dC, dI) B base G0 G0 EX4_member s.heap 0 0 [] [] [] s.heap [] := jSt.start hX hP0 jMc.nil jIs.nil
  clear hX hP0
  have hkm1 : ((-1) : Int32).toInt = (-1) := by decide
  have hk0 : (0 : Int32).toInt = 0 := by decide
  have hk1 : (1 : Int32).toInt = 1 := by decide
  have hly_6_1 := htw (u_lay RX4 TX4 1) (jWc_wsX40 _ (u_in_lay (by decide)))
  have hly_6_2 := htw (u_lay RX4 TX4 2) (jWc_wsX40 _ (u_in_lay (by decide)))
  have hly_6_3 := htw (u_lay RX4 TX4 3) (jWc_wsX40 _ (u_in_lay (by decide)))
  have hly_6_4 := htw (u_lay RX4 TX4 4) (jWc_wsX40 _ (u_in_lay (by decide)))
  have hly_6_5 := htw (u_lay RX4 TX4 5) (jWc_wsX40 _ (u_in_lay (by decide)))
  have hly_6_7 := htw (u_lay RX4 TX4 7) (jWc_wsX40 _ (u_in_lay (by decide)))
  have hlk_15 := (htw (.fieldLink RX4 15 "ProofServer$Json" "firsts" "[I") (jWr_3 _ (List.mem_of_getElem? (i := 22) rfl)))
  have hlk_18 := (htw (.fieldLink RX4 18 "ProofServer$Json" "sizes" "[I") (jWr_3 _ (List.mem_of_getElem? (i := 23) rfl)))
  have hlk_50 := (htw (.fieldLink RX4 50 "ProofServer$Json" "values" "I") (jWr_19 _ (List.mem_of_getElem? (i := 13) rfl)))
  have hlk_24 := (htw (.fieldLink RX4 24 "ProofServer$Json" "keyFirsts" "[I") (jWr_4 _ (List.mem_of_getElem? (i := 1) rfl)))
  have hlk_27 := (htw (.fieldLink RX4 27 "ProofServer$Json" "keySizes" "[I") (jWr_4 _ (List.mem_of_getElem? (i := 2) rfl)))
  have hlk_21 := (htw (.fieldLink RX4 21 "ProofServer$Json" "nexts" "[I") (jWr_4 _ (List.mem_of_getElem? (i := 0) rfl)))
  have hrg_a1 := jb_rng a1
  refine lv_aload_n hx hb dX4_member_0 rfl (lv_at hl 0 rfl) ?_
  refine lv_iload_n hx hb dX4_member_1 rfl (lv_at hl 1 rfl) ?_
  obtain ⟨v_3, hv_3, hh_4⟩ := hh.pin (C := RX4) (T := TX4) (N := 12) hB6 rfl (by decide) hg_r0 (i := 7) (by decide) rfl
  obtain ⟨values_5, rfl, hlovalues_5, hhivalues_5⟩ := hv_3
  refine va_calli (A0 := jA base) (H0 := s.heap) (va_runV (As := [.int a1]) (rest := []) ⟨hx, hb, hml, hown, hts⟩ (uX4_kindOf l dC dI ca base B hB hAp hB6 hB140 G0 s.heap r0 a1 values_5) (cwV 1 hts (jgV (jWr_23 _ (List.mem_of_getElem? (i := 14) rfl)) (jWr_23 _ (List.mem_of_getElem? (i := 15) rfl)) (jWr_23 _ (List.mem_of_getElem? (i := 16) rfl)) (jWr_1 _ (List.mem_of_getElem? (i := 22) rfl)) (jWr_23 _ (List.mem_of_getElem? (i := 17) rfl))) rfl rfl rfl (by decide +kernel) ⟨by rw [← hR]; exact Nat.le_of_ble_eq_true rfl, by rw [← hR]; exact Nat.le_of_ble_eq_true rfl⟩) ⟨fun a U g mk q => by obtain ⟨q0, q1, q2, qK, q10, q11, q12⟩ := q; exact ⟨q0, q1, q2, jG.calling g mk a qK, q10, q11, q12⟩, hh_4.recv (C := RX4) (T := TX4) (N := 12) hB6 rfl (by decide) hg_r0 hK, fun U hU hW => ⟨rfl, hU, hh_4.2.1, hG.step hW hU hh_4.1, hg_r0, (hh_4.2.2.1.sub (L1 := [(r0, 6, 7, .int values_5)]) [0] rfl), by first | omega | (refine ⟨?_, ?_⟩ <;> (first | omega | rfl | assumption | decide | exact Or.inl rfl | exact Or.inr rfl | (simp only; omega)))⟩⟩ rfl rfl hl.1 rfl (lv_room (Nat.le_of_ble_eq_true rfl)) dX4_member_2 ⟨Nat.zero_le _, Nat.zero_le _⟩) hh_4.1 (fun q _ h => h) (fun q h => h) (fun r_2 u_1 t_1 H_1 locs_1 ht_1 hvm_1 hr_2 hb_1 hz_1 hk_1 hS_1 => ?_)
  rw [ht_1] at hb_1
  obtain ⟨hb_11, hb_12, hb_13, hb_14, hb_15⟩ := hb_1
  have hh_1 : jSt (dC, dI) B base G0 G0 EX4_member s.heap 0 0 [(r0, 6, 7, .int values_5)] [] [] H_1 locs_1 := ((hh_4.call hb_11 hb_12 hb_13 hb_14 hS_1 rfl (L1 := [(r0, 6, 7, .int values_5)]) [0] rfl rfl (M1 := []) [] rfl rfl (I1 := []) [] rfl rfl).more hb_15)
  clear hh_4 ht_1 hvm_1 hz_1 hk_1 hS_1 hb_11 hb_12 hb_13 hb_14 hb_15
  refine lv_iconst (v := 1) hx hb dX4_member_5 (by decide) ?_
  refine lv_icmp_eq (tgt := 11) hx hb dX4_member_6 (by decide) (fun c_6 => ?_) (fun c_6 => ?_)
  · skip
    have c_6' : r_2.toInt = 1 := jb_eq (rfl) ((by decide)) c_6
    first | (have hr_2q := hr_2.resolve_left (by omega); clear hr_2) | (have hr_2q := hr_2.resolve_right (by omega); clear hr_2) | try clear hr_2
    refine lv_iconst (v := (-1)) hx hb dX4_member_11 (by decide) ?_
    refine lv_istore_n (lv' := [(3, .int (-1)), (0, .ref r0), (1, .int a1), (2, .ref r2)]) hx hb dX4_member_12 rfl hl (by decide) rfl (fun ls hl => ?_)
    refine lv_aload_n hx hb dX4_member_13 rfl (lv_at hl 1 rfl) ?_
    obtain ⟨v_7, hv_7, hh_8⟩ := hh_1.pin (C := RX4) (T := TX4) (N := 12) hB6 rfl (by decide) hg_r0 (i := 1) (by decide) rfl
    clear hh_1
    obtain ⟨firsts_9, rfl, hg_firsts_9⟩ := hv_7
    refine j7_read hx hb hown hK (C := RX4) (T := TX4) (N := 12) rfl hly_6_1 hlk_15 (hh_8.at 0 rfl) dX4_member_14 ?_
    refine lv_iload_n hx hb dX4_member_17 rfl (lv_at hl 2 rfl) ?_
    refine j7_iald hx hb hK hh_8 hB141 1 rfl (by decide) hg_firsts_9 (x := a1.toInt) (rfl) (by omega) dX4_member_18 (fun z_10 (hz_10 : True) => ?_)
    refine lv_istore (lv' := [(4, .int z_10), (3, .int (-1)), (0, .ref r0), (1, .int a1), (2, .ref r2)]) hx hb dX4_member_19 hl (by decide) rfl (fun ls hl => ?_)
    refine lv_iconst (v := 0) hx hb dX4_member_21 (by decide) ?_
    refine lv_istore (lv' := [(5, .int 0), (4, .int z_10), (3, .int (-1)), (0, .ref r0), (1, .int a1), (2, .ref r2)]) hx hb dX4_member_22 hl (by decide) rfl (fun ls hl => ?_)
    obtain ⟨v_11, hv_11, hh_12⟩ := hh_8.pin (C := RX4) (T := TX4) (N := 12) hB6 rfl (by decide) hg_r0 (i := 2) (by decide) rfl
    obtain ⟨sizes_13, rfl, hg_sizes_13⟩ := hv_11
    obtain ⟨f_sizes_14, hh_14⟩ := hh_12.cpin hB142 (by decide) (by decide) hg_sizes_13
    clear hh_12
    have L24 : ∀ (N : Nat) (v3_15 : Int32) (v4_15 : Int32) (v5_15 : Int32) (H_15 : Heap) (locs_15 : List Loc), jSt (dC, dI) B base G0 G0 EX4_member s.heap 0 0 [(r0, 6, 2, .ref sizes_13), (r0, 6, 1, .ref firsts_9), (r0, 6, 7, .int values_5)] [(sizes_13, 142, 1502, ca 1, f_sizes_14)] [] H_15 locs_15 → (0 ≤ v5_15.toInt ∧ -1 ≤ v3_15.toInt ∧ v3_15.toInt ≤ 1501) → ((((f_sizes_14 (a1.toInt).toNat).toInt - v5_15.toInt).toNat : Int) : Int) < N → ∀ ls : Array Slot, lv_has ls 6 [(0, .ref r0), (1, .int a1), (2, .ref r2), (3, .int v3_15), (4, .int v4_15), (5, .int v5_15)] → W p l e R s m ([.ref r0, .int a1, .ref r2] : List Value).toArray below meth c H_15 locs_15 0 0 Q (F0 m 24 ls []) := by
      intro N
      induction N with
      | zero => intro v3_15 v4_15 v5_15 H_15 locs_15 hh_15  hi_15 hm; exact absurd hm (by omega)
      | succ N L24 =>
        intro v3_15 v4_15 v5_15 H_15 locs_15 hh_15  hi_15 hm_15 ls hl
        obtain ⟨hi_15_0, hi_15_1, hi_15_2⟩ := hi_15
        have hrs := jb_rng (f_sizes_14 (a1.toInt).toNat)
        refine lv_iload hx hb dX4_member_24 (lv_at hl 5 rfl) ?_
        refine lv_aload_n hx hb dX4_member_26 rfl (lv_at hl 0 rfl) ?_
        refine j7_read hx hb hown hK (C := RX4) (T := TX4) (N := 12) rfl hly_6_2 hlk_18 (hh_15.at 0 rfl) dX4_member_27 ?_
        refine lv_iload_n hx hb dX4_member_30 rfl (lv_at hl 1 rfl) ?_
        refine j7_ialdM hx hb hK hh_15 hB142 1 rfl (by decide) hg_sizes_13 (x := a1.toInt) (rfl) (by omega) (j := 0) rfl dX4_member_31 (fun z_16 ez_16 (hz_16 : True) => ?_)
        have hqz_16 : z_16.toInt = (f_sizes_14 (a1.toInt).toNat).toInt := by rw [ez_16]
        refine lv_icmp_ge (tgt := 89) hx hb dX4_member_32 (by decide) (fun c_17 => ?_) (fun c_17 => ?_)
        · skip
          have c_17' : v5_15.toInt ≥ z_16.toInt := jb_ge (rfl) (rfl) c_17
          refine lv_iload_n hx hb dX4_member_89 rfl (lv_at hl 3 rfl) ?_
          rw [hQ]
          exact W.iret (v := v3_15) hx hb hr (fun t ht hW => ⟨⟨v3_15, (), rfl, by first | omega | (refine ⟨?_, ?_⟩ <;> (first | omega | rfl | assumption | decide | exact Or.inl rfl | exact Or.inr rfl | (simp only; omega))), hh_15.rt (M1 := []) [] rfl ht⟩, by rw [ht]; try exact hh_15.1.1, fun q h9 hq => by rw [ht]; try exact hh_15.1.2.1 q h9 hq⟩) hh_15.1.2.2 dX4_member_90
        · skip
          have c_17' : v5_15.toInt < z_16.toInt := jb_ge_n (rfl) (rfl) c_17
          refine lv_iload hx hb dX4_member_35 (lv_at hl 4 rfl) ?_
          refine lv_if_lt (tgt := 89) hx hb dX4_member_37 (by decide) (fun c_18 => ?_) (fun c_18 => ?_)
          · skip
            have c_18' : v4_15.toInt < 0 := jb_lt (rfl) ((by decide)) c_18
            refine lv_iload_n hx hb dX4_member_89 rfl (lv_at hl 3 rfl) ?_
            rw [hQ]
            exact W.iret (v := v3_15) hx hb hr (fun t ht hW => ⟨⟨v3_15, (), rfl, by first | omega | (refine ⟨?_, ?_⟩ <;> (first | omega | rfl | assumption | decide | exact Or.inl rfl | exact Or.inr rfl | (simp only; omega))), hh_15.rt (M1 := []) [] rfl ht⟩, by rw [ht]; try exact hh_15.1.1, fun q h9 hq => by rw [ht]; try exact hh_15.1.2.1 q h9 hq⟩) hh_15.1.2.2 dX4_member_90
          · skip
            have c_18' : v4_15.toInt ≥ 0 := jb_lt_n (rfl) ((by decide)) c_18
            refine lv_iload hx hb dX4_member_40 (lv_at hl 4 rfl) ?_
            refine lv_aload_n hx hb dX4_member_42 rfl (lv_at hl 0 rfl) ?_
            refine j7_read hx hb hown hK (C := RX4) (T := TX4) (N := 12) rfl hly_6_7 hlk_50 (hh_15.at 2 rfl) dX4_member_43 ?_
            refine lv_icmp_ge (tgt := 89) hx hb dX4_member_46 (by decide) (fun c_19 => ?_) (fun c_19 => ?_)
            · skip
              have c_19' : v4_15.toInt ≥ values_5.toInt := jb_ge (rfl) (rfl) c_19
              refine lv_iload_n hx hb dX4_member_89 rfl (lv_at hl 3 rfl) ?_
              rw [hQ]
              exact W.iret (v := v3_15) hx hb hr (fun t ht hW => ⟨⟨v3_15, (), rfl, by first | omega | (refine ⟨?_, ?_⟩ <;> (first | omega | rfl | assumption | decide | exact Or.inl rfl | exact Or.inr rfl | (simp only; omega))), hh_15.rt (M1 := []) [] rfl ht⟩, by rw [ht]; try exact hh_15.1.1, fun q h9 hq => by rw [ht]; try exact hh_15.1.2.1 q h9 hq⟩) hh_15.1.2.2 dX4_member_90
            · skip
              have c_19' : v4_15.toInt < values_5.toInt := jb_ge_n (rfl) (rfl) c_19
              refine lv_aload_n hx hb dX4_member_49 rfl (lv_at hl 0 rfl) ?_
              refine lv_aload_n hx hb dX4_member_50 rfl (lv_at hl 0 rfl) ?_
              obtain ⟨v_20, hv_20, hh_21⟩ := hh_15.pin (C := RX4) (T := TX4) (N := 12) hB6 rfl (by decide) hg_r0 (i := 4) (by decide) rfl
              clear hh_15
              obtain ⟨keyFirsts_22, rfl, hg_keyFirsts_22⟩ := hv_20
              refine j7_read hx hb hown hK (C := RX4) (T := TX4) (N := 12) rfl hly_6_4 hlk_24 (hh_21.at 0 rfl) dX4_member_51 ?_
              refine lv_iload hx hb dX4_member_54 (lv_at hl 4 rfl) ?_
              refine j7_iald hx hb hK hh_21 hB144 1 rfl (by decide) hg_keyFirsts_22 (x := v4_15.toInt) (rfl) (by omega) dX4_member_56 (fun z_23 (hz_23 : 0 ≤ z_23.toInt ∧ z_23.toInt ≤ 3000) => ?_)
              refine lv_aload_n hx hb dX4_member_57 rfl (lv_at hl 0 rfl) ?_
              obtain ⟨v_24, hv_24, hh_25⟩ := hh_21.pin (C := RX4) (T := TX4) (N := 12) hB6 rfl (by decide) hg_r0 (i := 5) (by decide) rfl
              clear hh_21
              obtain ⟨keySizes_26, rfl, hg_keySizes_26⟩ := hv_24
              refine j7_read hx hb hown hK (C := RX4) (T := TX4) (N := 12) rfl hly_6_5 hlk_27 (hh_25.at 0 rfl) dX4_member_58 ?_
              refine lv_iload hx hb dX4_member_61 (lv_at hl 4 rfl) ?_
              refine j7_iald hx hb hK hh_25 hB145 1 rfl (by decide) hg_keySizes_26 (x := v4_15.toInt) (rfl) (by omega) dX4_member_63 (fun z_27 (hz_27 : True) => ?_)
              refine lv_aload_n hx hb dX4_member_64 rfl (lv_at hl 2 rfl) ?_
              refine va_calli (A0 := jA base) (H0 := s.heap) (va_runV (As := [.int z_23, .int z_27, .ref r2]) (rest := []) ⟨hx, hb, hml, hown, hts⟩ (uX4_areUnits l dC dI ca base B hB hAp hB6 hB146 G0 H_15 r0 z_23 z_27 r2 n2) (cwV 3 hts (jgV (jWr_23 _ (List.mem_of_getElem? (i := 18) rfl)) (jWr_23 _ (List.mem_of_getElem? (i := 19) rfl)) (jWr_23 _ (List.mem_of_getElem? (i := 20) rfl)) (jWr_1 _ (List.mem_of_getElem? (i := 22) rfl)) (jWr_23 _ (List.mem_of_getElem? (i := 21) rfl))) rfl rfl rfl (by decide +kernel) ⟨by rw [← hR]; exact Nat.le_of_ble_eq_true rfl, by rw [← hR]; exact Nat.le_of_ble_eq_true rfl⟩) ⟨fun a U g mk q => by obtain ⟨q0, q1, q2, qK, q10, q11, q12, q13⟩ := q; exact ⟨q0, q1, q2, jG.calling g mk a qK, (q10.moved (Vm.Alike.refl U.vm)), q11, q12, q13⟩, hh_25.recv (C := RX4) (T := TX4) (N := 12) hB6 rfl (by decide) hg_r0 hK, fun U hU hW => ⟨rfl, hU, hh_25.2.1, hG.step hW hU hh_25.1, (hstr_r2.moved hW.alike).kept hh_25.1.2.1, hg_r0, jP.nil, by first | omega | (refine ⟨?_, ?_⟩ <;> (first | omega | rfl | assumption | decide | exact Or.inl rfl | exact Or.inr rfl | (simp only; omega)))⟩⟩ rfl rfl hl.1 rfl (lv_room (Nat.le_of_ble_eq_true rfl)) dX4_member_65 ⟨Nat.zero_le _, Nat.zero_le _⟩) hh_25.1 (fun q _ h => h) (fun q h => h) (fun r_29 u_28 t_28 H_28 locs_28 ht_28 hvm_28 hr_29 hb_28 hz_28 hk_28 hS_28 => ?_)
              rw [ht_28] at hb_28
              obtain ⟨hb_281, hb_282, hb_283, hb_284, hb_285⟩ := hb_28
              have hh_28 : jSt (dC, dI) B base G0 G0 EX4_member s.heap 0 0 [(r0, 6, 5, .ref keySizes_26), (r0, 6, 4, .ref keyFirsts_22), (r0, 6, 2, .ref sizes_13), (r0, 6, 1, .ref firsts_9), (r0, 6, 7, .int values_5)] [(sizes_13, 142, 1502, ca 1, f_sizes_14)] [] H_28 locs_28 := ((hh_25.call hb_281 hb_282 hb_283 hb_284 hS_28 rfl (L1 := [(r0, 6, 5, .ref keySizes_26), (r0, 6, 4, .ref keyFirsts_22), (r0, 6, 2, .ref sizes_13), (r0, 6, 1, .ref firsts_9), (r0, 6, 7, .int values_5)]) [0, 1, 2, 3, 4] rfl rfl (M1 := [(sizes_13, 142, 1502, ca 1, f_sizes_14)]) [0] rfl rfl (I1 := []) [] rfl rfl).more hb_285)
              clear hh_25 ht_28 hvm_28 hz_28 hk_28 hS_28 hb_281 hb_282 hb_283 hb_284 hb_285
              obtain ⟨hr_29b, hr_29p⟩ := hr_29
              have hr_29' := jb_01 hr_29b
              refine lv_if_eq (tgt := 74) hx hb dX4_member_68 (by decide) (fun c_30 => ?_) (fun c_30 => ?_)
              · skip
                have c_30' : r_29.toInt = 0 := jb_eq (rfl) ((by decide)) c_30
                refine lv_aload_n hx hb dX4_member_74 rfl (lv_at hl 0 rfl) ?_
                obtain ⟨v_31, hv_31, hh_32⟩ := hh_28.pin (C := RX4) (T := TX4) (N := 12) hB6 rfl (by decide) hg_r0 (i := 3) (by decide) rfl
                clear hh_28
                obtain ⟨nexts_33, rfl, hg_nexts_33⟩ := hv_31
                refine j7_read hx hb hown hK (C := RX4) (T := TX4) (N := 12) rfl hly_6_3 hlk_21 (hh_32.at 0 rfl) dX4_member_75 ?_
                refine lv_iload hx hb dX4_member_78 (lv_at hl 4 rfl) ?_
                refine j7_iald hx hb hK hh_32 hB143 1 rfl (by decide) hg_nexts_33 (x := v4_15.toInt) (rfl) (by omega) dX4_member_80 (fun z_34 (hz_34 : True) => ?_)
                refine lv_istore (lv' := [(4, .int z_34), (0, .ref r0), (1, .int a1), (2, .ref r2), (3, .int v3_15), (5, .int v5_15)]) hx hb dX4_member_81 hl (by decide) rfl (fun ls hl => ?_)
                obtain ⟨z_35, ez_35⟩ : ∃ y : Int32, y = v5_15 + 1 := ⟨_, rfl⟩
                refine lv_iinc (v := z_35) (lv' := [(5, .int z_35), (4, .int z_34), (0, .ref r0), (1, .int a1), (2, .ref r2), (3, .int v3_15)]) hx hb dX4_member_83 hl (k := 5) rfl (by rw [ez_35]; rfl) (by decide) rfl (fun ls hl => ?_)
                have hz_35 : z_35.toInt = v5_15.toInt + 1 := by rw [ez_35]; exact jb_iadd2 (rfl) (by decide) (by omega)
                refine lv_goto (tgt := 24) hx hb dX4_member_86 (by decide) ?_
                exact L24 v3_15 z_34 z_35 _ _ (hh_32.sub (L1 := [(r0, 6, 2, .ref sizes_13), (r0, 6, 1, .ref firsts_9), (r0, 6, 7, .int values_5)]) [3, 4, 5] rfl (M1 := [(sizes_13, 142, 1502, ca 1, f_sizes_14)]) [0] rfl (I1 := []) [] rfl) (by first | omega | (refine ⟨?_, ?_, ?_⟩ <;> (first | omega | rfl | assumption | decide | exact Or.inl rfl | exact Or.inr rfl | (simp only; omega)))) (by omega) _ (lv_sub hl [2, 3, 4, 5, 1, 0] rfl)
              · skip
                have c_30' : r_29.toInt ≠ 0 := jb_eq_n (rfl) ((by decide)) c_30
                refine lv_iload hx hb dX4_member_71 (lv_at hl 4 rfl) ?_
                refine lv_istore_n (lv' := [(3, .int v4_15), (0, .ref r0), (1, .int a1), (2, .ref r2), (4, .int v4_15), (5, .int v5_15)]) hx hb dX4_member_73 rfl hl (by decide) rfl (fun ls hl => ?_)
                refine lv_aload_n hx hb dX4_member_74 rfl (lv_at hl 1 rfl) ?_
                obtain ⟨v_36, hv_36, hh_37⟩ := hh_28.pin (C := RX4) (T := TX4) (N := 12) hB6 rfl (by decide) hg_r0 (i := 3) (by decide) rfl
                clear hh_28
                obtain ⟨nexts_38, rfl, hg_nexts_38⟩ := hv_36
                refine j7_read hx hb hown hK (C := RX4) (T := TX4) (N := 12) rfl hly_6_3 hlk_21 (hh_37.at 0 rfl) dX4_member_75 ?_
                refine lv_iload hx hb dX4_member_78 (lv_at hl 4 rfl) ?_
                refine j7_iald hx hb hK hh_37 hB143 1 rfl (by decide) hg_nexts_38 (x := v4_15.toInt) (rfl) (by omega) dX4_member_80 (fun z_39 (hz_39 : True) => ?_)
                refine lv_istore (lv' := [(4, .int z_39), (3, .int v4_15), (0, .ref r0), (1, .int a1), (2, .ref r2), (5, .int v5_15)]) hx hb dX4_member_81 hl (by decide) rfl (fun ls hl => ?_)
                obtain ⟨z_40, ez_40⟩ : ∃ y : Int32, y = v5_15 + 1 := ⟨_, rfl⟩
                refine lv_iinc (v := z_40) (lv' := [(5, .int z_40), (4, .int z_39), (3, .int v4_15), (0, .ref r0), (1, .int a1), (2, .ref r2)]) hx hb dX4_member_83 hl (k := 5) rfl (by rw [ez_40]; rfl) (by decide) rfl (fun ls hl => ?_)
                have hz_40 : z_40.toInt = v5_15.toInt + 1 := by rw [ez_40]; exact jb_iadd2 (rfl) (by decide) (by omega)
                refine lv_goto (tgt := 24) hx hb dX4_member_86 (by decide) ?_
                exact L24 v4_15 z_39 z_40 _ _ (hh_37.sub (L1 := [(r0, 6, 2, .ref sizes_13), (r0, 6, 1, .ref firsts_9), (r0, 6, 7, .int values_5)]) [3, 4, 5] rfl (M1 := [(sizes_13, 142, 1502, ca 1, f_sizes_14)]) [0] rfl (I1 := []) [] rfl) (by first | omega | (refine ⟨?_, ?_, ?_⟩ <;> (first | omega | rfl | assumption | decide | exact Or.inl rfl | exact Or.inr rfl | (simp only; omega)))) (by omega) _ (lv_sub hl [3, 4, 5, 2, 1, 0] rfl)
    exact L24 ((((f_sizes_14 (a1.toInt).toNat).toInt - (0 : Int32).toInt).toNat : Int) : Int).toNat.succ (-1) z_10 0 _ _ hh_14 (by first | omega | (refine ⟨?_, ?_, ?_⟩ <;> (first | omega | rfl | assumption | decide | exact Or.inl rfl | exact Or.inr rfl | (simp only; omega)))) (by omega) _ (lv_sub hl [3, 4, 5, 2, 1, 0] rfl)
  · skip
    have c_6' : r_2.toInt ≠ 1 := jb_eq_n (rfl) ((by decide)) c_6
    try clear hr_2
    refine lv_iconst (v := (-1)) hx hb dX4_member_9 (by decide) ?_
    rw [hQ]
    exact W.iret (v := (-1)) hx hb hr (fun t ht hW => ⟨⟨(-1), (), rfl, by first | omega | (refine ⟨?_, ?_⟩ <;> (first | omega | rfl | assumption | decide | exact Or.inl rfl | exact Or.inr rfl | (simp only; omega))), hh_1.rt (M1 := []) [] rfl ht⟩, by rw [ht]; try exact hh_1.1.1, fun q h9 hq => by rw [ht]; try exact hh_1.1.2.1 q h9 hq⟩) hh_1.1.2.2 dX4_member_10
end
section
theorem dX1_placeOf_0 : decode cX1_placeOf 0 = .ok (.iload_n 1, 1) := by decide +kernel
theorem dX1_placeOf_1 : decode cX1_placeOf 1 = .ok (.ifCond .lt 7, 3) := by decide +kernel
theorem dX1_placeOf_4 : decode cX1_placeOf 4 = .ok (.iload_n 2, 1) := by decide +kernel
theorem dX1_placeOf_5 : decode cX1_placeOf 5 = .ok (.ifCond .ge 5, 3) := by decide +kernel
theorem dX1_placeOf_8 : decode cX1_placeOf 8 = .ok (.iconst (-1), 1) := by decide +kernel
theorem dX1_placeOf_9 : decode cX1_placeOf 9 = .ok (.ireturn, 1) := by decide +kernel
theorem dX1_placeOf_10 : decode cX1_placeOf 10 = .ok (.iconst 0, 1) := by decide +kernel
theorem dX1_placeOf_11 : decode cX1_placeOf 11 = .ok (.istore_n 3, 1) := by decide +kernel
theorem dX1_placeOf_12 : decode cX1_placeOf 12 = .ok (.iconst 0, 1) := by decide +kernel
theorem dX1_placeOf_13 : decode cX1_placeOf 13 = .ok (.istore 4, 2) := by decide +kernel
theorem dX1_placeOf_15 : decode cX1_placeOf 15 = .ok (.iload_n 3, 1) := by decide +kernel
theorem dX1_placeOf_16 : decode cX1_placeOf 16 = .ok (.aload_n 0, 1) := by decide +kernel
theorem dX1_placeOf_17 : decode cX1_placeOf 17 = .ok (.getfield 42, 3) := by decide +kernel
theorem dX1_placeOf_20 : decode cX1_placeOf 20 = .ok (.if_icmp .ge 26, 3) := by decide +kernel
theorem dX1_placeOf_23 : decode cX1_placeOf 23 = .ok (.iload 4, 2) := by decide +kernel
theorem dX1_placeOf_25 : decode cX1_placeOf 25 = .ok (.iload_n 1, 1) := by decide +kernel
theorem dX1_placeOf_26 : decode cX1_placeOf 26 = .ok (.if_icmp .ge 20, 3) := by decide +kernel
theorem dX1_placeOf_29 : decode cX1_placeOf 29 = .ok (.aload_n 0, 1) := by decide +kernel
theorem dX1_placeOf_30 : decode cX1_placeOf 30 = .ok (.iload_n 3, 1) := by decide +kernel
theorem dX1_placeOf_31 : decode cX1_placeOf 31 = .ok (.invokevirtual 108, 3) := by decide +kernel
theorem dX1_placeOf_34 : decode cX1_placeOf 34 = .ok (.ifCond .eq 6, 3) := by decide +kernel
theorem dX1_placeOf_37 : decode cX1_placeOf 37 = .ok (.iinc 4 1, 3) := by decide +kernel
theorem dX1_placeOf_40 : decode cX1_placeOf 40 = .ok (.iinc 3 1, 3) := by decide +kernel
theorem dX1_placeOf_43 : decode cX1_placeOf 43 = .ok (.goto (-28), 3) := by decide +kernel
theorem dX1_placeOf_46 : decode cX1_placeOf 46 = .ok (.iload 4, 2) := by decide +kernel
theorem dX1_placeOf_48 : decode cX1_placeOf 48 = .ok (.iload_n 1, 1) := by decide +kernel
theorem dX1_placeOf_49 : decode cX1_placeOf 49 = .ok (.if_icmp .ge 5, 3) := by decide +kernel
theorem dX1_placeOf_52 : decode cX1_placeOf 52 = .ok (.iconst (-1), 1) := by decide +kernel
theorem dX1_placeOf_53 : decode cX1_placeOf 53 = .ok (.ireturn, 1) := by decide +kernel
theorem dX1_placeOf_54 : decode cX1_placeOf 54 = .ok (.iload_n 3, 1) := by decide +kernel
theorem dX1_placeOf_55 : decode cX1_placeOf 55 = .ok (.istore 5, 2) := by decide +kernel
theorem dX1_placeOf_57 : decode cX1_placeOf 57 = .ok (.iload_n 3, 1) := by decide +kernel
theorem dX1_placeOf_58 : decode cX1_placeOf 58 = .ok (.aload_n 0, 1) := by decide +kernel
theorem dX1_placeOf_59 : decode cX1_placeOf 59 = .ok (.getfield 42, 3) := by decide +kernel
theorem dX1_placeOf_62 : decode cX1_placeOf 62 = .ok (.if_icmp .ge 39, 3) := by decide +kernel
theorem dX1_placeOf_65 : decode cX1_placeOf 65 = .ok (.iload_n 3, 1) := by decide +kernel
theorem dX1_placeOf_66 : decode cX1_placeOf 66 = .ok (.iload 5, 2) := by decide +kernel
theorem dX1_placeOf_68 : decode cX1_placeOf 68 = .ok (.isub, 1) := by decide +kernel
theorem dX1_placeOf_69 : decode cX1_placeOf 69 = .ok (.iload_n 2, 1) := by decide +kernel
theorem dX1_placeOf_70 : decode cX1_placeOf 70 = .ok (.if_icmp .ge 31, 3) := by decide +kernel
theorem dX1_placeOf_73 : decode cX1_placeOf 73 = .ok (.aload_n 0, 1) := by decide +kernel
theorem dX1_placeOf_74 : decode cX1_placeOf 74 = .ok (.getfield 15, 3) := by decide +kernel
theorem dX1_placeOf_77 : decode cX1_placeOf 77 = .ok (.iload_n 3, 1) := by decide +kernel
theorem dX1_placeOf_78 : decode cX1_placeOf 78 = .ok (.iaload, 1) := by decide +kernel
theorem dX1_placeOf_79 : decode cX1_placeOf 79 = .ok (.bipush 10, 2) := by decide +kernel
theorem dX1_placeOf_81 : decode cX1_placeOf 81 = .ok (.if_icmp .eq 20, 3) := by decide +kernel
theorem dX1_placeOf_84 : decode cX1_placeOf 84 = .ok (.aload_n 0, 1) := by decide +kernel
theorem dX1_placeOf_85 : decode cX1_placeOf 85 = .ok (.getfield 15, 3) := by decide +kernel
theorem dX1_placeOf_88 : decode cX1_placeOf 88 = .ok (.iload_n 3, 1) := by decide +kernel
theorem dX1_placeOf_89 : decode cX1_placeOf 89 = .ok (.iaload, 1) := by decide +kernel
theorem dX1_placeOf_90 : decode cX1_placeOf 90 = .ok (.bipush 13, 2) := by decide +kernel
theorem dX1_placeOf_92 : decode cX1_placeOf 92 = .ok (.if_icmp .eq 9, 3) := by decide +kernel
theorem dX1_placeOf_95 : decode cX1_placeOf 95 = .ok (.iinc 3 1, 3) := by decide +kernel
theorem dX1_placeOf_98 : decode cX1_placeOf 98 = .ok (.goto (-41), 3) := by decide +kernel
theorem dX1_placeOf_101 : decode cX1_placeOf 101 = .ok (.iload_n 3, 1) := by decide +kernel
theorem dX1_placeOf_102 : decode cX1_placeOf 102 = .ok (.ireturn, 1) := by decide +kernel
def EX1_placeOf : List (Nat × Nat) := []
set_option maxHeartbeats 4000000 in
set_option maxRecDepth 20000 in
theorem uX1_placeOf (l : Launch) (dC : Nat → ClassId) (dI : Nat → Nat → Nat) (ca : Nat → ClassId) (base : Nat) (B : jF) (hB : jBok B) (hAp : jAp (dC, dI)) (hB3 : ∀ n G a H, B 3 n G a H ↔ jOb (dC, dI) 3 17 (F3 n G) a H) (hB101 : ∀ n G a H, B 101 n G a H ↔ jAr (dC, dI) (ca 1) (fun j z => True) n a H) (G0 : jT) (H0 : Heap) (r0 : Nat) (a1 : Int32) (a2 : Int32) (n0 : Nat) : Met l yX1_placeOf (jw yX1_placeOf cX1_placeOf 6 (some .int)) ({ frames := 1, cells := 0, slots := 0, locals := 22 }) (va_Pc [.ref r0, .int a1, .int a2] (fun U => U.heap = H0 ∧ jX B base G0 [] H0 ∧ jG dC dI ca base U ∧ G0 r0 = some (3, n0) ∧ jP (dC, dI) G0 H0 [] ∧ True)) (va_Qi (S := Unit) (fun r u => (-1 ≤ r.toInt ∧ r.toInt ≤ 1500)) (fun u t => jRt (dC, dI) B base G0 EX1_placeOf H0 [] t.heap) (jA base)) 0 0 (jA base) := by
  refine Met.ofW (cc := cX1_placeOf) (maxL := 6) (ret := (some .int)) (by decide) rfl ?_
  intro p e s m args below meth c s₁ Bd hml hv
  obtain ⟨rfl, hH0, hX, hG, hg_r0, hP0, hp0⟩ := hv
  have hK := hG.1
  have hx := Bd.exec
  have hb := Bd.bytes
  have hr := Bd.returns
  have hts := atoms_spec (ws := (jw yX1_placeOf cX1_placeOf 6 (some .int))) Bd.pre
  have htw : ∀ w ∈ jWl, w.before _ s = true := fun w h => hts w (List.mem_cons_of_mem _ h)
  have hown : s.vm.findClass RX1 = some m.cls := findClass_of_methodNamed Bd.named
  have hlocks := Bd.notSynchronized
  obtain ⟨Q, hQ⟩ : ∃ Q, Q = MQ below (va_Qi (S := Unit) (fun r u => (-1 ≤ r.toInt ∧ r.toInt ≤ 1500)) (fun u t => jRt (dC, dI) B base G0 EX1_placeOf H0 [] t.heap) (jA base)) ([.ref r0, .int a1, .int a2] : List Value).toArray s 0 0 (jA base) := ⟨_, rfl⟩
  rw [← hQ]
  have hl := lv_entry ([.ref r0, .int a1, .int a2]) (n := 6) (Nat.le_of_ble_eq_true rfl)
  rw [lg_entry_eq]
  generalize (lg_sl ([.ref r0, .int a1, .int a2]) ++ List.replicate (6 - (lg_sl ([.ref r0, .int a1, .int a2])).length) Slot.unset).toArray = ls at hl ⊢
  have hl : lv_has ls 6 [(0, .ref r0), (1, .int a1), (2, .int a2)] := hl
  generalize hR : (headSpec (jw yX1_placeOf cX1_placeOf 6 (some .int)) ({ frames := 1, cells := 0, slots := 0, locals := 22 })).room = R
  subst hH0
  have hh : jSt (dC, dI) B base G0 G0 EX1_placeOf s.heap 0 0 [] [] [] s.heap [] := jSt.start hX hP0 jMc.nil jIs.nil
  clear hX hP0
  have hkm1 : ((-1) : Int32).toInt = (-1) := by decide
  have hk0 : (0 : Int32).toInt = 0 := by decide
  have hk1 : (1 : Int32).toInt = 1 := by decide
  have hk10 : (10 : Int32).toInt = 10 := by decide
  have hk13 : (13 : Int32).toInt = 13 := by decide
  have hly_3_2 := htw (u_lay RX1 TX1 2) (jWc_wsX10 _ (u_in_lay (by decide)))
  have hly_3_3 := htw (u_lay RX1 TX1 3) (jWc_wsX10 _ (u_in_lay (by decide)))
  have hlk_42 := (htw (.fieldLink RX1 42 "ProofServer$Document" "length" "I") (jWr_29 _ (List.mem_of_getElem? (i := 5) rfl)))
  have hlk_15 := (htw (.fieldLink RX1 15 "ProofServer$Document" "text" "[I") (jWr_10 _ (List.mem_of_getElem? (i := 6) rfl)))
  have hrg_a1 := jb_rng a1
  have hrg_a2 := jb_rng a2
  refine lv_iload_n hx hb dX1_placeOf_0 rfl (lv_at hl 1 rfl) ?_
  refine lv_if_lt (tgt := 8) hx hb dX1_placeOf_1 (by decide) (fun c_1 => ?_) (fun c_1 => ?_)
  · skip
    have c_1' : a1.toInt < 0 := jb_lt (rfl) ((by decide)) c_1
    refine lv_iconst (v := (-1)) hx hb dX1_placeOf_8 (by decide) ?_
    rw [hQ]
    exact W.iret (v := (-1)) hx hb hr (fun t ht hW => ⟨⟨(-1), (), rfl, by first | omega | (refine ⟨?_, ?_⟩ <;> (first | omega | rfl | assumption | decide | exact Or.inl rfl | exact Or.inr rfl | (simp only; omega))), hh.rt (M1 := []) [] rfl ht⟩, by rw [ht]; try exact hh.1.1, fun q h9 hq => by rw [ht]; try exact hh.1.2.1 q h9 hq⟩) hh.1.2.2 dX1_placeOf_9
  · skip
    have c_1' : a1.toInt ≥ 0 := jb_lt_n (rfl) ((by decide)) c_1
    refine lv_iload_n hx hb dX1_placeOf_4 rfl (lv_at hl 2 rfl) ?_
    refine lv_if_ge (tgt := 10) hx hb dX1_placeOf_5 (by decide) (fun c_2 => ?_) (fun c_2 => ?_)
    · skip
      have c_2' : a2.toInt ≥ 0 := jb_ge (rfl) ((by decide)) c_2
      refine lv_iconst (v := 0) hx hb dX1_placeOf_10 (by decide) ?_
      refine lv_istore_n (lv' := [(3, .int 0), (0, .ref r0), (1, .int a1), (2, .int a2)]) hx hb dX1_placeOf_11 rfl hl (by decide) rfl (fun ls hl => ?_)
      refine lv_iconst (v := 0) hx hb dX1_placeOf_12 (by decide) ?_
      refine lv_istore (lv' := [(4, .int 0), (3, .int 0), (0, .ref r0), (1, .int a1), (2, .int a2)]) hx hb dX1_placeOf_13 hl (by decide) rfl (fun ls hl => ?_)
      obtain ⟨v_3, hv_3, hh_4⟩ := hh.pin (C := RX1) (T := TX1) (N := 17) hB3 rfl (by decide) hg_r0 (i := 3) (by decide) rfl
      obtain ⟨length_5, rfl, hlolength_5, hhilength_5⟩ := hv_3
      have L15 : ∀ (N : Nat) (v3_6 : Int32) (v4_6 : Int32) (H_6 : Heap) (locs_6 : List Loc), jSt (dC, dI) B base G0 G0 EX1_placeOf s.heap 0 0 [(r0, 3, 3, .int length_5)] [] [] H_6 locs_6 → (0 ≤ v3_6.toInt ∧ v3_6.toInt ≤ length_5.toInt ∧ 0 ≤ v4_6.toInt ∧ v4_6.toInt ≤ v3_6.toInt) → (length_5.toInt - v3_6.toInt : Int) < N → ∀ ls : Array Slot, lv_has ls 6 [(0, .ref r0), (1, .int a1), (2, .int a2), (3, .int v3_6), (4, .int v4_6)] → W p l e R s m ([.ref r0, .int a1, .int a2] : List Value).toArray below meth c H_6 locs_6 0 0 Q (F0 m 15 ls []) := by
        intro N
        induction N with
        | zero => intro v3_6 v4_6 H_6 locs_6 hh_6  hi_6 hm; exact absurd hm (by omega)
        | succ N L15 =>
          intro v3_6 v4_6 H_6 locs_6 hh_6  hi_6 hm_6 ls hl
          obtain ⟨hi_6_0, hi_6_1, hi_6_2, hi_6_3⟩ := hi_6
          refine lv_iload_n hx hb dX1_placeOf_15 rfl (lv_at hl 3 rfl) ?_
          refine lv_aload_n hx hb dX1_placeOf_16 rfl (lv_at hl 0 rfl) ?_
          refine j7_read hx hb hown hK (C := RX1) (T := TX1) (N := 17) rfl hly_3_3 hlk_42 (hh_6.at 0 rfl) dX1_placeOf_17 ?_
          have C46 : ∀ (v3_7 : Int32) (v4_7 : Int32) (H_7 : Heap) (locs_7 : List Loc), jSt (dC, dI) B base G0 G0 EX1_placeOf s.heap 0 0 [(r0, 3, 3, .int length_5)] [] [] H_7 locs_7 → (0 ≤ v3_7.toInt ∧ v3_7.toInt ≤ length_5.toInt ∧ 0 ≤ v4_7.toInt) → ∀ ls : Array Slot, lv_has ls 6 [(0, .ref r0), (1, .int a1), (2, .int a2), (3, .int v3_7), (4, .int v4_7)] → W p l e R s m ([.ref r0, .int a1, .int a2] : List Value).toArray below meth c H_7 locs_7 0 0 Q (F0 m 46 ls []) := by
            intro v3_7 v4_7 H_7 locs_7 hh_7  hi_7 ls hl
            obtain ⟨hi_7_0, hi_7_1, hi_7_2⟩ := hi_7
            refine lv_iload hx hb dX1_placeOf_46 (lv_at hl 4 rfl) ?_
            refine lv_iload_n hx hb dX1_placeOf_48 rfl (lv_at hl 1 rfl) ?_
            refine lv_icmp_ge (tgt := 54) hx hb dX1_placeOf_49 (by decide) (fun c_8 => ?_) (fun c_8 => ?_)
            · skip
              have c_8' : v4_7.toInt ≥ a1.toInt := jb_ge (rfl) (rfl) c_8
              refine lv_iload_n hx hb dX1_placeOf_54 rfl (lv_at hl 3 rfl) ?_
              refine lv_istore (lv' := [(5, .int v3_7), (0, .ref r0), (1, .int a1), (2, .int a2), (3, .int v3_7), (4, .int v4_7)]) hx hb dX1_placeOf_55 hl (by decide) rfl (fun ls hl => ?_)
              have L57 : ∀ (N : Nat) (v3_9 : Int32) (H_9 : Heap) (locs_9 : List Loc), jSt (dC, dI) B base G0 G0 EX1_placeOf s.heap 0 0 [(r0, 3, 3, .int length_5)] [] [] H_9 locs_9 → (v3_7.toInt ≤ v3_9.toInt ∧ v3_9.toInt ≤ length_5.toInt) → (length_5.toInt - v3_9.toInt : Int) < N → ∀ ls : Array Slot, lv_has ls 6 [(0, .ref r0), (1, .int a1), (2, .int a2), (3, .int v3_9), (4, .int v4_7), (5, .int v3_7)] → W p l e R s m ([.ref r0, .int a1, .int a2] : List Value).toArray below meth c H_9 locs_9 0 0 Q (F0 m 57 ls []) := by
                intro N
                induction N with
                | zero => intro v3_9 H_9 locs_9 hh_9  hi_9 hm; exact absurd hm (by omega)
                | succ N L57 =>
                  intro v3_9 H_9 locs_9 hh_9  hi_9 hm_9 ls hl
                  obtain ⟨hi_9_0, hi_9_1⟩ := hi_9
                  refine lv_iload_n hx hb dX1_placeOf_57 rfl (lv_at hl 3 rfl) ?_
                  refine lv_aload_n hx hb dX1_placeOf_58 rfl (lv_at hl 0 rfl) ?_
                  refine j7_read hx hb hown hK (C := RX1) (T := TX1) (N := 17) rfl hly_3_3 hlk_42 (hh_9.at 0 rfl) dX1_placeOf_59 ?_
                  refine lv_icmp_ge (tgt := 101) hx hb dX1_placeOf_62 (by decide) (fun c_10 => ?_) (fun c_10 => ?_)
                  · skip
                    have c_10' : v3_9.toInt ≥ length_5.toInt := jb_ge (rfl) (rfl) c_10
                    refine lv_iload_n hx hb dX1_placeOf_101 rfl (lv_at hl 3 rfl) ?_
                    rw [hQ]
                    exact W.iret (v := v3_9) hx hb hr (fun t ht hW => ⟨⟨v3_9, (), rfl, by first | omega | (refine ⟨?_, ?_⟩ <;> (first | omega | rfl | assumption | decide | exact Or.inl rfl | exact Or.inr rfl | (simp only; omega))), hh_9.rt (M1 := []) [] rfl ht⟩, by rw [ht]; try exact hh_9.1.1, fun q h9 hq => by rw [ht]; try exact hh_9.1.2.1 q h9 hq⟩) hh_9.1.2.2 dX1_placeOf_102
                  · skip
                    have c_10' : v3_9.toInt < length_5.toInt := jb_ge_n (rfl) (rfl) c_10
                    refine lv_iload_n hx hb dX1_placeOf_65 rfl (lv_at hl 3 rfl) ?_
                    refine lv_iload hx hb dX1_placeOf_66 (lv_at hl 5 rfl) ?_
                    refine lv_isub hx hb dX1_placeOf_68 ?_
                    refine lv_topi (fun z_11 ez_11 => ?_)
                    have hz_11 : z_11.toInt = v3_9.toInt - v3_7.toInt := by rw [ez_11]; exact jb_isub2 (rfl) (rfl) (by omega)
                    refine lv_iload_n hx hb dX1_placeOf_69 rfl (lv_at hl 2 rfl) ?_
                    refine lv_icmp_ge (tgt := 101) hx hb dX1_placeOf_70 (by decide) (fun c_12 => ?_) (fun c_12 => ?_)
                    · skip
                      have c_12' : z_11.toInt ≥ a2.toInt := jb_ge (rfl) (rfl) c_12
                      refine lv_iload_n hx hb dX1_placeOf_101 rfl (lv_at hl 3 rfl) ?_
                      rw [hQ]
                      exact W.iret (v := v3_9) hx hb hr (fun t ht hW => ⟨⟨v3_9, (), rfl, by first | omega | (refine ⟨?_, ?_⟩ <;> (first | omega | rfl | assumption | decide | exact Or.inl rfl | exact Or.inr rfl | (simp only; omega))), hh_9.rt (M1 := []) [] rfl ht⟩, by rw [ht]; try exact hh_9.1.1, fun q h9 hq => by rw [ht]; try exact hh_9.1.2.1 q h9 hq⟩) hh_9.1.2.2 dX1_placeOf_102
                    · skip
                      have c_12' : z_11.toInt < a2.toInt := jb_ge_n (rfl) (rfl) c_12
                      refine lv_aload_n hx hb dX1_placeOf_73 rfl (lv_at hl 0 rfl) ?_
                      obtain ⟨v_13, hv_13, hh_14⟩ := hh_9.pin (C := RX1) (T := TX1) (N := 17) hB3 rfl (by decide) hg_r0 (i := 2) (by decide) rfl
                      clear hh_9
                      obtain ⟨text_15, rfl, hg_text_15⟩ := hv_13
                      refine j7_read hx hb hown hK (C := RX1) (T := TX1) (N := 17) rfl hly_3_2 hlk_15 (hh_14.at 0 rfl) dX1_placeOf_74 ?_
                      refine lv_iload_n hx hb dX1_placeOf_77 rfl (lv_at hl 3 rfl) ?_
                      refine j7_iald hx hb hK hh_14 hB101 1 rfl (by decide) hg_text_15 (x := v3_9.toInt) (rfl) (by omega) dX1_placeOf_78 (fun z_16 (hz_16 : True) => ?_)
                      refine lv_bipush (v := 10) hx hb dX1_placeOf_79 (by decide) ?_
                      refine lv_icmp_eq (tgt := 101) hx hb dX1_placeOf_81 (by decide) (fun c_17 => ?_) (fun c_17 => ?_)
                      · skip
                        have c_17' : z_16.toInt = 10 := jb_eq (rfl) ((by decide)) c_17
                        refine lv_iload_n hx hb dX1_placeOf_101 rfl (lv_at hl 3 rfl) ?_
                        rw [hQ]
                        exact W.iret (v := v3_9) hx hb hr (fun t ht hW => ⟨⟨v3_9, (), rfl, by first | omega | (refine ⟨?_, ?_⟩ <;> (first | omega | rfl | assumption | decide | exact Or.inl rfl | exact Or.inr rfl | (simp only; omega))), hh_14.rt (M1 := []) [] rfl ht⟩, by rw [ht]; try exact hh_14.1.1, fun q h9 hq => by rw [ht]; try exact hh_14.1.2.1 q h9 hq⟩) hh_14.1.2.2 dX1_placeOf_102
                      · skip
                        have c_17' : z_16.toInt ≠ 10 := jb_eq_n (rfl) ((by decide)) c_17
                        refine lv_aload_n hx hb dX1_placeOf_84 rfl (lv_at hl 0 rfl) ?_
                        refine j7_read hx hb hown hK (C := RX1) (T := TX1) (N := 17) rfl hly_3_2 hlk_15 (hh_14.at 0 rfl) dX1_placeOf_85 ?_
                        refine lv_iload_n hx hb dX1_placeOf_88 rfl (lv_at hl 3 rfl) ?_
                        refine j7_iald hx hb hK hh_14 hB101 1 rfl (by decide) hg_text_15 (x := v3_9.toInt) (rfl) (by omega) dX1_placeOf_89 (fun z_18 (hz_18 : True) => ?_)
                        refine lv_bipush (v := 13) hx hb dX1_placeOf_90 (by decide) ?_
                        refine lv_icmp_eq (tgt := 101) hx hb dX1_placeOf_92 (by decide) (fun c_19 => ?_) (fun c_19 => ?_)
                        · skip
                          have c_19' : z_18.toInt = 13 := jb_eq (rfl) ((by decide)) c_19
                          refine lv_iload_n hx hb dX1_placeOf_101 rfl (lv_at hl 3 rfl) ?_
                          rw [hQ]
                          exact W.iret (v := v3_9) hx hb hr (fun t ht hW => ⟨⟨v3_9, (), rfl, by first | omega | (refine ⟨?_, ?_⟩ <;> (first | omega | rfl | assumption | decide | exact Or.inl rfl | exact Or.inr rfl | (simp only; omega))), hh_14.rt (M1 := []) [] rfl ht⟩, by rw [ht]; try exact hh_14.1.1, fun q h9 hq => by rw [ht]; try exact hh_14.1.2.1 q h9 hq⟩) hh_14.1.2.2 dX1_placeOf_102
                        · skip
                          have c_19' : z_18.toInt ≠ 13 := jb_eq_n (rfl) ((by decide)) c_19
                          obtain ⟨z_20, ez_20⟩ : ∃ y : Int32, y = v3_9 + 1 := ⟨_, rfl⟩
                          refine lv_iinc (v := z_20) (lv' := [(3, .int z_20), (0, .ref r0), (1, .int a1), (2, .int a2), (4, .int v4_7), (5, .int v3_7)]) hx hb dX1_placeOf_95 hl (k := 3) rfl (by rw [ez_20]; rfl) (by decide) rfl (fun ls hl => ?_)
                          have hz_20 : z_20.toInt = v3_9.toInt + 1 := by rw [ez_20]; exact jb_iadd2 (rfl) (by decide) (by omega)
                          refine lv_goto (tgt := 57) hx hb dX1_placeOf_98 (by decide) ?_
                          exact L57 z_20 _ _ (hh_14.sub (L1 := [(r0, 3, 3, .int length_5)]) [1] rfl (M1 := []) [] rfl (I1 := []) [] rfl) (by first | omega | (refine ⟨?_, ?_⟩ <;> (first | omega | rfl | assumption | decide | exact Or.inl rfl | exact Or.inr rfl | (simp only; omega)))) (by omega) _ (lv_sub hl [1, 2, 3, 0, 4, 5] rfl)
              exact L57 (length_5.toInt - (v3_7 : Int32).toInt : Int).toNat.succ v3_7 _ _ hh_7 (by first | omega | (refine ⟨?_, ?_⟩ <;> (first | omega | rfl | assumption | decide | exact Or.inl rfl | exact Or.inr rfl | (simp only; omega)))) (by omega) _ (lv_sub hl [1, 2, 3, 4, 5, 0] rfl)
            · skip
              have c_8' : v4_7.toInt < a1.toInt := jb_ge_n (rfl) (rfl) c_8
              refine lv_iconst (v := (-1)) hx hb dX1_placeOf_52 (by decide) ?_
              rw [hQ]
              exact W.iret (v := (-1)) hx hb hr (fun t ht hW => ⟨⟨(-1), (), rfl, by first | omega | (refine ⟨?_, ?_⟩ <;> (first | omega | rfl | assumption | decide | exact Or.inl rfl | exact Or.inr rfl | (simp only; omega))), hh_7.rt (M1 := []) [] rfl ht⟩, by rw [ht]; try exact hh_7.1.1, fun q h9 hq => by rw [ht]; try exact hh_7.1.2.1 q h9 hq⟩) hh_7.1.2.2 dX1_placeOf_53
          refine lv_icmp_ge (tgt := 46) hx hb dX1_placeOf_20 (by decide) (fun c_21 => ?_) (fun c_21 => ?_)
          · skip
            have c_21' : v3_6.toInt ≥ length_5.toInt := jb_ge (rfl) (rfl) c_21
            exact C46 v3_6 v4_6 _ _ hh_6 (by first | omega | (refine ⟨?_, ?_, ?_⟩ <;> (first | omega | rfl | assumption | decide | exact Or.inl rfl | exact Or.inr rfl | (simp only; omega)))) _ (lv_sub hl [0, 1, 2, 3, 4] rfl)
          · skip
            have c_21' : v3_6.toInt < length_5.toInt := jb_ge_n (rfl) (rfl) c_21
            refine lv_iload hx hb dX1_placeOf_23 (lv_at hl 4 rfl) ?_
            refine lv_iload_n hx hb dX1_placeOf_25 rfl (lv_at hl 1 rfl) ?_
            refine lv_icmp_ge (tgt := 46) hx hb dX1_placeOf_26 (by decide) (fun c_22 => ?_) (fun c_22 => ?_)
            · skip
              have c_22' : v4_6.toInt ≥ a1.toInt := jb_ge (rfl) (rfl) c_22
              exact C46 v3_6 v4_6 _ _ hh_6 (by first | omega | (refine ⟨?_, ?_, ?_⟩ <;> (first | omega | rfl | assumption | decide | exact Or.inl rfl | exact Or.inr rfl | (simp only; omega)))) _ (lv_sub hl [0, 1, 2, 3, 4] rfl)
            · skip
              have c_22' : v4_6.toInt < a1.toInt := jb_ge_n (rfl) (rfl) c_22
              refine lv_aload_n hx hb dX1_placeOf_29 rfl (lv_at hl 0 rfl) ?_
              refine lv_iload_n hx hb dX1_placeOf_30 rfl (lv_at hl 3 rfl) ?_
              refine va_calli (A0 := jA base) (H0 := s.heap) (va_runV (As := [.int v3_6]) (rest := []) ⟨hx, hb, hml, hown, hts⟩ (uX1_endsLine l dC dI ca base B hB hAp hB3 hB101 G0 H_6 r0 v3_6 n0 length_5) (cwV 1 hts (jgV (jWr_29 _ (List.mem_of_getElem? (i := 6) rfl)) (jWr_29 _ (List.mem_of_getElem? (i := 7) rfl)) (jWr_29 _ (List.mem_of_getElem? (i := 8) rfl)) (jWr_2 _ (List.mem_of_getElem? (i := 21) rfl)) (jWr_29 _ (List.mem_of_getElem? (i := 9) rfl))) rfl rfl rfl (by decide +kernel) ⟨by rw [← hR]; exact Nat.le_of_ble_eq_true rfl, by rw [← hR]; exact Nat.le_of_ble_eq_true rfl⟩) ⟨fun a U g mk q => by obtain ⟨q0, q1, q2, qK, q10, q11, q12⟩ := q; exact ⟨q0, q1, q2, jG.calling g mk a qK, q10, q11, q12⟩, hh_6.recv (C := RX1) (T := TX1) (N := 17) hB3 rfl (by decide) hg_r0 hK, fun U hU hW => ⟨rfl, hU, hh_6.2.1, hG.step hW hU hh_6.1, hg_r0, (hh_6.2.2.1.sub (L1 := [(r0, 3, 3, .int length_5)]) [0] rfl), by first | omega | (refine ⟨?_, ?_, ?_⟩ <;> (first | omega | rfl | assumption | decide | exact Or.inl rfl | exact Or.inr rfl | (simp only; omega)))⟩⟩ rfl rfl hl.1 rfl (lv_room (Nat.le_of_ble_eq_true rfl)) dX1_placeOf_31 ⟨Nat.zero_le _, Nat.zero_le _⟩) hh_6.1 (fun q _ h => h) (fun q h => h) (fun r_24 u_23 t_23 H_23 locs_23 ht_23 hvm_23 hr_24 hb_23 hz_23 hk_23 hS_23 => ?_)
              rw [ht_23] at hb_23
              obtain ⟨hb_231, hb_232, hb_233, hb_234, hb_235⟩ := hb_23
              have hh_23 : jSt (dC, dI) B base G0 G0 EX1_placeOf s.heap 0 0 [(r0, 3, 3, .int length_5)] [] [] H_23 locs_23 := ((hh_6.call hb_231 hb_232 hb_233 hb_234 hS_23 rfl (L1 := [(r0, 3, 3, .int length_5)]) [0] rfl rfl (M1 := []) [] rfl rfl (I1 := []) [] rfl rfl).more hb_235)
              clear hh_6 ht_23 hvm_23 hz_23 hk_23 hS_23 hb_231 hb_232 hb_233 hb_234 hb_235
              obtain ⟨hr_24b, hr_24p⟩ := hr_24
              have hr_24' := jb_01 hr_24b
              refine lv_if_eq (tgt := 40) hx hb dX1_placeOf_34 (by decide) (fun c_25 => ?_) (fun c_25 => ?_)
              · skip
                have c_25' : r_24.toInt = 0 := jb_eq (rfl) ((by decide)) c_25
                obtain ⟨z_26, ez_26⟩ : ∃ y : Int32, y = v3_6 + 1 := ⟨_, rfl⟩
                refine lv_iinc (v := z_26) (lv' := [(3, .int z_26), (0, .ref r0), (1, .int a1), (2, .int a2), (4, .int v4_6)]) hx hb dX1_placeOf_40 hl (k := 3) rfl (by rw [ez_26]; rfl) (by decide) rfl (fun ls hl => ?_)
                have hz_26 : z_26.toInt = v3_6.toInt + 1 := by rw [ez_26]; exact jb_iadd2 (rfl) (by decide) (by omega)
                refine lv_goto (tgt := 15) hx hb dX1_placeOf_43 (by decide) ?_
                exact L15 z_26 v4_6 _ _ hh_23 (by first | omega | (refine ⟨?_, ?_, ?_, ?_⟩ <;> (first | omega | rfl | assumption | decide | exact Or.inl rfl | exact Or.inr rfl | (simp only; omega)))) (by omega) _ (lv_sub hl [1, 2, 3, 0, 4] rfl)
              · skip
                have c_25' : r_24.toInt ≠ 0 := jb_eq_n (rfl) ((by decide)) c_25
                obtain ⟨z_27, ez_27⟩ : ∃ y : Int32, y = v4_6 + 1 := ⟨_, rfl⟩
                refine lv_iinc (v := z_27) (lv' := [(4, .int z_27), (0, .ref r0), (1, .int a1), (2, .int a2), (3, .int v3_6)]) hx hb dX1_placeOf_37 hl (k := 4) rfl (by rw [ez_27]; rfl) (by decide) rfl (fun ls hl => ?_)
                have hz_27 : z_27.toInt = v4_6.toInt + 1 := by rw [ez_27]; exact jb_iadd2 (rfl) (by decide) (by omega)
                obtain ⟨z_28, ez_28⟩ : ∃ y : Int32, y = v3_6 + 1 := ⟨_, rfl⟩
                refine lv_iinc (v := z_28) (lv' := [(3, .int z_28), (4, .int z_27), (0, .ref r0), (1, .int a1), (2, .int a2)]) hx hb dX1_placeOf_40 hl (k := 4) rfl (by rw [ez_28]; rfl) (by decide) rfl (fun ls hl => ?_)
                have hz_28 : z_28.toInt = v3_6.toInt + 1 := by rw [ez_28]; exact jb_iadd2 (rfl) (by decide) (by omega)
                refine lv_goto (tgt := 15) hx hb dX1_placeOf_43 (by decide) ?_
                exact L15 z_28 z_27 _ _ hh_23 (by first | omega | (refine ⟨?_, ?_, ?_, ?_⟩ <;> (first | omega | rfl | assumption | decide | exact Or.inl rfl | exact Or.inr rfl | (simp only; omega)))) (by omega) _ (lv_sub hl [2, 3, 4, 0, 1] rfl)
      exact L15 (length_5.toInt - (0 : Int32).toInt : Int).toNat.succ 0 0 _ _ hh_4 (by first | omega | (refine ⟨?_, ?_, ?_, ?_⟩ <;> (first | omega | rfl | assumption | decide | exact Or.inl rfl | exact Or.inr rfl | (simp only; omega)))) (by omega) _ (lv_sub hl [2, 3, 4, 1, 0] rfl)
    · skip
      have c_2' : a2.toInt < 0 := jb_ge_n (rfl) ((by decide)) c_2
      refine lv_iconst (v := (-1)) hx hb dX1_placeOf_8 (by decide) ?_
      rw [hQ]
      exact W.iret (v := (-1)) hx hb hr (fun t ht hW => ⟨⟨(-1), (), rfl, by first | omega | (refine ⟨?_, ?_⟩ <;> (first | omega | rfl | assumption | decide | exact Or.inl rfl | exact Or.inr rfl | (simp only; omega))), hh.rt (M1 := []) [] rfl ht⟩, by rw [ht]; try exact hh.1.1, fun q h9 hq => by rw [ht]; try exact hh.1.2.1 q h9 hq⟩) hh.1.2.2 dX1_placeOf_9
end
section
theorem dX11_errorText_0 : decode cX11_errorText 0 = .ok (.iload_n 0, 1) := by decide +kernel
theorem dX11_errorText_1 : decode cX11_errorText 1 = .ok (.lookupswitch 83 #[(-32800, 79), (-32700, 59), (-32602, 71), (-32601, 67), (-32600, 63), (-32002, 75)], 59) := by decide +kernel
theorem dX11_errorText_60 : decode cX11_errorText 60 = .ok (.ldc_w 477, 3) := by decide +kernel
theorem dX11_errorText_63 : decode cX11_errorText 63 = .ok (.areturn, 1) := by decide +kernel
theorem dX11_errorText_64 : decode cX11_errorText 64 = .ok (.ldc_w 479, 3) := by decide +kernel
theorem dX11_errorText_67 : decode cX11_errorText 67 = .ok (.areturn, 1) := by decide +kernel
theorem dX11_errorText_68 : decode cX11_errorText 68 = .ok (.ldc_w 481, 3) := by decide +kernel
theorem dX11_errorText_71 : decode cX11_errorText 71 = .ok (.areturn, 1) := by decide +kernel
theorem dX11_errorText_72 : decode cX11_errorText 72 = .ok (.ldc_w 483, 3) := by decide +kernel
theorem dX11_errorText_75 : decode cX11_errorText 75 = .ok (.areturn, 1) := by decide +kernel
theorem dX11_errorText_76 : decode cX11_errorText 76 = .ok (.ldc_w 485, 3) := by decide +kernel
theorem dX11_errorText_79 : decode cX11_errorText 79 = .ok (.areturn, 1) := by decide +kernel
theorem dX11_errorText_80 : decode cX11_errorText 80 = .ok (.ldc_w 487, 3) := by decide +kernel
theorem dX11_errorText_83 : decode cX11_errorText 83 = .ok (.areturn, 1) := by decide +kernel
theorem dX11_errorText_84 : decode cX11_errorText 84 = .ok (.ldc_w 489, 3) := by decide +kernel
theorem dX11_errorText_87 : decode cX11_errorText 87 = .ok (.areturn, 1) := by decide +kernel
def EX11_errorText : List (Nat × Nat) := []
def qtx842 : String := match tables_1[842]? with | some (Jvm.Cond.stringRef _ _ t) => t | _ => ""
set_option maxHeartbeats 4000000 in
set_option maxRecDepth 20000 in
theorem uX11_errorText (l : Launch) (dC : Nat → ClassId) (dI : Nat → Nat → Nat) (ca : Nat → ClassId) (base : Nat) (B : jF) (hB : jBok B) (hAp : jAp (dC, dI)) (G0 : jT) (H0 : Heap) (a0 : Int32) : Met l yX11_errorText (jw yX11_errorText cX11_errorText 1 (some (.object "java/lang/String"))) ({ frames := 0, cells := 0, slots := 0, locals := 0 }) (va_Pc [.int a0] (fun U => U.heap = H0 ∧ jX B base G0 [] H0 ∧ jG dC dI ca base U ∧ jP (dC, dI) G0 H0 [] ∧ True)) (jQx (S := Nat × Nat) (fun v u => v = .ref u.1 ∧ u.2 < 2147483648) (fun u t => jRt (dC, dI) B base G0 EX11_errorText H0 [] t.heap ∧ jStr base u.1 u.2 t t.heap) (jA base)) 0 0 (jA base) := by
  refine Met.ofW (cc := cX11_errorText) (maxL := 1) (ret := (some (.object "java/lang/String"))) (by decide) rfl ?_
  intro p e s m args below meth c s₁ Bd hml hv
  obtain ⟨rfl, hH0, hX, hG, hP0, hp0⟩ := hv
  have hK := hG.1
  have hx := Bd.exec
  have hb := Bd.bytes
  have hr := Bd.returns
  have hts := atoms_spec (ws := (jw yX11_errorText cX11_errorText 1 (some (.object "java/lang/String")))) Bd.pre
  have htw : ∀ w ∈ jWl, w.before _ s = true := fun w h => hts w (List.mem_cons_of_mem _ h)
  have hown : s.vm.findClass RX11 = some m.cls := findClass_of_methodNamed Bd.named
  have hlocks := Bd.notSynchronized
  obtain ⟨Q, hQ⟩ : ∃ Q, Q = MQ below (jQx (S := Nat × Nat) (fun v u => v = .ref u.1 ∧ u.2 < 2147483648) (fun u t => jRt (dC, dI) B base G0 EX11_errorText H0 [] t.heap ∧ jStr base u.1 u.2 t t.heap) (jA base)) ([.int a0] : List Value).toArray s 0 0 (jA base) := ⟨_, rfl⟩
  rw [← hQ]
  have hl := lv_entry ([.int a0]) (n := 1) (Nat.le_of_ble_eq_true rfl)
  rw [lg_entry_eq]
  generalize (lg_sl ([.int a0]) ++ List.replicate (1 - (lg_sl ([.int a0])).length) Slot.unset).toArray = ls at hl ⊢
  have hl : lv_has ls 1 [(0, .int a0)] := hl
  generalize hR : (headSpec (jw yX11_errorText cX11_errorText 1 (some (.object "java/lang/String"))) ({ frames := 0, cells := 0, slots := 0, locals := 0 })).room = R
  subst hH0
  have hh : jSt (dC, dI) B base G0 G0 EX11_errorText s.heap 0 0 [] [] [] s.heap [] := jSt.start hX hP0 jMc.nil jIs.nil
  clear hX hP0
  have hk0 : (0 : Int32).toInt = 0 := by decide
  have hk1 : (1 : Int32).toInt = 1 := by decide
  obtain ⟨str477, rstr477, hstr4770⟩ := hG.str (o := RX11) (k := 477) (tx := "not json") (List.mem_of_getElem? (i := 838) (by decide +kernel))
  have hstr477 : jStr base str477 8 s s.heap := hstr4770
  obtain ⟨str479, rstr479, hstr4790⟩ := hG.str (o := RX11) (k := 479) (tx := "no request") (List.mem_of_getElem? (i := 839) (by decide +kernel))
  have hstr479 : jStr base str479 10 s s.heap := hstr4790
  obtain ⟨str481, rstr481, hstr4810⟩ := hG.str (o := RX11) (k := 481) (tx := "no method") (List.mem_of_getElem? (i := 840) (by decide +kernel))
  have hstr481 : jStr base str481 9 s s.heap := hstr4810
  obtain ⟨str483, rstr483, hstr4830⟩ := hG.str (o := RX11) (k := 483) (tx := "bad params") (List.mem_of_getElem? (i := 841) (by decide +kernel))
  have hstr483 : jStr base str483 10 s s.heap := hstr4830
  obtain ⟨str485, rstr485, hstr4850⟩ := hG.str (o := RX11) (k := 485) (tx := qtx842) (List.mem_of_getElem? (i := 842) (by decide +kernel))
  have h9str485 : qtx842.length = 15 := by decide +kernel
  have hstr485 : jStr base str485 15 s s.heap := by rw [h9str485] at hstr4850; exact hstr4850
  obtain ⟨str487, rstr487, hstr4870⟩ := hG.str (o := RX11) (k := 487) (tx := "cancelled") (List.mem_of_getElem? (i := 843) (by decide +kernel))
  have hstr487 : jStr base str487 9 s s.heap := hstr4870
  obtain ⟨str489, rstr489, hstr4890⟩ := hG.str (o := RX11) (k := 489) (tx := "modified") (List.mem_of_getElem? (i := 844) (by decide +kernel))
  have hstr489 : jStr base str489 8 s s.heap := hstr4890
  have hrg_a0 := jb_rng a0
  refine lv_iload_n hx hb dX11_errorText_0 rfl (lv_at hl 0 rfl) ?_
  rcases (by omega : (a0.toInt ≠ (-32800) ∧ a0.toInt ≠ (-32700) ∧ a0.toInt ≠ (-32602) ∧ a0.toInt ≠ (-32601) ∧ a0.toInt ≠ (-32600) ∧ a0.toInt ≠ (-32002)) ∨ a0.toInt = (-32800) ∨ a0.toInt = (-32700) ∨ a0.toInt = (-32602) ∨ a0.toInt = (-32601) ∨ a0.toInt = (-32600) ∨ a0.toInt = (-32002)) with c_1 | c_1 | c_1 | c_1 | c_1 | c_1 | c_1
  · refine lv_lookup (off := 83) (tgt := 84) hx hb dX11_errorText_1 (by decide) (by show Op.lookupswitch.offset [((-32800), 79), ((-32700), 59), ((-32602), 71), ((-32601), 67), ((-32600), 63), ((-32002), 75)] 83 a0.toInt = 83; simp only [Op.lookupswitch.offset]; rw [if_neg (by omega), if_neg (by omega), if_neg (by omega), if_neg (by omega), if_neg (by omega), if_neg (by omega)]) (by decide) ?_
    refine j_ldcSw hx hb hown rstr489 dX11_errorText_84 ?_
    rw [hQ]
    exact W.aret (v := .ref str489) hx hb hr (Or.inl ⟨_, rfl⟩) (Or.inr ⟨_, rfl⟩) (fun t ht hW => ⟨⟨.ref str489, (str489, 8), rfl, ⟨rfl, by show (8 : Nat) < 2147483648; omega⟩, ⟨hh.rt (M1 := []) [] rfl ht, by rw [ht]; exact (hstr489.moved hW.alike).kept hh.1.2.1⟩⟩, by rw [ht]; try exact hh.1.1, fun q h9 hq => by rw [ht]; try exact hh.1.2.1 q h9 hq⟩) hh.1.2.2 dX11_errorText_87
  · refine lv_lookup (off := 79) (tgt := 80) hx hb dX11_errorText_1 (by decide) (by rw [c_1]; rfl) (by decide) ?_
    refine j_ldcSw hx hb hown rstr487 dX11_errorText_80 ?_
    rw [hQ]
    exact W.aret (v := .ref str487) hx hb hr (Or.inl ⟨_, rfl⟩) (Or.inr ⟨_, rfl⟩) (fun t ht hW => ⟨⟨.ref str487, (str487, 9), rfl, ⟨rfl, by show (9 : Nat) < 2147483648; omega⟩, ⟨hh.rt (M1 := []) [] rfl ht, by rw [ht]; exact (hstr487.moved hW.alike).kept hh.1.2.1⟩⟩, by rw [ht]; try exact hh.1.1, fun q h9 hq => by rw [ht]; try exact hh.1.2.1 q h9 hq⟩) hh.1.2.2 dX11_errorText_83
  · refine lv_lookup (off := 59) (tgt := 60) hx hb dX11_errorText_1 (by decide) (by rw [c_1]; rfl) (by decide) ?_
    refine j_ldcSw hx hb hown rstr477 dX11_errorText_60 ?_
    rw [hQ]
    exact W.aret (v := .ref str477) hx hb hr (Or.inl ⟨_, rfl⟩) (Or.inr ⟨_, rfl⟩) (fun t ht hW => ⟨⟨.ref str477, (str477, 8), rfl, ⟨rfl, by show (8 : Nat) < 2147483648; omega⟩, ⟨hh.rt (M1 := []) [] rfl ht, by rw [ht]; exact (hstr477.moved hW.alike).kept hh.1.2.1⟩⟩, by rw [ht]; try exact hh.1.1, fun q h9 hq => by rw [ht]; try exact hh.1.2.1 q h9 hq⟩) hh.1.2.2 dX11_errorText_63
  · refine lv_lookup (off := 71) (tgt := 72) hx hb dX11_errorText_1 (by decide) (by rw [c_1]; rfl) (by decide) ?_
    refine j_ldcSw hx hb hown rstr483 dX11_errorText_72 ?_
    rw [hQ]
    exact W.aret (v := .ref str483) hx hb hr (Or.inl ⟨_, rfl⟩) (Or.inr ⟨_, rfl⟩) (fun t ht hW => ⟨⟨.ref str483, (str483, 10), rfl, ⟨rfl, by show (10 : Nat) < 2147483648; omega⟩, ⟨hh.rt (M1 := []) [] rfl ht, by rw [ht]; exact (hstr483.moved hW.alike).kept hh.1.2.1⟩⟩, by rw [ht]; try exact hh.1.1, fun q h9 hq => by rw [ht]; try exact hh.1.2.1 q h9 hq⟩) hh.1.2.2 dX11_errorText_75
  · refine lv_lookup (off := 67) (tgt := 68) hx hb dX11_errorText_1 (by decide) (by rw [c_1]; rfl) (by decide) ?_
    refine j_ldcSw hx hb hown rstr481 dX11_errorText_68 ?_
    rw [hQ]
    exact W.aret (v := .ref str481) hx hb hr (Or.inl ⟨_, rfl⟩) (Or.inr ⟨_, rfl⟩) (fun t ht hW => ⟨⟨.ref str481, (str481, 9), rfl, ⟨rfl, by show (9 : Nat) < 2147483648; omega⟩, ⟨hh.rt (M1 := []) [] rfl ht, by rw [ht]; exact (hstr481.moved hW.alike).kept hh.1.2.1⟩⟩, by rw [ht]; try exact hh.1.1, fun q h9 hq => by rw [ht]; try exact hh.1.2.1 q h9 hq⟩) hh.1.2.2 dX11_errorText_71
  · refine lv_lookup (off := 63) (tgt := 64) hx hb dX11_errorText_1 (by decide) (by rw [c_1]; rfl) (by decide) ?_
    refine j_ldcSw hx hb hown rstr479 dX11_errorText_64 ?_
    rw [hQ]
    exact W.aret (v := .ref str479) hx hb hr (Or.inl ⟨_, rfl⟩) (Or.inr ⟨_, rfl⟩) (fun t ht hW => ⟨⟨.ref str479, (str479, 10), rfl, ⟨rfl, by show (10 : Nat) < 2147483648; omega⟩, ⟨hh.rt (M1 := []) [] rfl ht, by rw [ht]; exact (hstr479.moved hW.alike).kept hh.1.2.1⟩⟩, by rw [ht]; try exact hh.1.1, fun q h9 hq => by rw [ht]; try exact hh.1.2.1 q h9 hq⟩) hh.1.2.2 dX11_errorText_67
  · refine lv_lookup (off := 75) (tgt := 76) hx hb dX11_errorText_1 (by decide) (by rw [c_1]; rfl) (by decide) ?_
    refine j_ldcSw hx hb hown rstr485 dX11_errorText_76 ?_
    rw [hQ]
    exact W.aret (v := .ref str485) hx hb hr (Or.inl ⟨_, rfl⟩) (Or.inr ⟨_, rfl⟩) (fun t ht hW => ⟨⟨.ref str485, (str485, 15), rfl, ⟨rfl, by show (15 : Nat) < 2147483648; omega⟩, ⟨hh.rt (M1 := []) [] rfl ht, by rw [ht]; exact (hstr485.moved hW.alike).kept hh.1.2.1⟩⟩, by rw [ht]; try exact hh.1.1, fun q h9 hq => by rw [ht]; try exact hh.1.2.1 q h9 hq⟩) hh.1.2.2 dX11_errorText_79
end
section
theorem dX1_isSentence_0 : decode cX1_isSentence 0 = .ok (.iload_n 1, 1) := by decide +kernel
theorem dX1_isSentence_1 : decode cX1_isSentence 1 = .ok (.ifCond .lt 29, 3) := by decide +kernel
theorem dX1_isSentence_4 : decode cX1_isSentence 4 = .ok (.iload_n 1, 1) := by decide +kernel
theorem dX1_isSentence_5 : decode cX1_isSentence 5 = .ok (.aload_n 0, 1) := by decide +kernel
theorem dX1_isSentence_6 : decode cX1_isSentence 6 = .ok (.getfield 69, 3) := by decide +kernel
theorem dX1_isSentence_9 : decode cX1_isSentence 9 = .ok (.if_icmp .ge 21, 3) := by decide +kernel
theorem dX1_isSentence_12 : decode cX1_isSentence 12 = .ok (.aload_n 0, 1) := by decide +kernel
theorem dX1_isSentence_13 : decode cX1_isSentence 13 = .ok (.getfield 21, 3) := by decide +kernel
theorem dX1_isSentence_16 : decode cX1_isSentence 16 = .ok (.iload_n 1, 1) := by decide +kernel
theorem dX1_isSentence_17 : decode cX1_isSentence 17 = .ok (.iaload, 1) := by decide +kernel
theorem dX1_isSentence_18 : decode cX1_isSentence 18 = .ok (.aload_n 0, 1) := by decide +kernel
theorem dX1_isSentence_19 : decode cX1_isSentence 19 = .ok (.getfield 18, 3) := by decide +kernel
theorem dX1_isSentence_22 : decode cX1_isSentence 22 = .ok (.iload_n 1, 1) := by decide +kernel
theorem dX1_isSentence_23 : decode cX1_isSentence 23 = .ok (.iaload, 1) := by decide +kernel
theorem dX1_isSentence_24 : decode cX1_isSentence 24 = .ok (.isub, 1) := by decide +kernel
theorem dX1_isSentence_25 : decode cX1_isSentence 25 = .ok (.aload_n 2, 1) := by decide +kernel
theorem dX1_isSentence_26 : decode cX1_isSentence 26 = .ok (.arraylength, 1) := by decide +kernel
theorem dX1_isSentence_27 : decode cX1_isSentence 27 = .ok (.if_icmp .eq 5, 3) := by decide +kernel
theorem dX1_isSentence_30 : decode cX1_isSentence 30 = .ok (.iconst 0, 1) := by decide +kernel
theorem dX1_isSentence_31 : decode cX1_isSentence 31 = .ok (.ireturn, 1) := by decide +kernel
theorem dX1_isSentence_32 : decode cX1_isSentence 32 = .ok (.iconst 0, 1) := by decide +kernel
theorem dX1_isSentence_33 : decode cX1_isSentence 33 = .ok (.istore_n 3, 1) := by decide +kernel
theorem dX1_isSentence_34 : decode cX1_isSentence 34 = .ok (.iload_n 3, 1) := by decide +kernel
theorem dX1_isSentence_35 : decode cX1_isSentence 35 = .ok (.aload_n 2, 1) := by decide +kernel
theorem dX1_isSentence_36 : decode cX1_isSentence 36 = .ok (.arraylength, 1) := by decide +kernel
theorem dX1_isSentence_37 : decode cX1_isSentence 37 = .ok (.if_icmp .ge 30, 3) := by decide +kernel
theorem dX1_isSentence_40 : decode cX1_isSentence 40 = .ok (.aload_n 0, 1) := by decide +kernel
theorem dX1_isSentence_41 : decode cX1_isSentence 41 = .ok (.getfield 15, 3) := by decide +kernel
theorem dX1_isSentence_44 : decode cX1_isSentence 44 = .ok (.aload_n 0, 1) := by decide +kernel
theorem dX1_isSentence_45 : decode cX1_isSentence 45 = .ok (.getfield 18, 3) := by decide +kernel
theorem dX1_isSentence_48 : decode cX1_isSentence 48 = .ok (.iload_n 1, 1) := by decide +kernel
theorem dX1_isSentence_49 : decode cX1_isSentence 49 = .ok (.iaload, 1) := by decide +kernel
theorem dX1_isSentence_50 : decode cX1_isSentence 50 = .ok (.iload_n 3, 1) := by decide +kernel
theorem dX1_isSentence_51 : decode cX1_isSentence 51 = .ok (.iadd, 1) := by decide +kernel
theorem dX1_isSentence_52 : decode cX1_isSentence 52 = .ok (.iaload, 1) := by decide +kernel
theorem dX1_isSentence_53 : decode cX1_isSentence 53 = .ok (.aload_n 2, 1) := by decide +kernel
theorem dX1_isSentence_54 : decode cX1_isSentence 54 = .ok (.iload_n 3, 1) := by decide +kernel
theorem dX1_isSentence_55 : decode cX1_isSentence 55 = .ok (.iaload, 1) := by decide +kernel
theorem dX1_isSentence_56 : decode cX1_isSentence 56 = .ok (.if_icmp .eq 5, 3) := by decide +kernel
theorem dX1_isSentence_59 : decode cX1_isSentence 59 = .ok (.iconst 0, 1) := by decide +kernel
theorem dX1_isSentence_60 : decode cX1_isSentence 60 = .ok (.ireturn, 1) := by decide +kernel
theorem dX1_isSentence_61 : decode cX1_isSentence 61 = .ok (.iinc 3 1, 3) := by decide +kernel
theorem dX1_isSentence_64 : decode cX1_isSentence 64 = .ok (.goto (-30), 3) := by decide +kernel
theorem dX1_isSentence_67 : decode cX1_isSentence 67 = .ok (.iconst 1, 1) := by decide +kernel
theorem dX1_isSentence_68 : decode cX1_isSentence 68 = .ok (.ireturn, 1) := by decide +kernel
end
section
def EX0_append : List (Nat × Nat) := [(2, 0), (2, 1), (196, 0)]
set_option maxHeartbeats 4000000 in
set_option maxRecDepth 20000 in
theorem uX0_append (l : Launch) (dC : Nat → ClassId) (dI : Nat → Nat → Nat) (ca : Nat → ClassId) (base : Nat) (B : jF) (hB : jBok B) (hAp : jAp (dC, dI)) (hB2 : ∀ n G a H, B 2 n G a H ↔ jOb (dC, dI) 2 2 (F2 n G) a H) (hB196 : ∀ n G a H, B 196 n G a H ↔ jAr (dC, dI) (ca 0) (fun j z => jBf j z) n a H) (G0 : jT) (H0 : Heap) (r0 : Nat) (r1 : Nat) (pc : Int32) (pa : Nat) (n_pa : Nat) (LC LS : Nat) : Met l yX0_append (jw yX0_append cX0_append 3 none) ({ frames := 3, cells := LC - H0.size, slots := LS - jTot H0, locals := 83 }) (va_Pc [.ref r0, .ref r1] (fun U => U.heap = H0 ∧ jX B base G0 [] H0 ∧ jG dC dI ca base U ∧ G0 r0 = some (2, 0) ∧ G0 r1 = some (2, 0) ∧ G0 pa = some (196, n_pa) ∧ jP (dC, dI) G0 H0 [(r0, 2, 1, .int pc), (r0, 2, 0, .ref pa)] ∧ H0.size + (1048576 - n_pa) / 16 + 1 ≤ LC ∧ jTot H0 + 2 * (1048576 - n_pa) ≤ LS ∧ 0 ≤ pc.toInt ∧ pc.toInt ≤ n_pa ∧ 16 ≤ n_pa ∧ n_pa ≤ 1048576 ∧ jPw n_pa)) (va_Qv (S := Int32 × Nat × Nat × jT) (fun u => 0 ≤ u.1.toInt ∧ u.1.toInt ≤ u.2.2.1 ∧ n_pa ≤ u.2.2.1 ∧ u.2.2.1 ≤ 1048576 ∧ jPw u.2.2.1) (fun u t => jRa (dC, dI) B base G0 u.2.2.2 EX0_append H0 ((u.2.2.1 - n_pa) / 16) (2 * (u.2.2.1 - n_pa)) [(r0, 2, 1, .int u.1), (r0, 2, 0, .ref u.2.1)] t.heap ∧ u.2.2.2 u.2.1 = some (196, u.2.2.1) ∧ (jNk [0, 1, 2, 3, 4, 5, 6, 7, 8, 9, 10, 11, 12, 13, 14, 15, 16]) G0 u.2.2.2 ∧ jOw (dC, dI) G0 2 r0 H0 t.heap) (jA base)) (LC - H0.size) (LS - jTot H0) (jA base) := by
  refine Met.ofW (cc := cX0_append) (maxL := 3) (ret := none) (by decide) rfl ?_
  intro p e s m args below meth c s₁ Bd hml hv
  obtain ⟨rfl, hH0, hX, hG, hg_r0, hg_r1, hg_pa, hP0, hLC0, hLS0, hp0, hp1, hp2, hp3, hp4⟩ := hv
  have hK := hG.1
  have hx := Bd.exec
  have hb := Bd.bytes
  have hr := Bd.returns
  have hts := atoms_spec (ws := (jw yX0_append cX0_append 3 none)) Bd.pre
  have htw : ∀ w ∈ jWl, w.before _ s = true := fun w h => hts w (List.mem_cons_of_mem _ h)
  have hown : s.vm.findClass RX0 = some m.cls := findClass_of_methodNamed Bd.named
  have hlocks := Bd.notSynchronized
  obtain ⟨Q, hQ⟩ : ∃ Q, Q = MQ below (va_Qv (S := Int32 × Nat × Nat × jT) (fun u => 0 ≤ u.1.toInt ∧ u.1.toInt ≤ u.2.2.1 ∧ n_pa ≤ u.2.2.1 ∧ u.2.2.1 ≤ 1048576 ∧ jPw u.2.2.1) (fun u t => jRa (dC, dI) B base G0 u.2.2.2 EX0_append H0 ((u.2.2.1 - n_pa) / 16) (2 * (u.2.2.1 - n_pa)) [(r0, 2, 1, .int u.1), (r0, 2, 0, .ref u.2.1)] t.heap ∧ u.2.2.2 u.2.1 = some (196, u.2.2.1) ∧ (jNk [0, 1, 2, 3, 4, 5, 6, 7, 8, 9, 10, 11, 12, 13, 14, 15, 16]) G0 u.2.2.2 ∧ jOw (dC, dI) G0 2 r0 H0 t.heap) (jA base)) ([.ref r0, .ref r1] : List Value).toArray s (LC - H0.size) (LS - jTot H0) (jA base) := ⟨_, rfl⟩
  rw [← hQ]
  have hl := lv_entry ([.ref r0, .ref r1]) (n := 3) (Nat.le_of_ble_eq_true rfl)
  rw [lg_entry_eq]
  generalize (lg_sl ([.ref r0, .ref r1]) ++ List.replicate (3 - (lg_sl ([.ref r0, .ref r1])).length) Slot.unset).toArray = ls at hl ⊢
  have hl : lv_has ls 3 [(0, .ref r0), (1, .ref r1)] := hl
  generalize hR : (headSpec (jw yX0_append cX0_append 3 none) ({ frames := 3, cells := LC - H0.size, slots := LS - jTot H0, locals := 83 })).room = R
  subst hH0
  have hh : jSt (dC, dI) B base G0 G0 EX0_append s.heap 0 0 [(r0, 2, 1, .int pc), (r0, 2, 0, .ref pa)] [] [] s.heap [] := jSt.start hX hP0 jMc.nil jIs.nil
  clear hX hP0
  have hk0 : (0 : Int32).toInt = 0 := by decide
  have hk1 : (1 : Int32).toInt = 1 := by decide
  have hly_2_0 := htw (u_lay RX0 TX0 0) (jWc_wsX00 _ (u_in_lay (by decide)))
  have hly_2_1 := htw (u_lay RX0 TX0 1) (jWc_wsX00 _ (u_in_lay (by decide)))
  have hlk_19 := (htw (.fieldLink RX0 19 "ProofServer$Bytes" "count" "I") (jWr_16 _ (List.mem_of_getElem? (i := 3) rfl)))
  have hlk_13 := (htw (.fieldLink RX0 13 "ProofServer$Bytes" "row" "[B") (jWr_3 _ (List.mem_of_getElem? (i := 10) rfl)))
  have hbs : base ≤ s.heap.size := Nat.le_of_lt (Nat.lt_of_le_of_lt (hh.ab hg_r0).1 (hh.ab hg_r0).2)
  have hRc : R.cells = LC - s.heap.size := by rw [← hR]; rfl
  have hRs : R.slots = LS - jTot s.heap := by rw [← hR]; rfl
  have hh_1 := hh.addI (jOw.ie (dC := dC) (dI := dI) (G0 := G0) (k := 2) (r := r0) (H0 := s.heap) (F := [(2, 0), (2, 1)]) (C := RX0) (T := TX0) (N := 2) rfl (by decide) hh.2.2.2.2.1 (jOw.rf))
  clear hh
  refine lv_iconst (v := 0) hx hb dX0_append_0 (by decide) ?_
  refine lv_istore_n (lv' := [(2, .int 0), (0, .ref r0), (1, .ref r1)]) hx hb dX0_append_1 rfl hl (by decide) rfl (fun ls hl => ?_)
  have L2 : ∀ (N : Nat) (Gx_2 : jT) (zcx_2 : Nat) (zsx_2 : Nat) (v2_2 : Int32) (wc_2 : Int32) (wr_2 : Nat) (m_wr_2 : Nat) (H_2 : Heap) (locs_2 : List Loc), jSt (dC, dI) B base G0 Gx_2 EX0_append s.heap zcx_2 zsx_2 [(r0, 2, 1, .int wc_2), (r0, 2, 0, .ref wr_2)] [] [([(2, 0), (2, 1)], jOw (dC, dI) G0 2 r0 s.heap)] H_2 locs_2 → (jNk [0, 1, 2, 3, 4, 5, 6, 7, 8, 9, 10, 11, 12, 13, 14, 15, 16]) G0 Gx_2 → jLe G0 Gx_2 → Gx_2 wr_2 = some (196, m_wr_2) → (0 ≤ wc_2.toInt ∧ wc_2.toInt ≤ m_wr_2 ∧ n_pa ≤ m_wr_2 ∧ m_wr_2 ≤ 1048576 ∧ jPw m_wr_2 ∧ zcx_2 ≤ (m_wr_2 - n_pa) / 16 ∧ zsx_2 ≤ 2 * (m_wr_2 - n_pa) ∧ 0 ≤ v2_2.toInt ∧ v2_2.toInt ≤ 1048577) → (1048577 - v2_2.toInt : Int) < N → ∀ ls : Array Slot, lv_has ls 3 [(0, .ref r0), (1, .ref r1), (2, .int v2_2)] → W p l e R s m ([.ref r0, .ref r1] : List Value).toArray below meth c H_2 locs_2 zcx_2 zsx_2 Q (F0 m 2 ls []) := by
    intro N
    induction N with
    | zero => intro Gx_2 zcx_2 zsx_2 v2_2 wc_2 wr_2 m_wr_2 H_2 locs_2 hh_2 hN_2 hle_2 hg_wr_2 hi_2 hm; exact absurd hm (by omega)
    | succ N L2 =>
      intro Gx_2 zcx_2 zsx_2 v2_2 wc_2 wr_2 m_wr_2 H_2 locs_2 hh_2 hN_2 hle_2 hg_wr_2 hi_2 hm_2 ls hl
      have hg_3 := hle_2 _ _ hg_r0
      have hg_4 := hle_2 _ _ hg_r1
      obtain ⟨hi_2_0, hi_2_1, hi_2_2, hi_2_3, hi_2_4, hi_2_5, hi_2_6, hi_2_7, hi_2_8⟩ := hi_2
      refine lv_iload_n hx hb dX0_append_2 rfl (lv_at hl 2 rfl) ?_
      refine lv_aload_n hx hb dX0_append_3 rfl (lv_at hl 1 rfl) ?_
      obtain ⟨v_5, hv_5, hh_6⟩ := hh_2.pin (C := RX0) (T := TX0) (N := 2) hB2 rfl (by decide) hg_4 (i := 1) (by decide) rfl
      clear hh_2
      obtain ⟨count_7, rfl, hlocount_7, hhicount_7, hfxcount_7⟩ := hv_5
      refine j7_read hx hb hown hK (C := RX0) (T := TX0) (N := 2) rfl hly_2_1 hlk_19 (hh_6.at 0 rfl) dX0_append_4 ?_
      refine lv_icmp_ge (tgt := 35) hx hb dX0_append_7 (by decide) (fun c_8 => ?_) (fun c_8 => ?_)
      · skip
        have c_8' : v2_2.toInt ≥ count_7.toInt := jb_ge (rfl) (rfl) c_8
        have hsz_9 := hh_6.2.2.2.2.2.1
        have htt_9 := hh_6.2.2.2.2.2.2.1
        refine W.room (fun hrc_9 hrs_9 => ?_)
        refine W.widen (k := LC - s.heap.size) (n := LS - jTot s.heap) (by omega) (by omega) ?_
        rw [hQ]
        exact W.vret hx hb hr (fun t ht hW => ⟨⟨(wc_2, wr_2, m_wr_2, Gx_2), rfl, by (try dsimp only); exact ⟨(by first | omega | rfl | assumption | fail), (by first | omega | rfl | assumption | fail), (by first | omega | rfl | assumption | fail), (by first | omega | rfl | assumption | fail), (by first | assumption | fail | omega)⟩, ⟨hh_6.ra (by first | omega | (simp only; omega)) (by first | omega | (simp only; omega)) (M1 := [(r0, 2, 1, .int wc_2), (r0, 2, 0, .ref wr_2)]) [1, 2] rfl ht, hg_wr_2, hN_2, by rw [ht]; exact hh_6.iv 0 rfl⟩⟩, by rw [ht]; try exact hh_6.1.1, fun q h9 hq => by rw [ht]; try exact hh_6.1.2.1 q h9 hq⟩) hh_6.1.2.2 dX0_append_35
      · skip
        have c_8' : v2_2.toInt < count_7.toInt := jb_ge_n (rfl) (rfl) c_8
        refine lv_iload_n hx hb dX0_append_10 rfl (lv_at hl 2 rfl) ?_
        refine lv_aload_n hx hb dX0_append_11 rfl (lv_at hl 1 rfl) ?_
        obtain ⟨v_10, hv_10, hh_11⟩ := hh_6.pin (C := RX0) (T := TX0) (N := 2) hB2 rfl (by decide) hg_4 (i := 0) (by decide) rfl
        clear hh_6
        obtain ⟨row_12, nrow_12, rfl, hg_row_12, hlorow_12, hhirow_12, hpwrow_12, hfxrow_12⟩ := hv_10
        refine j7_read hx hb hown hK (C := RX0) (T := TX0) (N := 2) rfl hly_2_0 hlk_13 (hh_11.at 0 rfl) dX0_append_12 ?_
        refine j7_len hx hb hK hh_11 hB196 0 rfl (by decide) hg_row_12 (by omega) dX0_append_15 (fun z_13 hz_13 => ?_)
        refine lv_icmp_ge (tgt := 35) hx hb dX0_append_16 (by decide) (fun c_14 => ?_) (fun c_14 => ?_)
        · skip
          have c_14' : v2_2.toInt ≥ z_13.toInt := jb_ge (rfl) (rfl) c_14
          have hsz_15 := hh_11.2.2.2.2.2.1
          have htt_15 := hh_11.2.2.2.2.2.2.1
          refine W.room (fun hrc_15 hrs_15 => ?_)
          refine W.widen (k := LC - s.heap.size) (n := LS - jTot s.heap) (by omega) (by omega) ?_
          rw [hQ]
          exact W.vret hx hb hr (fun t ht hW => ⟨⟨(wc_2, wr_2, m_wr_2, Gx_2), rfl, by (try dsimp only); exact ⟨(by first | omega | rfl | assumption | fail), (by first | omega | rfl | assumption | fail), (by first | omega | rfl | assumption | fail), (by first | omega | rfl | assumption | fail), (by first | assumption | fail | omega)⟩, ⟨hh_11.ra (by first | omega | (simp only; omega)) (by first | omega | (simp only; omega)) (M1 := [(r0, 2, 1, .int wc_2), (r0, 2, 0, .ref wr_2)]) [2, 3] rfl ht, hg_wr_2, hN_2, by rw [ht]; exact hh_11.iv 0 rfl⟩⟩, by rw [ht]; try exact hh_11.1.1, fun q h9 hq => by rw [ht]; try exact hh_11.1.2.1 q h9 hq⟩) hh_11.1.2.2 dX0_append_35
        · skip
          have c_14' : v2_2.toInt < z_13.toInt := jb_ge_n (rfl) (rfl) c_14
          refine lv_aload_n hx hb dX0_append_19 rfl (lv_at hl 0 rfl) ?_
          refine lv_aload_n hx hb dX0_append_20 rfl (lv_at hl 1 rfl) ?_
          refine j7_read hx hb hown hK (C := RX0) (T := TX0) (N := 2) rfl hly_2_0 hlk_13 (hh_11.at 0 rfl) dX0_append_21 ?_
          refine lv_iload_n hx hb dX0_append_24 rfl (lv_at hl 2 rfl) ?_
          refine j7_bald hx hb hK hh_11 hB196 0 rfl (by decide) hg_row_12 (x := v2_2.toInt) (rfl) (by omega) dX0_append_25 (fun z_16 (hz_16 : jBf (v2_2.toInt).toNat z_16) => ?_)
          have hsz_17 := hh_11.2.2.2.2.2.1
          have htt_17 := hh_11.2.2.2.2.2.2.1
          refine W.room (fun hrc_17 hrs_17 => ?_)
          refine va_callv (A0 := jA base) (H0 := s.heap) (va_runV (As := [.int z_16]) (rest := []) ⟨hx, hb, hml, hown, hts⟩ (uX0_put l dC dI ca base B hB hAp hB2 hB196 Gx_2 H_2 r0 z_16 wc_2 wr_2 m_wr_2 LC LS) (cwV 1 hts (jgV (jWr_24 _ (List.mem_of_getElem? (i := 22) rfl)) (jWr_16 _ (List.mem_of_getElem? (i := 0) rfl)) (jWr_16 _ (List.mem_of_getElem? (i := 1) rfl)) (jWr_1 _ (List.mem_of_getElem? (i := 14) rfl)) (jWr_16 _ (List.mem_of_getElem? (i := 2) rfl))) rfl rfl rfl (by decide +kernel) ⟨by rw [← hR]; exact Nat.le_of_ble_eq_true rfl, by rw [← hR]; exact Nat.le_of_ble_eq_true rfl⟩) ⟨fun a U g mk q => by obtain ⟨q0, q1, q2, qK, q10, q11, q12, q13⟩ := q; exact ⟨q0, q1, q2, jG.calling g mk a qK, q10, q11, q12, q13⟩, hh_11.recv (C := RX0) (T := TX0) (N := 2) hB2 rfl (by decide) hg_3 hK, fun U hU hW => ⟨rfl, hU, hh_11.2.1, hG.step hW hU hh_11.1, hg_3, hg_wr_2, (hh_11.2.2.1.sub (L1 := [(r0, 2, 1, .int wc_2), (r0, 2, 0, .ref wr_2)]) [2, 3] rfl), (by omega), (by omega), by first | omega | (refine ⟨?_, ?_, ?_, ?_, ?_⟩ <;> (first | omega | rfl | assumption | decide | exact Or.inl rfl | exact Or.inr rfl | (simp only; omega)))⟩⟩ rfl rfl hl.1 rfl (lv_room (Nat.le_of_ble_eq_true rfl)) dX0_append_26 ⟨by rw [hRc]; omega, by rw [hRs]; omega⟩) hh_11.1 (fun q _ h => h) (fun q h => h) (fun u_17 t_17 H_17 locs_17 ht_17 hvm_17 hr_18 hb_17 hz_17 hk_17 hS_17 => ?_)
          obtain ⟨qc_17, qa_17, m_qa_17, G_17⟩ := u_17
          rw [ht_17] at hb_17
          simp only at hb_17
          obtain ⟨⟨hb_171, hb_172, hb_173, hb_174, hb_175, hb_176⟩, hgq_17_0, hN_17, hbO_17⟩ := hb_17
          have hh_17 : jSt (dC, dI) B base G0 G_17 EX0_append s.heap (zcx_2 + ((m_qa_17 - m_wr_2) / 16)) (zsx_2 + (2 * (m_qa_17 - m_wr_2))) [(r0, 2, 1, .int qc_17), (r0, 2, 0, .ref qa_17)] [] [] H_17 locs_17 := (hh_11.callG hb_171 hb_172 hb_173 hb_174 hb_175 hS_17 rfl (L1 := []) [] rfl rfl (M1 := []) [] rfl rfl (I1 := []) [] rfl rfl).more hb_176
          have hNn_17 : (jNk [0, 1, 2, 3, 4, 5, 6, 7, 8, 9, 10, 11, 12, 13, 14, 15, 16]) G0 G_17 := (hN_2).tr hN_17
          have hg_19 := hb_172 _ _ hg_3
          have hg_20 := hb_172 _ _ hg_4
          have hd_21 := jOw.tr (hh_11.iv 0 rfl) hh_11.2.2.2.2.1 hbO_17
          have hh_22 := hh_17.addI (jOw.ie (dC := dC) (dI := dI) (G0 := G0) (k := 2) (r := r0) (H0 := s.heap) (F := [(2, 0), (2, 1)]) (C := RX0) (T := TX0) (N := 2) rfl (by decide) hh_17.2.2.2.2.1 (hd_21))
          clear hh_17
          try simp only at hr_18
          obtain ⟨hr_18_0, hr_18_1, hr_18_2, hr_18_3, hr_18_4⟩ := hr_18
          obtain ⟨z_23, ez_23⟩ : ∃ y : Int32, y = v2_2 + 1 := ⟨_, rfl⟩
          refine lv_iinc (v := z_23) (lv' := [(2, .int z_23), (0, .ref r0), (1, .ref r1)]) hx hb dX0_append_29 hl (k := 2) rfl (by rw [ez_23]; rfl) (by decide) rfl (fun ls hl => ?_)
          have hz_23 : z_23.toInt = v2_2.toInt + 1 := by rw [ez_23]; exact jb_iadd2 (rfl) (by decide) (by omega)
          refine lv_goto (tgt := 2) hx hb dX0_append_32 (by decide) ?_
          refine W.tight (c2 := (zcx_2 + ((m_qa_17 - m_wr_2) / 16))) (n2 := (zsx_2 + (2 * (m_qa_17 - m_wr_2)))) hh_22.2.2.2.2.2.1 hh_22.2.2.2.2.2.2.1 ?_
          exact L2 G_17 (zcx_2 + ((m_qa_17 - m_wr_2) / 16)) (zsx_2 + (2 * (m_qa_17 - m_wr_2))) z_23 qc_17 qa_17 m_qa_17 _ _ hh_22 (hNn_17) ((hle_2).tr hb_172) hgq_17_0 (by first | omega | (refine ⟨?_, ?_, ?_, ?_, ?_, ?_, ?_, ?_, ?_⟩ <;> (first | omega | rfl | assumption | decide | exact Or.inl rfl | exact Or.inr rfl | (simp only; omega)))) (by omega) _ (lv_sub hl [1, 2, 0] rfl)
  refine W.tight (c2 := 0) (n2 := 0) hh_1.2.2.2.2.2.1 hh_1.2.2.2.2.2.2.1 ?_
  exact L2 (1048577 - (0 : Int32).toInt : Int).toNat.succ G0 0 0 0 pc pa n_pa _ _ hh_1 (jNk.rf) (jLe.rf) hg_pa (by first | omega | (refine ⟨?_, ?_, ?_, ?_, ?_, ?_, ?_, ?_, ?_⟩ <;> (first | omega | rfl | assumption | decide | exact Or.inl rfl | exact Or.inr rfl | (simp only; omega)))) (by omega) _ (lv_sub hl [1, 2, 0] rfl)
end
section
theorem dX1_keepChecked_0 : decode cX1_keepChecked 0 = .ok (.iconst 0, 1) := by decide +kernel
theorem dX1_keepChecked_1 : decode cX1_keepChecked 1 = .ok (.istore_n 1, 1) := by decide +kernel
theorem dX1_keepChecked_2 : decode cX1_keepChecked 2 = .ok (.iload_n 1, 1) := by decide +kernel
theorem dX1_keepChecked_3 : decode cX1_keepChecked 3 = .ok (.aload_n 0, 1) := by decide +kernel
theorem dX1_keepChecked_4 : decode cX1_keepChecked 4 = .ok (.getfield 72, 3) := by decide +kernel
theorem dX1_keepChecked_7 : decode cX1_keepChecked 7 = .ok (.if_icmp .ge 35, 3) := by decide +kernel
theorem dX1_keepChecked_10 : decode cX1_keepChecked 10 = .ok (.aload_n 0, 1) := by decide +kernel
theorem dX1_keepChecked_11 : decode cX1_keepChecked 11 = .ok (.getfield 32, 3) := by decide +kernel
theorem dX1_keepChecked_14 : decode cX1_keepChecked 14 = .ok (.iload_n 1, 1) := by decide +kernel
theorem dX1_keepChecked_15 : decode cX1_keepChecked 15 = .ok (.aaload, 1) := by decide +kernel
theorem dX1_keepChecked_16 : decode cX1_keepChecked 16 = .ok (.ifnull 26, 3) := by decide +kernel
theorem dX1_keepChecked_19 : decode cX1_keepChecked 19 = .ok (.aload_n 0, 1) := by decide +kernel
theorem dX1_keepChecked_20 : decode cX1_keepChecked 20 = .ok (.iload_n 1, 1) := by decide +kernel
theorem dX1_keepChecked_21 : decode cX1_keepChecked 21 = .ok (.aload_n 0, 1) := by decide +kernel
theorem dX1_keepChecked_22 : decode cX1_keepChecked 22 = .ok (.getfield 32, 3) := by decide +kernel
theorem dX1_keepChecked_25 : decode cX1_keepChecked 25 = .ok (.iload_n 1, 1) := by decide +kernel
theorem dX1_keepChecked_26 : decode cX1_keepChecked 26 = .ok (.aaload, 1) := by decide +kernel
theorem dX1_keepChecked_27 : decode cX1_keepChecked 27 = .ok (.getfield 98, 3) := by decide +kernel
theorem dX1_keepChecked_30 : decode cX1_keepChecked 30 = .ok (.invokevirtual 101, 3) := by decide +kernel
theorem dX1_keepChecked_33 : decode cX1_keepChecked 33 = .ok (.ifCond .eq 9, 3) := by decide +kernel
theorem dX1_keepChecked_36 : decode cX1_keepChecked 36 = .ok (.iinc 1 1, 3) := by decide +kernel
theorem dX1_keepChecked_39 : decode cX1_keepChecked 39 = .ok (.goto (-37), 3) := by decide +kernel
theorem dX1_keepChecked_42 : decode cX1_keepChecked 42 = .ok (.iload_n 1, 1) := by decide +kernel
theorem dX1_keepChecked_43 : decode cX1_keepChecked 43 = .ok (.aload_n 0, 1) := by decide +kernel
theorem dX1_keepChecked_44 : decode cX1_keepChecked 44 = .ok (.getfield 72, 3) := by decide +kernel
theorem dX1_keepChecked_47 : decode cX1_keepChecked 47 = .ok (.if_icmp .ne 26, 3) := by decide +kernel
theorem dX1_keepChecked_50 : decode cX1_keepChecked 50 = .ok (.aload_n 0, 1) := by decide +kernel
theorem dX1_keepChecked_51 : decode cX1_keepChecked 51 = .ok (.getfield 105, 3) := by decide +kernel
theorem dX1_keepChecked_54 : decode cX1_keepChecked 54 = .ok (.ifnull 19, 3) := by decide +kernel
theorem dX1_keepChecked_57 : decode cX1_keepChecked 57 = .ok (.aload_n 0, 1) := by decide +kernel
theorem dX1_keepChecked_58 : decode cX1_keepChecked 58 = .ok (.iload_n 1, 1) := by decide +kernel
theorem dX1_keepChecked_59 : decode cX1_keepChecked 59 = .ok (.aload_n 0, 1) := by decide +kernel
theorem dX1_keepChecked_60 : decode cX1_keepChecked 60 = .ok (.getfield 105, 3) := by decide +kernel
theorem dX1_keepChecked_63 : decode cX1_keepChecked 63 = .ok (.invokevirtual 101, 3) := by decide +kernel
theorem dX1_keepChecked_66 : decode cX1_keepChecked 66 = .ok (.ifCond .eq 7, 3) := by decide +kernel
theorem dX1_keepChecked_69 : decode cX1_keepChecked 69 = .ok (.iconst 1, 1) := by decide +kernel
theorem dX1_keepChecked_70 : decode cX1_keepChecked 70 = .ok (.goto 4, 3) := by decide +kernel
theorem dX1_keepChecked_73 : decode cX1_keepChecked 73 = .ok (.iconst 0, 1) := by decide +kernel
theorem dX1_keepChecked_74 : decode cX1_keepChecked 74 = .ok (.istore_n 2, 1) := by decide +kernel
theorem dX1_keepChecked_75 : decode cX1_keepChecked 75 = .ok (.aload_n 0, 1) := by decide +kernel
theorem dX1_keepChecked_76 : decode cX1_keepChecked 76 = .ok (.iload_n 1, 1) := by decide +kernel
theorem dX1_keepChecked_77 : decode cX1_keepChecked 77 = .ok (.putfield 72, 3) := by decide +kernel
theorem dX1_keepChecked_80 : decode cX1_keepChecked 80 = .ok (.iload_n 2, 1) := by decide +kernel
theorem dX1_keepChecked_81 : decode cX1_keepChecked 81 = .ok (.ireturn, 1) := by decide +kernel
end
section
theorem dX11_release_0 : decode cX11_release 0 = .ok (.aload_n 1, 1) := by decide +kernel
theorem dX11_release_1 : decode cX11_release 1 = .ok (.aconst_null, 1) := by decide +kernel
theorem dX11_release_2 : decode cX11_release 2 = .ok (.putfield 567, 3) := by decide +kernel
theorem dX11_release_5 : decode cX11_release 5 = .ok (.aload_n 1, 1) := by decide +kernel
theorem dX11_release_6 : decode cX11_release 6 = .ok (.aconst_null, 1) := by decide +kernel
theorem dX11_release_7 : decode cX11_release 7 = .ok (.putfield 580, 3) := by decide +kernel
theorem dX11_release_10 : decode cX11_release 10 = .ok (.aload_n 1, 1) := by decide +kernel
theorem dX11_release_11 : decode cX11_release 11 = .ok (.iconst 0, 1) := by decide +kernel
theorem dX11_release_12 : decode cX11_release 12 = .ok (.putfield 577, 3) := by decide +kernel
theorem dX11_release_15 : decode cX11_release 15 = .ok (.iconst 0, 1) := by decide +kernel
theorem dX11_release_16 : decode cX11_release 16 = .ok (.istore_n 2, 1) := by decide +kernel
theorem dX11_release_17 : decode cX11_release 17 = .ok (.iload_n 2, 1) := by decide +kernel
theorem dX11_release_18 : decode cX11_release 18 = .ok (.iconst 2, 1) := by decide +kernel
theorem dX11_release_19 : decode cX11_release 19 = .ok (.if_icmp .ge 26, 3) := by decide +kernel
theorem dX11_release_22 : decode cX11_release 22 = .ok (.aload_n 0, 1) := by decide +kernel
theorem dX11_release_23 : decode cX11_release 23 = .ok (.getfield 73, 3) := by decide +kernel
theorem dX11_release_26 : decode cX11_release 26 = .ok (.iload_n 2, 1) := by decide +kernel
theorem dX11_release_27 : decode cX11_release 27 = .ok (.aaload, 1) := by decide +kernel
theorem dX11_release_28 : decode cX11_release 28 = .ok (.aload_n 1, 1) := by decide +kernel
theorem dX11_release_29 : decode cX11_release 29 = .ok (.if_acmp .ne 10, 3) := by decide +kernel
theorem dX11_release_32 : decode cX11_release 32 = .ok (.aload_n 0, 1) := by decide +kernel
theorem dX11_release_33 : decode cX11_release 33 = .ok (.getfield 73, 3) := by decide +kernel
theorem dX11_release_36 : decode cX11_release 36 = .ok (.iload_n 2, 1) := by decide +kernel
theorem dX11_release_37 : decode cX11_release 37 = .ok (.aconst_null, 1) := by decide +kernel
theorem dX11_release_38 : decode cX11_release 38 = .ok (.aastore, 1) := by decide +kernel
theorem dX11_release_39 : decode cX11_release 39 = .ok (.iinc 2 1, 3) := by decide +kernel
theorem dX11_release_42 : decode cX11_release 42 = .ok (.goto (-25), 3) := by decide +kernel
theorem dX11_release_45 : decode cX11_release 45 = .ok (.return_, 1) := by decide +kernel
end
section
theorem dX11_beginAnswer_0 : decode cX11_beginAnswer 0 = .ok (.aload_n 0, 1) := by decide +kernel
theorem dX11_beginAnswer_1 : decode cX11_beginAnswer 1 = .ok (.getfield 35, 3) := by decide +kernel
theorem dX11_beginAnswer_4 : decode cX11_beginAnswer 4 = .ok (.iconst 0, 1) := by decide +kernel
theorem dX11_beginAnswer_5 : decode cX11_beginAnswer 5 = .ok (.putfield 92, 3) := by decide +kernel
theorem dX11_beginAnswer_8 : decode cX11_beginAnswer 8 = .ok (.aload_n 0, 1) := by decide +kernel
theorem dX11_beginAnswer_9 : decode cX11_beginAnswer 9 = .ok (.getfield 35, 3) := by decide +kernel
theorem dX11_beginAnswer_12 : decode cX11_beginAnswer 12 = .ok (.ldc_w 491, 3) := by decide +kernel
theorem dX11_beginAnswer_15 : decode cX11_beginAnswer 15 = .ok (.invokevirtual 297, 3) := by decide +kernel
theorem dX11_beginAnswer_18 : decode cX11_beginAnswer 18 = .ok (.aload_n 1, 1) := by decide +kernel
theorem dX11_beginAnswer_19 : decode cX11_beginAnswer 19 = .ok (.getfield 114, 3) := by decide +kernel
theorem dX11_beginAnswer_22 : decode cX11_beginAnswer 22 = .ok (.ifnonnull 16, 3) := by decide +kernel
theorem dX11_beginAnswer_25 : decode cX11_beginAnswer 25 = .ok (.aload_n 0, 1) := by decide +kernel
theorem dX11_beginAnswer_26 : decode cX11_beginAnswer 26 = .ok (.getfield 35, 3) := by decide +kernel
theorem dX11_beginAnswer_29 : decode cX11_beginAnswer 29 = .ok (.ldc_w 493, 3) := by decide +kernel
theorem dX11_beginAnswer_32 : decode cX11_beginAnswer 32 = .ok (.invokevirtual 297, 3) := by decide +kernel
theorem dX11_beginAnswer_35 : decode cX11_beginAnswer 35 = .ok (.goto 14, 3) := by decide +kernel
theorem dX11_beginAnswer_38 : decode cX11_beginAnswer 38 = .ok (.aload_n 0, 1) := by decide +kernel
theorem dX11_beginAnswer_39 : decode cX11_beginAnswer 39 = .ok (.getfield 35, 3) := by decide +kernel
theorem dX11_beginAnswer_42 : decode cX11_beginAnswer 42 = .ok (.aload_n 1, 1) := by decide +kernel
theorem dX11_beginAnswer_43 : decode cX11_beginAnswer 43 = .ok (.getfield 114, 3) := by decide +kernel
theorem dX11_beginAnswer_46 : decode cX11_beginAnswer 46 = .ok (.invokevirtual 495, 3) := by decide +kernel
theorem dX11_beginAnswer_49 : decode cX11_beginAnswer 49 = .ok (.aload_n 0, 1) := by decide +kernel
theorem dX11_beginAnswer_50 : decode cX11_beginAnswer 50 = .ok (.getfield 35, 3) := by decide +kernel
theorem dX11_beginAnswer_53 : decode cX11_beginAnswer 53 = .ok (.aload_n 2, 1) := by decide +kernel
theorem dX11_beginAnswer_54 : decode cX11_beginAnswer 54 = .ok (.invokevirtual 297, 3) := by decide +kernel
theorem dX11_beginAnswer_57 : decode cX11_beginAnswer 57 = .ok (.return_, 1) := by decide +kernel
def EX11_beginAnswer : List (Nat × Nat) := [(2, 0), (2, 1), (196, 0)]
set_option maxHeartbeats 4000000 in
set_option maxRecDepth 20000 in
theorem uX11_beginAnswer (l : Launch) (dC : Nat → ClassId) (dI : Nat → Nat → Nat) (ca : Nat → ClassId) (base : Nat) (B : jF) (hB : jBok B) (hAp : jAp (dC, dI)) (hB2 : ∀ n G a H, B 2 n G a H ↔ jOb (dC, dI) 2 2 (F2 n G) a H) (hB10 : ∀ n G a H, B 10 n G a H ↔ jOb (dC, dI) 10 5 (F10 n G) a H) (hB13 : ∀ n G a H, B 13 n G a H ↔ jOb (dC, dI) 13 19 (F13 n G) a H) (hB196 : ∀ n G a H, B 196 n G a H ↔ jAr (dC, dI) (ca 0) (fun j z => jBf j z) n a H) (G0 : jT) (H0 : Heap) (r0 : Nat) (r1 : Nat) (r2 : Nat) (n2 : Nat) (bo : Nat) (pc : Int32) (pa : Nat) (n_pa : Nat) (LC LS : Nat) : Met l yX11_beginAnswer (jw yX11_beginAnswer cX11_beginAnswer 3 none) ({ frames := 5, cells := LC - H0.size, slots := LS - jTot H0, locals := 163 }) (va_Pc [.ref r0, .ref r1, .ref r2] (fun U => U.heap = H0 ∧ jX B base G0 [] H0 ∧ jG dC dI ca base U ∧ jStr base r2 n2 U H0 ∧ G0 r1 = some (10, 0) ∧ G0 r0 = some (13, 0) ∧ G0 bo = some (2, 0) ∧ G0 pa = some (196, n_pa) ∧ jP (dC, dI) G0 H0 [(r0, 13, 4, .ref bo), (bo, 2, 1, .int pc), (bo, 2, 0, .ref pa)] ∧ jIs (dC, dI) G0 H0 [(jFy, jYb dC dI G0)] ∧ H0.size + (1048576 - n_pa) / 16 + 1 ≤ LC ∧ jTot H0 + 2 * (1048576 - n_pa) ≤ LS ∧ 0 ≤ pc.toInt ∧ pc.toInt ≤ n_pa ∧ 16 ≤ n_pa ∧ n_pa ≤ 1048576 ∧ jPw n_pa ∧ n2 < 2147483648)) (va_Qv (S := Int32 × Nat × Nat × jT) (fun u => 0 ≤ u.1.toInt ∧ u.1.toInt ≤ u.2.2.1 ∧ n_pa ≤ u.2.2.1 ∧ u.2.2.1 ≤ 1048576 ∧ jPw u.2.2.1) (fun u t => jRa (dC, dI) B base G0 u.2.2.2 EX11_beginAnswer H0 ((u.2.2.1 - n_pa) / 16) (2 * (u.2.2.1 - n_pa)) [(bo, 2, 1, .int u.1), (bo, 2, 0, .ref u.2.1)] t.heap ∧ u.2.2.2 u.2.1 = some (196, u.2.2.1) ∧ (jNk [0, 1, 2, 3, 4, 5, 6, 7, 8, 9, 10, 11, 12, 13, 14, 15, 16]) G0 u.2.2.2 ∧ jOl (dC, dI) G0 2 [bo] H0 t.heap ∧ jIs (dC, dI) u.2.2.2 t.heap [(jFy, jYb dC dI u.2.2.2)]) (jA base)) (LC - H0.size) (LS - jTot H0) (jA base) := by
  refine Met.ofW (cc := cX11_beginAnswer) (maxL := 3) (ret := none) (by decide) rfl ?_
  intro p e s m args below meth c s₁ Bd hml hv
  obtain ⟨rfl, hH0, hX, hG, hstr_r2, hg_r1, hg_r0, hg_bo, hg_pa, hP0, hI0, hLC0, hLS0, hp0, hp1, hp2, hp3, hp4, hp5⟩ := hv
  have hK := hG.1
  have hx := Bd.exec
  have hb := Bd.bytes
  have hr := Bd.returns
  have hts := atoms_spec (ws := (jw yX11_beginAnswer cX11_beginAnswer 3 none)) Bd.pre
  have htw : ∀ w ∈ jWl, w.before _ s = true := fun w h => hts w (List.mem_cons_of_mem _ h)
  have hown : s.vm.findClass RX11 = some m.cls := findClass_of_methodNamed Bd.named
  have hlocks := Bd.notSynchronized
  obtain ⟨Q, hQ⟩ : ∃ Q, Q = MQ below (va_Qv (S := Int32 × Nat × Nat × jT) (fun u => 0 ≤ u.1.toInt ∧ u.1.toInt ≤ u.2.2.1 ∧ n_pa ≤ u.2.2.1 ∧ u.2.2.1 ≤ 1048576 ∧ jPw u.2.2.1) (fun u t => jRa (dC, dI) B base G0 u.2.2.2 EX11_beginAnswer H0 ((u.2.2.1 - n_pa) / 16) (2 * (u.2.2.1 - n_pa)) [(bo, 2, 1, .int u.1), (bo, 2, 0, .ref u.2.1)] t.heap ∧ u.2.2.2 u.2.1 = some (196, u.2.2.1) ∧ (jNk [0, 1, 2, 3, 4, 5, 6, 7, 8, 9, 10, 11, 12, 13, 14, 15, 16]) G0 u.2.2.2 ∧ jOl (dC, dI) G0 2 [bo] H0 t.heap ∧ jIs (dC, dI) u.2.2.2 t.heap [(jFy, jYb dC dI u.2.2.2)]) (jA base)) ([.ref r0, .ref r1, .ref r2] : List Value).toArray s (LC - H0.size) (LS - jTot H0) (jA base) := ⟨_, rfl⟩
  rw [← hQ]
  have hl := lv_entry ([.ref r0, .ref r1, .ref r2]) (n := 3) (Nat.le_of_ble_eq_true rfl)
  rw [lg_entry_eq]
  generalize (lg_sl ([.ref r0, .ref r1, .ref r2]) ++ List.replicate (3 - (lg_sl ([.ref r0, .ref r1, .ref r2])).length) Slot.unset).toArray = ls at hl ⊢
  have hl : lv_has ls 3 [(0, .ref r0), (1, .ref r1), (2, .ref r2)] := hl
  generalize hR : (headSpec (jw yX11_beginAnswer cX11_beginAnswer 3 none) ({ frames := 5, cells := LC - H0.size, slots := LS - jTot H0, locals := 163 })).room = R
  subst hH0
  have hh : jSt (dC, dI) B base G0 G0 EX11_beginAnswer s.heap 0 0 [(r0, 13, 4, .ref bo), (bo, 2, 1, .int pc), (bo, 2, 0, .ref pa)] [] [(jFy, jYb dC dI G0)] s.heap [] := jSt.start hX hP0 jMc.nil hI0
  clear hX hP0
  have hk0 : (0 : Int32).toInt = 0 := by decide
  have hk1 : (1 : Int32).toInt = 1 := by decide
  have hly_2_1 := htw (u_lay RX0 TX0 1) (jWc_wsX00 _ (u_in_lay (by decide)))
  have hly_10_0 := htw (u_lay RX8 TX8 0) (jWc_wsX80 _ (u_in_lay (by decide)))
  have hly_13_4 := htw (u_lay RX11 TX11 4) (jWc_wsX110 _ (u_in_lay (by decide)))
  have hlk_35 := (htw (.fieldLink RX11 35 "ProofServer" "body" "LProofServer$Bytes;") (jWr_2 _ (List.mem_of_getElem? (i := 1) rfl)))
  have hlk_92 := (htw (.fieldLink RX11 92 "ProofServer$Bytes" "count" "I") (jWr_15 _ (List.mem_of_getElem? (i := 18) rfl)))
  obtain ⟨str491, rstr491, hstr4910⟩ := hG.str (o := RX11) (k := 491) (tx := "{\"jsonrpc\":\"2.0\",\"id\":") (List.mem_of_getElem? (i := 826) (by decide +kernel))
  have hstr491 : jStr base str491 22 s s.heap := hstr4910
  have hlk_114 := (htw (.fieldLink RX11 114 "ProofServer$Request" "id" "LProofServer$Bytes;") (jWr_17 _ (List.mem_of_getElem? (i := 9) rfl)))
  obtain ⟨str493, rstr493, hstr4930⟩ := hG.str (o := RX11) (k := 493) (tx := "null") (List.mem_of_getElem? (i := 828) (by decide +kernel))
  have hstr493 : jStr base str493 4 s s.heap := hstr4930
  have hbs : base ≤ s.heap.size := Nat.le_of_lt (Nat.lt_of_le_of_lt (hh.ab hg_r0).1 (hh.ab hg_r0).2)
  have hRc : R.cells = LC - s.heap.size := by rw [← hR]; rfl
  have hRs : R.slots = LS - jTot s.heap := by rw [← hR]; rfl
  have hh_1 := hh.addI (jOl.ie (dC := dC) (dI := dI) (G0 := G0) (k := 2) (rs := [bo]) (H0 := s.heap) (F := [(2, 0), (2, 1)]) (C := RX0) (T := TX0) (N := 2) rfl (by decide) hh.2.2.2.2.1 (jOl.rf))
  clear hh
  refine lv_aload_n hx hb dX11_beginAnswer_0 rfl (lv_at hl 0 rfl) ?_
  refine j7_read hx hb hown hK (C := RX11) (T := TX11) (N := 19) rfl hly_13_4 hlk_35 (hh_1.at 0 rfl) dX11_beginAnswer_1 ?_
  refine lv_iconst (v := 0) hx hb dX11_beginAnswer_4 (by decide) ?_
  have hd_3 := hh_1.iv 0 rfl
  have hd_4 := hh_1.iv 1 rfl
  have hh_5 := hh_1.sub (L1 := [(r0, 13, 4, .ref bo), (bo, 2, 1, .int pc), (bo, 2, 0, .ref pa)]) [0, 1, 2] rfl (M1 := []) [] rfl (I1 := []) [] rfl
  clear hh_1
  refine j7_putX hx hb hown hK hh_5 hB hAp hB2 (C := RX0) (T := TX0) (N := 2) rfl (by decide) hg_bo (i := 1) (by decide) hly_2_1 rfl hlk_92 rfl (ty := .int) (v := .int 0) (by decide +kernel) rfl rfl (⟨_, rfl, by omega, by omega, by omega⟩) rfl (L1 := [(r0, 13, 4, .ref bo), (bo, 2, 0, .ref pa)]) [0, 2] rfl rfl rfl dX11_beginAnswer_5 (fun H_2 locs_2 hr_2 hh_2 => ?_)
  clear hh_5
  have hd_4n := jYb.put hd_4 hr_2 hg_bo (fun h9 => ⟨_, _, _, hh_2.at 0 rfl, hh_2.at 2 rfl, hg_pa, by omega⟩)
  have hd_3n := jOl.put hd_3 hr_2 (by simp)
  have hh_6 := hh_2.addI (jYb.ie hd_4n)
  clear hh_2
  have hh_7 := hh_6.addI (jOl.ie (dC := dC) (dI := dI) (G0 := G0) (k := 2) (rs := [bo]) (H0 := s.heap) (F := [(2, 0), (2, 1)]) (C := RX0) (T := TX0) (N := 2) rfl (by decide) hh_6.2.2.2.2.1 (hd_3n))
  clear hh_6
  clear hd_3 hd_3n hd_4 hd_4n hr_2
  refine lv_aload_n hx hb dX11_beginAnswer_8 rfl (lv_at hl 0 rfl) ?_
  refine j7_read hx hb hown hK (C := RX11) (T := TX11) (N := 19) rfl hly_13_4 hlk_35 (hh_7.at 1 rfl) dX11_beginAnswer_9 ?_
  refine j_ldcSw hx hb hown rstr491 dX11_beginAnswer_12 ?_
  have hsz_8 := hh_7.2.2.2.2.2.1
  have htt_8 := hh_7.2.2.2.2.2.2.1
  refine W.room (fun hrc_8 hrs_8 => ?_)
  refine va_callv (A0 := jA base) (H0 := s.heap) (va_runV (As := [.ref str491]) (rest := []) ⟨hx, hb, hml, hown, hts⟩ (uX0_text l dC dI ca base B hB hAp hB2 hB196 G0 H_2 bo str491 22 0 pa n_pa LC LS) (cwV 1 hts (jgV (jWr_26 _ (List.mem_of_getElem? (i := 11) rfl)) (jWr_25 _ (List.mem_of_getElem? (i := 22) rfl)) (jWr_25 _ (List.mem_of_getElem? (i := 23) rfl)) (jWr_1 _ (List.mem_of_getElem? (i := 14) rfl)) (jWr_26 _ (List.mem_of_getElem? (i := 0) rfl))) rfl rfl rfl (by decide +kernel) ⟨by rw [← hR]; exact Nat.le_of_ble_eq_true rfl, by rw [← hR]; exact Nat.le_of_ble_eq_true rfl⟩) ⟨fun a U g mk q => by obtain ⟨q0, q1, q2, qK, q10, q11, q12, q13, q14⟩ := q; exact ⟨q0, q1, q2, jG.calling g mk a qK, (q10.moved (Vm.Alike.refl U.vm)), q11, q12, q13, q14⟩, hh_7.recv (C := RX0) (T := TX0) (N := 2) hB2 rfl (by decide) hg_bo hK, fun U hU hW => ⟨rfl, hU, hh_7.2.1, hG.step hW hU hh_7.1, (hstr491.moved hW.alike).kept hh_7.1.2.1, hg_bo, hg_pa, (hh_7.2.2.1.sub (L1 := [(bo, 2, 1, .int 0), (bo, 2, 0, .ref pa)]) [0, 2] rfl), (by omega), (by omega), ⟨(by first | omega | rfl | assumption | fail), (by first | omega | rfl | assumption | fail), (by first | omega | rfl | assumption | fail), (by first | omega | rfl | assumption | fail), (by first | assumption | fail | omega), (by first | omega | rfl | assumption | fail)⟩⟩⟩ rfl rfl hl.1 rfl (lv_room (Nat.le_of_ble_eq_true rfl)) dX11_beginAnswer_15 ⟨by rw [hRc]; omega, by rw [hRs]; omega⟩) hh_7.1 (fun q _ h => h) (fun q h => h) (fun u_8 t_8 H_8 locs_8 ht_8 hvm_8 hr_9 hb_8 hz_8 hk_8 hS_8 => ?_)
  obtain ⟨qc_8, qa_8, m_qa_8, G_8⟩ := u_8
  rw [ht_8] at hb_8
  simp only at hb_8
  obtain ⟨⟨hb_81, hb_82, hb_83, hb_84, hb_85, hb_86⟩, hgq_8_0, hN_8, hbO_8⟩ := hb_8
  have hy_10 := hh_7.iv 1 rfl
  have hh_8 : jSt (dC, dI) B base G0 G_8 EX11_beginAnswer s.heap (0 + ((m_qa_8 - n_pa) / 16)) (0 + (2 * (m_qa_8 - n_pa))) [(bo, 2, 1, .int qc_8), (bo, 2, 0, .ref qa_8), (r0, 13, 4, .ref bo)] [] [] H_8 locs_8 := (hh_7.callG hb_81 hb_82 hb_83 hb_84 hb_85 hS_8 rfl (L1 := [(r0, 13, 4, .ref bo)]) [1] rfl rfl (M1 := []) [] rfl rfl (I1 := []) [] rfl rfl).more hb_86
  have hNn_8 : (jNk [0, 1, 2, 3, 4, 5, 6, 7, 8, 9, 10, 11, 12, 13, 14, 15, 16]) G0 G_8 := (jNk.rf).tr hN_8
  have hg_11 := hb_82 _ _ hg_r0
  have hg_12 := hb_82 _ _ hg_r1
  have hg_13 := hb_82 _ _ hg_bo
  have hd_14 := jOl.trO (hh_7.iv 0 rfl) hh_7.2.2.2.2.1 hbO_8 (by simp)
  have hh_15 := hh_8.addI (jOl.ie (dC := dC) (dI := dI) (G0 := G0) (k := 2) (rs := [bo]) (H0 := s.heap) (F := [(2, 0), (2, 1)]) (C := RX0) (T := TX0) (N := 2) rfl (by decide) hh_8.2.2.2.2.1 (hd_14))
  clear hh_8
  have hyp_8 : qc_8.toInt ≤ (m_qa_8 : Nat) ∧ m_qa_8 ≤ 1048576 := by (try simp only at hr_9); omega
  have hy_16 := jYb.own hy_10 hbO_8 hb_82 hN_8 (by decide) (fun _ => ⟨_, _, _, hh_15.at 0 rfl, hh_15.at 1 rfl, hgq_8_0, hyp_8⟩)
  have hh_17 := hh_15.addI (jYb.ie hy_16)
  clear hh_15
  try simp only at hr_9
  obtain ⟨hr_9_0, hr_9_1, hr_9_2, hr_9_3, hr_9_4⟩ := hr_9
  have hh_18 := hh_17.wk (zc1 := (m_qa_8 - n_pa) / 16) (zs1 := 2 * (m_qa_8 - n_pa)) (by omega) (by omega)
  clear hh_17
  try clear hsz_8 htt_8 hrc_8 hrs_8
  try clear hb_84 hb_85
  refine lv_aload_n hx hb dX11_beginAnswer_18 rfl (lv_at hl 1 rfl) ?_
  obtain ⟨v_19, hv_19, hh_20⟩ := hh_18.pin (C := RX8) (T := TX8) (N := 5) hB10 rfl (by decide) hg_12 (i := 0) (by decide) rfl
  clear hh_18
  rcases hv_19 with rfl | ⟨id_21, rfl, hg_id_21⟩
  · refine j7_read hx hb hown hK (C := RX8) (T := TX8) (N := 5) rfl hly_10_0 hlk_114 (hh_20.at 0 rfl) dX11_beginAnswer_19 ?_
    refine lv_ifnonnullN hx hb dX11_beginAnswer_22 ?_
    refine lv_aload_n hx hb dX11_beginAnswer_25 rfl (lv_at hl 0 rfl) ?_
    refine j7_read hx hb hown hK (C := RX11) (T := TX11) (N := 19) rfl hly_13_4 hlk_35 (hh_20.at 3 rfl) dX11_beginAnswer_26 ?_
    refine j_ldcSw hx hb hown rstr493 dX11_beginAnswer_29 ?_
    have hsz_22 := hh_20.2.2.2.2.2.1
    have htt_22 := hh_20.2.2.2.2.2.2.1
    refine W.room (fun hrc_22 hrs_22 => ?_)
    refine va_callv (A0 := jA base) (H0 := s.heap) (va_runV (As := [.ref str493]) (rest := []) ⟨hx, hb, hml, hown, hts⟩ (uX0_text l dC dI ca base B hB hAp hB2 hB196 G_8 H_8 bo str493 4 qc_8 qa_8 m_qa_8 LC LS) (cwV 1 hts (jgV (jWr_26 _ (List.mem_of_getElem? (i := 11) rfl)) (jWr_25 _ (List.mem_of_getElem? (i := 22) rfl)) (jWr_25 _ (List.mem_of_getElem? (i := 23) rfl)) (jWr_1 _ (List.mem_of_getElem? (i := 14) rfl)) (jWr_26 _ (List.mem_of_getElem? (i := 0) rfl))) rfl rfl rfl (by decide +kernel) ⟨by rw [← hR]; exact Nat.le_of_ble_eq_true rfl, by rw [← hR]; exact Nat.le_of_ble_eq_true rfl⟩) ⟨fun a U g mk q => by obtain ⟨q0, q1, q2, qK, q10, q11, q12, q13, q14⟩ := q; exact ⟨q0, q1, q2, jG.calling g mk a qK, (q10.moved (Vm.Alike.refl U.vm)), q11, q12, q13, q14⟩, hh_20.recv (C := RX0) (T := TX0) (N := 2) hB2 rfl (by decide) hg_13 hK, fun U hU hW => ⟨rfl, hU, hh_20.2.1, hG.step hW hU hh_20.1, (hstr493.moved hW.alike).kept hh_20.1.2.1, hg_13, hgq_8_0, (hh_20.2.2.1.sub (L1 := [(bo, 2, 1, .int qc_8), (bo, 2, 0, .ref qa_8)]) [1, 2] rfl), (by omega), (by omega), ⟨(by first | omega | rfl | assumption | fail), (by first | omega | rfl | assumption | fail), (by first | omega | rfl | assumption | fail), (by first | omega | rfl | assumption | fail), (by first | assumption | fail | omega), (by first | omega | rfl | assumption | fail)⟩⟩⟩ rfl rfl hl.1 rfl (lv_room (Nat.le_of_ble_eq_true rfl)) dX11_beginAnswer_32 ⟨by rw [hRc]; omega, by rw [hRs]; omega⟩) hh_20.1 (fun q _ h => h) (fun q h => h) (fun u_22 t_22 H_22 locs_22 ht_22 hvm_22 hr_23 hb_22 hz_22 hk_22 hS_22 => ?_)
    obtain ⟨qc_22, qa_22, m_qa_22, G_22⟩ := u_22
    rw [ht_22] at hb_22
    simp only at hb_22
    obtain ⟨⟨hb_221, hb_222, hb_223, hb_224, hb_225, hb_226⟩, hgq_22_0, hN_22, hbO_22⟩ := hb_22
    have hy_24 := hh_20.iv 0 rfl
    have hh_22 : jSt (dC, dI) B base G0 G_22 EX11_beginAnswer s.heap (((m_qa_8 - n_pa) / 16) + ((m_qa_22 - m_qa_8) / 16)) ((2 * (m_qa_8 - n_pa)) + (2 * (m_qa_22 - m_qa_8))) [(bo, 2, 1, .int qc_22), (bo, 2, 0, .ref qa_22), (r1, 10, 0, .null), (r0, 13, 4, .ref bo)] [] [] H_22 locs_22 := (hh_20.callG hb_221 hb_222 hb_223 hb_224 hb_225 hS_22 rfl (L1 := [(r1, 10, 0, .null), (r0, 13, 4, .ref bo)]) [0, 3] rfl rfl (M1 := []) [] rfl rfl (I1 := []) [] rfl rfl).more hb_226
    have hNn_22 : (jNk [0, 1, 2, 3, 4, 5, 6, 7, 8, 9, 10, 11, 12, 13, 14, 15, 16]) G0 G_22 := (hNn_8).tr hN_22
    have hg_25 := hb_222 _ _ hg_11
    have hg_26 := hb_222 _ _ hg_12
    have hg_27 := hb_222 _ _ hg_13
    have hd_28 := jOl.trO (hh_20.iv 1 rfl) hh_20.2.2.2.2.1 hbO_22 (by simp)
    have hh_29 := hh_22.addI (jOl.ie (dC := dC) (dI := dI) (G0 := G0) (k := 2) (rs := [bo]) (H0 := s.heap) (F := [(2, 0), (2, 1)]) (C := RX0) (T := TX0) (N := 2) rfl (by decide) hh_22.2.2.2.2.1 (hd_28))
    clear hh_22
    have hyp_22 : qc_22.toInt ≤ (m_qa_22 : Nat) ∧ m_qa_22 ≤ 1048576 := by (try simp only at hr_23); omega
    have hy_30 := jYb.own hy_24 hbO_22 hb_222 hN_22 (by decide) (fun _ => ⟨_, _, _, hh_29.at 0 rfl, hh_29.at 1 rfl, hgq_22_0, hyp_22⟩)
    have hh_31 := hh_29.addI (jYb.ie hy_30)
    clear hh_29
    try simp only at hr_23
    obtain ⟨hr_23_0, hr_23_1, hr_23_2, hr_23_3, hr_23_4⟩ := hr_23
    have hh_32 := hh_31.wk (zc1 := (m_qa_22 - n_pa) / 16) (zs1 := 2 * (m_qa_22 - n_pa)) (by omega) (by omega)
    clear hh_31
    try clear hsz_22 htt_22 hrc_22 hrs_22
    try clear hb_224 hb_225
    refine lv_goto (tgt := 49) hx hb dX11_beginAnswer_35 (by decide) ?_
    refine lv_aload_n hx hb dX11_beginAnswer_49 rfl (lv_at hl 0 rfl) ?_
    refine j7_read hx hb hown hK (C := RX11) (T := TX11) (N := 19) rfl hly_13_4 hlk_35 (hh_32.at 3 rfl) dX11_beginAnswer_50 ?_
    refine lv_aload_n hx hb dX11_beginAnswer_53 rfl (lv_at hl 2 rfl) ?_
    have hsz_33 := hh_32.2.2.2.2.2.1
    have htt_33 := hh_32.2.2.2.2.2.2.1
    refine W.room (fun hrc_33 hrs_33 => ?_)
    refine va_callv (A0 := jA base) (H0 := s.heap) (va_runV (As := [.ref r2]) (rest := []) ⟨hx, hb, hml, hown, hts⟩ (uX0_text l dC dI ca base B hB hAp hB2 hB196 G_22 H_22 bo r2 n2 qc_22 qa_22 m_qa_22 LC LS) (cwV 1 hts (jgV (jWr_26 _ (List.mem_of_getElem? (i := 11) rfl)) (jWr_25 _ (List.mem_of_getElem? (i := 22) rfl)) (jWr_25 _ (List.mem_of_getElem? (i := 23) rfl)) (jWr_1 _ (List.mem_of_getElem? (i := 14) rfl)) (jWr_26 _ (List.mem_of_getElem? (i := 0) rfl))) rfl rfl rfl (by decide +kernel) ⟨by rw [← hR]; exact Nat.le_of_ble_eq_true rfl, by rw [← hR]; exact Nat.le_of_ble_eq_true rfl⟩) ⟨fun a U g mk q => by obtain ⟨q0, q1, q2, qK, q10, q11, q12, q13, q14⟩ := q; exact ⟨q0, q1, q2, jG.calling g mk a qK, (q10.moved (Vm.Alike.refl U.vm)), q11, q12, q13, q14⟩, hh_32.recv (C := RX0) (T := TX0) (N := 2) hB2 rfl (by decide) hg_27 hK, fun U hU hW => ⟨rfl, hU, hh_32.2.1, hG.step hW hU hh_32.1, (hstr_r2.moved hW.alike).kept hh_32.1.2.1, hg_27, hgq_22_0, (hh_32.2.2.1.sub (L1 := [(bo, 2, 1, .int qc_22), (bo, 2, 0, .ref qa_22)]) [0, 1] rfl), (by omega), (by omega), ⟨(by first | omega | rfl | assumption | fail), (by first | omega | rfl | assumption | fail), (by first | omega | rfl | assumption | fail), (by first | omega | rfl | assumption | fail), (by first | assumption | fail | omega), (by first | omega | rfl | assumption | fail)⟩⟩⟩ rfl rfl hl.1 rfl (lv_room (Nat.le_of_ble_eq_true rfl)) dX11_beginAnswer_54 ⟨by rw [hRc]; omega, by rw [hRs]; omega⟩) hh_32.1 (fun q _ h => h) (fun q h => h) (fun u_33 t_33 H_33 locs_33 ht_33 hvm_33 hr_34 hb_33 hz_33 hk_33 hS_33 => ?_)
    obtain ⟨qc_33, qa_33, m_qa_33, G_33⟩ := u_33
    rw [ht_33] at hb_33
    simp only at hb_33
    obtain ⟨⟨hb_331, hb_332, hb_333, hb_334, hb_335, hb_336⟩, hgq_33_0, hN_33, hbO_33⟩ := hb_33
    have hy_35 := hh_32.iv 0 rfl
    have hh_33 : jSt (dC, dI) B base G0 G_33 EX11_beginAnswer s.heap (((m_qa_22 - n_pa) / 16) + ((m_qa_33 - m_qa_22) / 16)) ((2 * (m_qa_22 - n_pa)) + (2 * (m_qa_33 - m_qa_22))) [(bo, 2, 1, .int qc_33), (bo, 2, 0, .ref qa_33), (r1, 10, 0, .null), (r0, 13, 4, .ref bo)] [] [] H_33 locs_33 := (hh_32.callG hb_331 hb_332 hb_333 hb_334 hb_335 hS_33 rfl (L1 := [(r1, 10, 0, .null), (r0, 13, 4, .ref bo)]) [2, 3] rfl rfl (M1 := []) [] rfl rfl (I1 := []) [] rfl rfl).more hb_336
    have hNn_33 : (jNk [0, 1, 2, 3, 4, 5, 6, 7, 8, 9, 10, 11, 12, 13, 14, 15, 16]) G0 G_33 := (hNn_22).tr hN_33
    have hg_36 := hb_332 _ _ hg_25
    have hg_37 := hb_332 _ _ hg_26
    have hg_38 := hb_332 _ _ hg_27
    have hd_39 := jOl.trO (hh_32.iv 1 rfl) hh_32.2.2.2.2.1 hbO_33 (by simp)
    have hh_40 := hh_33.addI (jOl.ie (dC := dC) (dI := dI) (G0 := G0) (k := 2) (rs := [bo]) (H0 := s.heap) (F := [(2, 0), (2, 1)]) (C := RX0) (T := TX0) (N := 2) rfl (by decide) hh_33.2.2.2.2.1 (hd_39))
    clear hh_33
    have hyp_33 : qc_33.toInt ≤ (m_qa_33 : Nat) ∧ m_qa_33 ≤ 1048576 := by (try simp only at hr_34); omega
    have hy_41 := jYb.own hy_35 hbO_33 hb_332 hN_33 (by decide) (fun _ => ⟨_, _, _, hh_40.at 0 rfl, hh_40.at 1 rfl, hgq_33_0, hyp_33⟩)
    have hh_42 := hh_40.addI (jYb.ie hy_41)
    clear hh_40
    try simp only at hr_34
    obtain ⟨hr_34_0, hr_34_1, hr_34_2, hr_34_3, hr_34_4⟩ := hr_34
    have hh_43 := hh_42.wk (zc1 := (m_qa_33 - n_pa) / 16) (zs1 := 2 * (m_qa_33 - n_pa)) (by omega) (by omega)
    clear hh_42
    try clear hsz_33 htt_33 hrc_33 hrs_33
    try clear hb_334 hb_335
    have hsz_44 := hh_43.2.2.2.2.2.1
    have htt_44 := hh_43.2.2.2.2.2.2.1
    refine W.room (fun hrc_44 hrs_44 => ?_)
    refine W.widen (k := LC - s.heap.size) (n := LS - jTot s.heap) (by omega) (by omega) ?_
    rw [hQ]
    exact W.vret hx hb hr (fun t ht hW => ⟨⟨(qc_33, qa_33, m_qa_33, G_33), rfl, by (try dsimp only); exact ⟨(by first | omega | rfl | assumption | fail), (by first | omega | rfl | assumption | fail), (by first | omega | rfl | assumption | fail), (by first | omega | rfl | assumption | fail), (by first | assumption | fail | omega)⟩, ⟨hh_43.ra (by first | omega | (simp only; omega)) (by first | omega | (simp only; omega)) (M1 := [(bo, 2, 1, .int qc_33), (bo, 2, 0, .ref qa_33)]) [0, 1] rfl ht, hgq_33_0, hNn_33, by rw [ht]; exact hh_43.iv 1 rfl, by rw [ht]; exact hh_43.2.2.2.2.2.2.2.2.sub (L1 := [(jFy, jYb dC dI G_33)]) [0] rfl⟩⟩, by rw [ht]; try exact hh_43.1.1, fun q h9 hq => by rw [ht]; try exact hh_43.1.2.1 q h9 hq⟩) hh_43.1.2.2 dX11_beginAnswer_57
  · refine j7_read hx hb hown hK (C := RX8) (T := TX8) (N := 5) rfl hly_10_0 hlk_114 (hh_20.at 0 rfl) dX11_beginAnswer_19 ?_
    refine lv_ifnonnull (tgt := 38) hx hb dX11_beginAnswer_22 (by decide) ?_
    refine lv_aload_n hx hb dX11_beginAnswer_38 rfl (lv_at hl 0 rfl) ?_
    refine j7_read hx hb hown hK (C := RX11) (T := TX11) (N := 19) rfl hly_13_4 hlk_35 (hh_20.at 3 rfl) dX11_beginAnswer_39 ?_
    refine lv_aload_n hx hb dX11_beginAnswer_42 rfl (lv_at hl 1 rfl) ?_
    refine j7_read hx hb hown hK (C := RX8) (T := TX8) (N := 5) rfl hly_10_0 hlk_114 (hh_20.at 0 rfl) dX11_beginAnswer_43 ?_
    have hsz_45 := hh_20.2.2.2.2.2.1
    have htt_45 := hh_20.2.2.2.2.2.2.1
    refine W.room (fun hrc_45 hrs_45 => ?_)
    refine va_callv (A0 := jA base) (H0 := s.heap) (va_runV (As := [.ref id_21]) (rest := []) ⟨hx, hb, hml, hown, hts⟩ (uX0_append l dC dI ca base B hB hAp hB2 hB196 G_8 H_8 bo id_21 qc_8 qa_8 m_qa_8 LC LS) (cwV 1 hts (jgV (jWr_26 _ (List.mem_of_getElem? (i := 12) rfl)) (jWr_26 _ (List.mem_of_getElem? (i := 13) rfl)) (jWr_26 _ (List.mem_of_getElem? (i := 14) rfl)) (jWr_1 _ (List.mem_of_getElem? (i := 14) rfl)) (jWr_26 _ (List.mem_of_getElem? (i := 15) rfl))) rfl rfl rfl (by decide +kernel) ⟨by rw [← hR]; exact Nat.le_of_ble_eq_true rfl, by rw [← hR]; exact Nat.le_of_ble_eq_true rfl⟩) ⟨fun a U g mk q => by obtain ⟨q0, q1, q2, qK, q10, q11, q12, q13, q14⟩ := q; exact ⟨q0, q1, q2, jG.calling g mk a qK, q10, q11, q12, q13, q14⟩, hh_20.recv (C := RX0) (T := TX0) (N := 2) hB2 rfl (by decide) hg_13 hK, fun U hU hW => ⟨rfl, hU, hh_20.2.1, hG.step hW hU hh_20.1, hg_13, hg_id_21, hgq_8_0, (hh_20.2.2.1.sub (L1 := [(bo, 2, 1, .int qc_8), (bo, 2, 0, .ref qa_8)]) [1, 2] rfl), (by omega), (by omega), ⟨(by first | omega | rfl | assumption | fail), (by first | omega | rfl | assumption | fail), (by first | omega | rfl | assumption | fail), (by first | omega | rfl | assumption | fail), (by first | assumption | fail | omega)⟩⟩⟩ rfl rfl hl.1 rfl (lv_room (Nat.le_of_ble_eq_true rfl)) dX11_beginAnswer_46 ⟨by rw [hRc]; omega, by rw [hRs]; omega⟩) hh_20.1 (fun q _ h => h) (fun q h => h) (fun u_45 t_45 H_45 locs_45 ht_45 hvm_45 hr_46 hb_45 hz_45 hk_45 hS_45 => ?_)
    obtain ⟨qc_45, qa_45, m_qa_45, G_45⟩ := u_45
    rw [ht_45] at hb_45
    simp only at hb_45
    obtain ⟨⟨hb_451, hb_452, hb_453, hb_454, hb_455, hb_456⟩, hgq_45_0, hN_45, hbO_45⟩ := hb_45
    have hy_47 := hh_20.iv 0 rfl
    have hh_45 : jSt (dC, dI) B base G0 G_45 EX11_beginAnswer s.heap (((m_qa_8 - n_pa) / 16) + ((m_qa_45 - m_qa_8) / 16)) ((2 * (m_qa_8 - n_pa)) + (2 * (m_qa_45 - m_qa_8))) [(bo, 2, 1, .int qc_45), (bo, 2, 0, .ref qa_45), (r1, 10, 0, .ref id_21), (r0, 13, 4, .ref bo)] [] [] H_45 locs_45 := (hh_20.callG hb_451 hb_452 hb_453 hb_454 hb_455 hS_45 rfl (L1 := [(r1, 10, 0, .ref id_21), (r0, 13, 4, .ref bo)]) [0, 3] rfl rfl (M1 := []) [] rfl rfl (I1 := []) [] rfl rfl).more hb_456
    have hNn_45 : (jNk [0, 1, 2, 3, 4, 5, 6, 7, 8, 9, 10, 11, 12, 13, 14, 15, 16]) G0 G_45 := (hNn_8).tr hN_45
    have hg_48 := hb_452 _ _ hg_11
    have hg_49 := hb_452 _ _ hg_12
    have hg_50 := hb_452 _ _ hg_id_21
    have hg_51 := hb_452 _ _ hg_13
    have hd_52 := jOl.trO (hh_20.iv 1 rfl) hh_20.2.2.2.2.1 hbO_45 (by simp)
    have hh_53 := hh_45.addI (jOl.ie (dC := dC) (dI := dI) (G0 := G0) (k := 2) (rs := [bo]) (H0 := s.heap) (F := [(2, 0), (2, 1)]) (C := RX0) (T := TX0) (N := 2) rfl (by decide) hh_45.2.2.2.2.1 (hd_52))
    clear hh_45
    have hyp_45 : qc_45.toInt ≤ (m_qa_45 : Nat) ∧ m_qa_45 ≤ 1048576 := by (try simp only at hr_46); omega
    have hy_54 := jYb.own hy_47 hbO_45 hb_452 hN_45 (by decide) (fun _ => ⟨_, _, _, hh_53.at 0 rfl, hh_53.at 1 rfl, hgq_45_0, hyp_45⟩)
    have hh_55 := hh_53.addI (jYb.ie hy_54)
    clear hh_53
    try simp only at hr_46
    obtain ⟨hr_46_0, hr_46_1, hr_46_2, hr_46_3, hr_46_4⟩ := hr_46
    have hh_56 := hh_55.wk (zc1 := (m_qa_45 - n_pa) / 16) (zs1 := 2 * (m_qa_45 - n_pa)) (by omega) (by omega)
    clear hh_55
    try clear hsz_45 htt_45 hrc_45 hrs_45
    try clear hb_454 hb_455
    refine lv_aload_n hx hb dX11_beginAnswer_49 rfl (lv_at hl 0 rfl) ?_
    refine j7_read hx hb hown hK (C := RX11) (T := TX11) (N := 19) rfl hly_13_4 hlk_35 (hh_56.at 3 rfl) dX11_beginAnswer_50 ?_
    refine lv_aload_n hx hb dX11_beginAnswer_53 rfl (lv_at hl 2 rfl) ?_
    have hsz_57 := hh_56.2.2.2.2.2.1
    have htt_57 := hh_56.2.2.2.2.2.2.1
    refine W.room (fun hrc_57 hrs_57 => ?_)
    refine va_callv (A0 := jA base) (H0 := s.heap) (va_runV (As := [.ref r2]) (rest := []) ⟨hx, hb, hml, hown, hts⟩ (uX0_text l dC dI ca base B hB hAp hB2 hB196 G_45 H_45 bo r2 n2 qc_45 qa_45 m_qa_45 LC LS) (cwV 1 hts (jgV (jWr_26 _ (List.mem_of_getElem? (i := 11) rfl)) (jWr_25 _ (List.mem_of_getElem? (i := 22) rfl)) (jWr_25 _ (List.mem_of_getElem? (i := 23) rfl)) (jWr_1 _ (List.mem_of_getElem? (i := 14) rfl)) (jWr_26 _ (List.mem_of_getElem? (i := 0) rfl))) rfl rfl rfl (by decide +kernel) ⟨by rw [← hR]; exact Nat.le_of_ble_eq_true rfl, by rw [← hR]; exact Nat.le_of_ble_eq_true rfl⟩) ⟨fun a U g mk q => by obtain ⟨q0, q1, q2, qK, q10, q11, q12, q13, q14⟩ := q; exact ⟨q0, q1, q2, jG.calling g mk a qK, (q10.moved (Vm.Alike.refl U.vm)), q11, q12, q13, q14⟩, hh_56.recv (C := RX0) (T := TX0) (N := 2) hB2 rfl (by decide) hg_51 hK, fun U hU hW => ⟨rfl, hU, hh_56.2.1, hG.step hW hU hh_56.1, (hstr_r2.moved hW.alike).kept hh_56.1.2.1, hg_51, hgq_45_0, (hh_56.2.2.1.sub (L1 := [(bo, 2, 1, .int qc_45), (bo, 2, 0, .ref qa_45)]) [0, 1] rfl), (by omega), (by omega), ⟨(by first | omega | rfl | assumption | fail), (by first | omega | rfl | assumption | fail), (by first | omega | rfl | assumption | fail), (by first | omega | rfl | assumption | fail), (by first | assumption | fail | omega), (by first | omega | rfl | assumption | fail)⟩⟩⟩ rfl rfl hl.1 rfl (lv_room (Nat.le_of_ble_eq_true rfl)) dX11_beginAnswer_54 ⟨by rw [hRc]; omega, by rw [hRs]; omega⟩) hh_56.1 (fun q _ h => h) (fun q h => h) (fun u_57 t_57 H_57 locs_57 ht_57 hvm_57 hr_58 hb_57 hz_57 hk_57 hS_57 => ?_)
    obtain ⟨qc_57, qa_57, m_qa_57, G_57⟩ := u_57
    rw [ht_57] at hb_57
    simp only at hb_57
    obtain ⟨⟨hb_571, hb_572, hb_573, hb_574, hb_575, hb_576⟩, hgq_57_0, hN_57, hbO_57⟩ := hb_57
    have hy_59 := hh_56.iv 0 rfl
    have hh_57 : jSt (dC, dI) B base G0 G_57 EX11_beginAnswer s.heap (((m_qa_45 - n_pa) / 16) + ((m_qa_57 - m_qa_45) / 16)) ((2 * (m_qa_45 - n_pa)) + (2 * (m_qa_57 - m_qa_45))) [(bo, 2, 1, .int qc_57), (bo, 2, 0, .ref qa_57), (r1, 10, 0, .ref id_21), (r0, 13, 4, .ref bo)] [] [] H_57 locs_57 := (hh_56.callG hb_571 hb_572 hb_573 hb_574 hb_575 hS_57 rfl (L1 := [(r1, 10, 0, .ref id_21), (r0, 13, 4, .ref bo)]) [2, 3] rfl rfl (M1 := []) [] rfl rfl (I1 := []) [] rfl rfl).more hb_576
    have hNn_57 : (jNk [0, 1, 2, 3, 4, 5, 6, 7, 8, 9, 10, 11, 12, 13, 14, 15, 16]) G0 G_57 := (hNn_45).tr hN_57
    have hg_60 := hb_572 _ _ hg_48
    have hg_61 := hb_572 _ _ hg_49
    have hg_62 := hb_572 _ _ hg_50
    have hg_63 := hb_572 _ _ hg_51
    have hd_64 := jOl.trO (hh_56.iv 1 rfl) hh_56.2.2.2.2.1 hbO_57 (by simp)
    have hh_65 := hh_57.addI (jOl.ie (dC := dC) (dI := dI) (G0 := G0) (k := 2) (rs := [bo]) (H0 := s.heap) (F := [(2, 0), (2, 1)]) (C := RX0) (T := TX0) (N := 2) rfl (by decide) hh_57.2.2.2.2.1 (hd_64))
    clear hh_57
    have hyp_57 : qc_57.toInt ≤ (m_qa_57 : Nat) ∧ m_qa_57 ≤ 1048576 := by (try simp only at hr_58); omega
    have hy_66 := jYb.own hy_59 hbO_57 hb_572 hN_57 (by decide) (fun _ => ⟨_, _, _, hh_65.at 0 rfl, hh_65.at 1 rfl, hgq_57_0, hyp_57⟩)
    have hh_67 := hh_65.addI (jYb.ie hy_66)
    clear hh_65
    try simp only at hr_58
    obtain ⟨hr_58_0, hr_58_1, hr_58_2, hr_58_3, hr_58_4⟩ := hr_58
    have hh_68 := hh_67.wk (zc1 := (m_qa_57 - n_pa) / 16) (zs1 := 2 * (m_qa_57 - n_pa)) (by omega) (by omega)
    clear hh_67
    try clear hsz_57 htt_57 hrc_57 hrs_57
    try clear hb_574 hb_575
    have hsz_69 := hh_68.2.2.2.2.2.1
    have htt_69 := hh_68.2.2.2.2.2.2.1
    refine W.room (fun hrc_69 hrs_69 => ?_)
    refine W.widen (k := LC - s.heap.size) (n := LS - jTot s.heap) (by omega) (by omega) ?_
    rw [hQ]
    exact W.vret hx hb hr (fun t ht hW => ⟨⟨(qc_57, qa_57, m_qa_57, G_57), rfl, by (try dsimp only); exact ⟨(by first | omega | rfl | assumption | fail), (by first | omega | rfl | assumption | fail), (by first | omega | rfl | assumption | fail), (by first | omega | rfl | assumption | fail), (by first | assumption | fail | omega)⟩, ⟨hh_68.ra (by first | omega | (simp only; omega)) (by first | omega | (simp only; omega)) (M1 := [(bo, 2, 1, .int qc_57), (bo, 2, 0, .ref qa_57)]) [0, 1] rfl ht, hgq_57_0, hNn_57, by rw [ht]; exact hh_68.iv 1 rfl, by rw [ht]; exact hh_68.2.2.2.2.2.2.2.2.sub (L1 := [(jFy, jYb dC dI G_57)]) [0] rfl⟩⟩, by rw [ht]; try exact hh_68.1.1, fun q h9 hq => by rw [ht]; try exact hh_68.1.2.1 q h9 hq⟩) hh_68.1.2.2 dX11_beginAnswer_57
end
section
theorem dX11_refuse_0 : decode cX11_refuse 0 = .ok (.aload_n 0, 1) := by decide +kernel
theorem dX11_refuse_1 : decode cX11_refuse 1 = .ok (.aload_n 1, 1) := by decide +kernel
theorem dX11_refuse_2 : decode cX11_refuse 2 = .ok (.ldc_w 464, 3) := by decide +kernel
theorem dX11_refuse_5 : decode cX11_refuse 5 = .ok (.invokevirtual 291, 3) := by decide +kernel
theorem dX11_refuse_8 : decode cX11_refuse 8 = .ok (.aload_n 0, 1) := by decide +kernel
theorem dX11_refuse_9 : decode cX11_refuse 9 = .ok (.getfield 35, 3) := by decide +kernel
theorem dX11_refuse_12 : decode cX11_refuse 12 = .ok (.iload_n 2, 1) := by decide +kernel
theorem dX11_refuse_13 : decode cX11_refuse 13 = .ok (.invokevirtual 466, 3) := by decide +kernel
theorem dX11_refuse_16 : decode cX11_refuse 16 = .ok (.aload_n 0, 1) := by decide +kernel
theorem dX11_refuse_17 : decode cX11_refuse 17 = .ok (.getfield 35, 3) := by decide +kernel
theorem dX11_refuse_20 : decode cX11_refuse 20 = .ok (.ldc_w 469, 3) := by decide +kernel
theorem dX11_refuse_23 : decode cX11_refuse 23 = .ok (.invokevirtual 297, 3) := by decide +kernel
theorem dX11_refuse_26 : decode cX11_refuse 26 = .ok (.aload_n 0, 1) := by decide +kernel
theorem dX11_refuse_27 : decode cX11_refuse 27 = .ok (.getfield 35, 3) := by decide +kernel
theorem dX11_refuse_30 : decode cX11_refuse 30 = .ok (.iload_n 2, 1) := by decide +kernel
theorem dX11_refuse_31 : decode cX11_refuse 31 = .ok (.invokestatic 471, 3) := by decide +kernel
theorem dX11_refuse_34 : decode cX11_refuse 34 = .ok (.invokevirtual 297, 3) := by decide +kernel
theorem dX11_refuse_37 : decode cX11_refuse 37 = .ok (.aload_n 0, 1) := by decide +kernel
theorem dX11_refuse_38 : decode cX11_refuse 38 = .ok (.getfield 35, 3) := by decide +kernel
theorem dX11_refuse_41 : decode cX11_refuse 41 = .ok (.ldc_w 475, 3) := by decide +kernel
theorem dX11_refuse_44 : decode cX11_refuse 44 = .ok (.invokevirtual 297, 3) := by decide +kernel
theorem dX11_refuse_47 : decode cX11_refuse 47 = .ok (.aload_n 0, 1) := by decide +kernel
theorem dX11_refuse_48 : decode cX11_refuse 48 = .ok (.invokevirtual 300, 3) := by decide +kernel
theorem dX11_refuse_51 : decode cX11_refuse 51 = .ok (.return_, 1) := by decide +kernel
def EX11_refuse : List (Nat × Nat) := [(2, 0), (2, 1), (13, 14), (196, 0)]
set_option maxHeartbeats 4000000 in
set_option maxRecDepth 20000 in
theorem uX11_refuse (l : Launch) (dC : Nat → ClassId) (dI : Nat → Nat → Nat) (ca : Nat → ClassId) (base : Nat) (B : jF) (hB : jBok B) (hAp : jAp (dC, dI)) (hB2 : ∀ n G a H, B 2 n G a H ↔ jOb (dC, dI) 2 2 (F2 n G) a H) (hB4 : ∀ n G a H, B 4 n G a H ↔ jOb (dC, dI) 4 12 (F4 n G) a H) (hB10 : ∀ n G a H, B 10 n G a H ↔ jOb (dC, dI) 10 5 (F10 n G) a H) (hB13 : ∀ n G a H, B 13 n G a H ↔ jOb (dC, dI) 13 19 (F13 n G) a H) (hB196 : ∀ n G a H, B 196 n G a H ↔ jAr (dC, dI) (ca 0) (fun j z => jBf j z) n a H) (G0 : jT) (H0 : Heap) (r0 : Nat) (r1 : Nat) (a2 : Int32) (bo : Nat) (pc : Int32) (pa : Nat) (n_pa : Nat) (ou : Nat) (LC LS : Nat) : Met l yX11_refuse (jw yX11_refuse cX11_refuse 3 none) ({ frames := 6, cells := LC - H0.size, slots := LS - jTot H0, locals := 185 }) (va_Pc [.ref r0, .ref r1, .int a2] (fun U => U.heap = H0 ∧ jX B base G0 [] H0 ∧ jG dC dI ca base U ∧ G0 r1 = some (10, 0) ∧ G0 r0 = some (13, 0) ∧ G0 bo = some (2, 0) ∧ G0 pa = some (196, n_pa) ∧ G0 ou = some (2, 20000) ∧ jP (dC, dI) G0 H0 [(r0, 13, 4, .ref bo), (bo, 2, 1, .int pc), (bo, 2, 0, .ref pa), (r0, 13, 3, .ref ou)] ∧ jIs (dC, dI) G0 H0 [(jFy, jYb dC dI G0)] ∧ H0.size + (1048576 - n_pa) / 16 + 1 ≤ LC ∧ jTot H0 + 2 * (1048576 - n_pa) ≤ LS ∧ 0 ≤ pc.toInt ∧ pc.toInt ≤ n_pa ∧ 16 ≤ n_pa ∧ n_pa ≤ 1048576 ∧ jPw n_pa)) (va_Qv (S := Int32 × Nat × Nat × jT) (fun u => 0 ≤ u.1.toInt ∧ u.1.toInt ≤ u.2.2.1 ∧ n_pa ≤ u.2.2.1 ∧ u.2.2.1 ≤ 1048576 ∧ jPw u.2.2.1) (fun u t => jRa (dC, dI) B base G0 u.2.2.2 EX11_refuse H0 ((u.2.2.1 - n_pa) / 16) (2 * (u.2.2.1 - n_pa)) [(bo, 2, 1, .int u.1), (bo, 2, 0, .ref u.2.1)] t.heap ∧ u.2.2.2 u.2.1 = some (196, u.2.2.1) ∧ (jNk [0, 1, 2, 3, 4, 5, 6, 7, 8, 9, 10, 11, 12, 13, 14, 15, 16]) G0 u.2.2.2 ∧ jOl (dC, dI) G0 2 [bo, ou] H0 t.heap ∧ jIs (dC, dI) u.2.2.2 t.heap [(jFy, jYb dC dI u.2.2.2)]) (jA base)) (LC - H0.size) (LS - jTot H0) (jA base) := by
  refine Met.ofW (cc := cX11_refuse) (maxL := 3) (ret := none) (by decide) rfl ?_
  intro p e s m args below meth c s₁ Bd hml hv
  obtain ⟨rfl, hH0, hX, hG, hg_r1, hg_r0, hg_bo, hg_pa, hg_ou, hP0, hI0, hLC0, hLS0, hp0, hp1, hp2, hp3, hp4⟩ := hv
  have hK := hG.1
  have hx := Bd.exec
  have hb := Bd.bytes
  have hr := Bd.returns
  have hts := atoms_spec (ws := (jw yX11_refuse cX11_refuse 3 none)) Bd.pre
  have htw : ∀ w ∈ jWl, w.before _ s = true := fun w h => hts w (List.mem_cons_of_mem _ h)
  have hown : s.vm.findClass RX11 = some m.cls := findClass_of_methodNamed Bd.named
  have hlocks := Bd.notSynchronized
  obtain ⟨Q, hQ⟩ : ∃ Q, Q = MQ below (va_Qv (S := Int32 × Nat × Nat × jT) (fun u => 0 ≤ u.1.toInt ∧ u.1.toInt ≤ u.2.2.1 ∧ n_pa ≤ u.2.2.1 ∧ u.2.2.1 ≤ 1048576 ∧ jPw u.2.2.1) (fun u t => jRa (dC, dI) B base G0 u.2.2.2 EX11_refuse H0 ((u.2.2.1 - n_pa) / 16) (2 * (u.2.2.1 - n_pa)) [(bo, 2, 1, .int u.1), (bo, 2, 0, .ref u.2.1)] t.heap ∧ u.2.2.2 u.2.1 = some (196, u.2.2.1) ∧ (jNk [0, 1, 2, 3, 4, 5, 6, 7, 8, 9, 10, 11, 12, 13, 14, 15, 16]) G0 u.2.2.2 ∧ jOl (dC, dI) G0 2 [bo, ou] H0 t.heap ∧ jIs (dC, dI) u.2.2.2 t.heap [(jFy, jYb dC dI u.2.2.2)]) (jA base)) ([.ref r0, .ref r1, .int a2] : List Value).toArray s (LC - H0.size) (LS - jTot H0) (jA base) := ⟨_, rfl⟩
  rw [← hQ]
  have hl := lv_entry ([.ref r0, .ref r1, .int a2]) (n := 3) (Nat.le_of_ble_eq_true rfl)
  rw [lg_entry_eq]
  generalize (lg_sl ([.ref r0, .ref r1, .int a2]) ++ List.replicate (3 - (lg_sl ([.ref r0, .ref r1, .int a2])).length) Slot.unset).toArray = ls at hl ⊢
  have hl : lv_has ls 3 [(0, .ref r0), (1, .ref r1), (2, .int a2)] := hl
  generalize hR : (headSpec (jw yX11_refuse cX11_refuse 3 none) ({ frames := 6, cells := LC - H0.size, slots := LS - jTot H0, locals := 185 })).room = R
  subst hH0
  have hh : jSt (dC, dI) B base G0 G0 EX11_refuse s.heap 0 0 [(r0, 13, 4, .ref bo), (bo, 2, 1, .int pc), (bo, 2, 0, .ref pa), (r0, 13, 3, .ref ou)] [] [(jFy, jYb dC dI G0)] s.heap [] := jSt.start hX hP0 jMc.nil hI0
  clear hX hP0
  have hk0 : (0 : Int32).toInt = 0 := by decide
  have hk1 : (1 : Int32).toInt = 1 := by decide
  have hly_13_4 := htw (u_lay RX11 TX11 4) (jWc_wsX110 _ (u_in_lay (by decide)))
  obtain ⟨str464, rstr464, hstr4640⟩ := hG.str (o := RX11) (k := 464) (tx := ",\"error\":{\"code\":") (List.mem_of_getElem? (i := 821) (by decide +kernel))
  have hstr464 : jStr base str464 17 s s.heap := hstr4640
  have hlk_35 := (htw (.fieldLink RX11 35 "ProofServer" "body" "LProofServer$Bytes;") (jWr_2 _ (List.mem_of_getElem? (i := 1) rfl)))
  obtain ⟨str469, rstr469, hstr4690⟩ := hG.str (o := RX11) (k := 469) (tx := ",\"message\":\"") (List.mem_of_getElem? (i := 834) (by decide +kernel))
  have hstr469 : jStr base str469 12 s s.heap := hstr4690
  obtain ⟨str475, rstr475, hstr4750⟩ := hG.str (o := RX11) (k := 475) (tx := "\"}}") (List.mem_of_getElem? (i := 845) (by decide +kernel))
  have hstr475 : jStr base str475 3 s s.heap := hstr4750
  have hrg_a2 := jb_rng a2
  have hbs : base ≤ s.heap.size := Nat.le_of_lt (Nat.lt_of_le_of_lt (hh.ab hg_r0).1 (hh.ab hg_r0).2)
  have hbs : base ≤ s.heap.size := Nat.le_of_lt (Nat.lt_of_le_of_lt (hh.ab hg_r0).1 (hh.ab hg_r0).2)
  have hRc : R.cells = LC - s.heap.size := by rw [← hR]; rfl
  have hRs : R.slots = LS - jTot s.heap := by rw [← hR]; rfl
  have hh_1 := hh.addI (jOl.ie (dC := dC) (dI := dI) (G0 := G0) (k := 2) (rs := [bo, ou]) (H0 := s.heap) (F := [(2, 0), (2, 1)]) (C := RX0) (T := TX0) (N := 2) rfl (by decide) hh.2.2.2.2.1 (jOl.rf))
  clear hh
  refine lv_aload_n hx hb dX11_refuse_0 rfl (lv_at hl 0 rfl) ?_
  refine lv_aload_n hx hb dX11_refuse_1 rfl (lv_at hl 1 rfl) ?_
  refine j_ldcSw hx hb hown rstr464 dX11_refuse_2 ?_
  have hsz_2 := hh_1.2.2.2.2.2.1
  have htt_2 := hh_1.2.2.2.2.2.2.1
  refine W.room (fun hrc_2 hrs_2 => ?_)
  refine va_callv (A0 := jA base) (H0 := s.heap) (va_runV (As := [.ref r1, .ref str464]) (rest := []) ⟨hx, hb, hml, hown, hts⟩ (uX11_beginAnswer l dC dI ca base B hB hAp hB2 hB10 hB13 hB196 G0 s.heap r0 r1 str464 17 bo pc pa n_pa LC LS) (cwV 2 hts (jgV (jWr_26 _ (List.mem_of_getElem? (i := 7) rfl)) (jWr_26 _ (List.mem_of_getElem? (i := 8) rfl)) (jWr_26 _ (List.mem_of_getElem? (i := 9) rfl)) (jWr_1 _ (List.mem_of_getElem? (i := 2) rfl)) (jWr_26 _ (List.mem_of_getElem? (i := 10) rfl))) rfl rfl rfl (by decide +kernel) ⟨by rw [← hR]; exact Nat.le_of_ble_eq_true rfl, by rw [← hR]; exact Nat.le_of_ble_eq_true rfl⟩) ⟨fun a U g mk q => by obtain ⟨q0, q1, q2, qK, q10, q11, q12, q13, q14, q15, q16, q17⟩ := q; exact ⟨q0, q1, q2, jG.calling g mk a qK, (q10.moved (Vm.Alike.refl U.vm)), q11, q12, q13, q14, q15, q16, q17⟩, hh_1.recv (C := RX11) (T := TX11) (N := 19) hB13 rfl (by decide) hg_r0 hK, fun U hU hW => ⟨rfl, hU, hh_1.2.1, hG.step hW hU hh_1.1, (hstr464.moved hW.alike).kept hh_1.1.2.1, hg_r1, hg_r0, hg_bo, hg_pa, (hh_1.2.2.1.sub (L1 := [(r0, 13, 4, .ref bo), (bo, 2, 1, .int pc), (bo, 2, 0, .ref pa)]) [0, 1, 2] rfl), (hh_1.2.2.2.2.2.2.2.2.sub (L1 := [(jFy, jYb dC dI G0)]) [1] rfl), (by omega), (by omega), ⟨(by first | omega | rfl | assumption | fail), (by first | omega | rfl | assumption | fail), (by first | omega | rfl | assumption | fail), (by first | omega | rfl | assumption | fail), (by first | assumption | fail | omega), (by first | omega | rfl | assumption | fail)⟩⟩⟩ rfl rfl hl.1 rfl (lv_room (Nat.le_of_ble_eq_true rfl)) dX11_refuse_5 ⟨by rw [hRc]; omega, by rw [hRs]; omega⟩) hh_1.1 (fun q _ h => h) (fun q h => h) (fun u_2 t_2 H_2 locs_2 ht_2 hvm_2 hr_3 hb_2 hz_2 hk_2 hS_2 => ?_)
  obtain ⟨qc_2, qa_2, m_qa_2, G_2⟩ := u_2
  rw [ht_2] at hb_2
  simp only at hb_2
  obtain ⟨⟨hb_21, hb_22, hb_23, hb_24, hb_25, hb_26⟩, hgq_2_0, hN_2, hbO_2, hbE_2⟩ := hb_2
  have hh_2 : jSt (dC, dI) B base G0 G_2 EX11_refuse s.heap (0 + ((m_qa_2 - n_pa) / 16)) (0 + (2 * (m_qa_2 - n_pa))) [(bo, 2, 1, .int qc_2), (bo, 2, 0, .ref qa_2), (r0, 13, 4, .ref bo), (r0, 13, 3, .ref ou)] [] [] H_2 locs_2 := (hh_1.callG hb_21 hb_22 hb_23 hb_24 hb_25 hS_2 rfl (L1 := [(r0, 13, 4, .ref bo), (r0, 13, 3, .ref ou)]) [0, 3] rfl rfl (M1 := []) [] rfl rfl (I1 := []) [] rfl rfl).more hb_26
  have hNn_2 : (jNk [0, 1, 2, 3, 4, 5, 6, 7, 8, 9, 10, 11, 12, 13, 14, 15, 16]) G0 G_2 := (jNk.rf).tr hN_2
  have hg_4 := hb_22 _ _ hg_r0
  have hg_5 := hb_22 _ _ hg_r1
  have hg_6 := hb_22 _ _ hg_bo
  have hg_7 := hb_22 _ _ hg_ou
  have hh_8 := hh_2.addIs hbE_2
  have hd_9 := jOl.trL (hh_1.iv 0 rfl) hh_1.2.2.2.2.1 hbO_2 (by simp)
  have hh_10 := hh_8.addI (jOl.ie (dC := dC) (dI := dI) (G0 := G0) (k := 2) (rs := [bo, ou]) (H0 := s.heap) (F := [(2, 0), (2, 1)]) (C := RX0) (T := TX0) (N := 2) rfl (by decide) hh_8.2.2.2.2.1 (hd_9))
  clear hh_8
  try simp only at hr_3
  obtain ⟨hr_3_0, hr_3_1, hr_3_2, hr_3_3, hr_3_4⟩ := hr_3
  have hh_11 := hh_10.wk (zc1 := (m_qa_2 - n_pa) / 16) (zs1 := 2 * (m_qa_2 - n_pa)) (by omega) (by omega)
  clear hh_10
  try clear hsz_2 htt_2 hrc_2 hrs_2
  try clear hb_24 hb_25
  refine lv_aload_n hx hb dX11_refuse_8 rfl (lv_at hl 0 rfl) ?_
  refine j7_read hx hb hown hK (C := RX11) (T := TX11) (N := 19) rfl hly_13_4 hlk_35 (hh_11.at 2 rfl) dX11_refuse_9 ?_
  refine lv_iload_n hx hb dX11_refuse_12 rfl (lv_at hl 2 rfl) ?_
  have hsz_12 := hh_11.2.2.2.2.2.1
  have htt_12 := hh_11.2.2.2.2.2.2.1
  refine W.room (fun hrc_12 hrs_12 => ?_)
  refine va_callv (A0 := jA base) (H0 := s.heap) (va_runV (As := [.int a2]) (rest := []) ⟨hx, hb, hml, hown, hts⟩ (uX0_number l dC dI ca base B hB hAp hB2 hB196 G_2 H_2 bo a2 qc_2 qa_2 m_qa_2 LC LS) (cwV 1 hts (jgV (jWr_26 _ (List.mem_of_getElem? (i := 16) rfl)) (jWr_24 _ (List.mem_of_getElem? (i := 16) rfl)) (jWr_24 _ (List.mem_of_getElem? (i := 17) rfl)) (jWr_1 _ (List.mem_of_getElem? (i := 14) rfl)) (jWr_24 _ (List.mem_of_getElem? (i := 18) rfl))) rfl rfl rfl (by decide +kernel) ⟨by rw [← hR]; exact Nat.le_of_ble_eq_true rfl, by rw [← hR]; exact Nat.le_of_ble_eq_true rfl⟩) ⟨fun a U g mk q => by obtain ⟨q0, q1, q2, qK, q10, q11, q12, q13⟩ := q; exact ⟨q0, q1, q2, jG.calling g mk a qK, q10, q11, q12, q13⟩, hh_11.recv (C := RX0) (T := TX0) (N := 2) hB2 rfl (by decide) hg_6 hK, fun U hU hW => ⟨rfl, hU, hh_11.2.1, hG.step hW hU hh_11.1, hg_6, hgq_2_0, (hh_11.2.2.1.sub (L1 := [(bo, 2, 1, .int qc_2), (bo, 2, 0, .ref qa_2)]) [0, 1] rfl), (by omega), (by omega), ⟨(by first | omega | rfl | assumption | fail), (by first | omega | rfl | assumption | fail), (by first | omega | rfl | assumption | fail), (by first | omega | rfl | assumption | fail), (by first | assumption | fail | omega)⟩⟩⟩ rfl rfl hl.1 rfl (lv_room (Nat.le_of_ble_eq_true rfl)) dX11_refuse_13 ⟨by rw [hRc]; omega, by rw [hRs]; omega⟩) hh_11.1 (fun q _ h => h) (fun q h => h) (fun u_12 t_12 H_12 locs_12 ht_12 hvm_12 hr_13 hb_12 hz_12 hk_12 hS_12 => ?_)
  obtain ⟨qc_12, qa_12, m_qa_12, G_12⟩ := u_12
  rw [ht_12] at hb_12
  simp only at hb_12
  obtain ⟨⟨hb_121, hb_122, hb_123, hb_124, hb_125, hb_126⟩, hgq_12_0, hN_12, hbO_12⟩ := hb_12
  have hy_14 := hh_11.iv 1 rfl
  have hh_12 : jSt (dC, dI) B base G0 G_12 EX11_refuse s.heap (((m_qa_2 - n_pa) / 16) + ((m_qa_12 - m_qa_2) / 16)) ((2 * (m_qa_2 - n_pa)) + (2 * (m_qa_12 - m_qa_2))) [(bo, 2, 1, .int qc_12), (bo, 2, 0, .ref qa_12), (r0, 13, 4, .ref bo), (r0, 13, 3, .ref ou)] [] [] H_12 locs_12 := (hh_11.callG hb_121 hb_122 hb_123 hb_124 hb_125 hS_12 rfl (L1 := [(r0, 13, 4, .ref bo), (r0, 13, 3, .ref ou)]) [2, 3] rfl rfl (M1 := []) [] rfl rfl (I1 := []) [] rfl rfl).more hb_126
  have hNn_12 : (jNk [0, 1, 2, 3, 4, 5, 6, 7, 8, 9, 10, 11, 12, 13, 14, 15, 16]) G0 G_12 := (hNn_2).tr hN_12
  have hg_15 := hb_122 _ _ hg_4
  have hg_16 := hb_122 _ _ hg_5
  have hg_17 := hb_122 _ _ hg_6
  have hg_18 := hb_122 _ _ hg_7
  have hd_19 := jOl.trO (hh_11.iv 0 rfl) hh_11.2.2.2.2.1 hbO_12 (by simp)
  have hh_20 := hh_12.addI (jOl.ie (dC := dC) (dI := dI) (G0 := G0) (k := 2) (rs := [bo, ou]) (H0 := s.heap) (F := [(2, 0), (2, 1)]) (C := RX0) (T := TX0) (N := 2) rfl (by decide) hh_12.2.2.2.2.1 (hd_19))
  clear hh_12
  have hyp_12 : qc_12.toInt ≤ (m_qa_12 : Nat) ∧ m_qa_12 ≤ 1048576 := by (try simp only at hr_13); omega
  have hy_21 := jYb.own hy_14 hbO_12 hb_122 hN_12 (by decide) (fun _ => ⟨_, _, _, hh_20.at 0 rfl, hh_20.at 1 rfl, hgq_12_0, hyp_12⟩)
  have hh_22 := hh_20.addI (jYb.ie hy_21)
  clear hh_20
  try simp only at hr_13
  obtain ⟨hr_13_0, hr_13_1, hr_13_2, hr_13_3, hr_13_4⟩ := hr_13
  have hh_23 := hh_22.wk (zc1 := (m_qa_12 - n_pa) / 16) (zs1 := 2 * (m_qa_12 - n_pa)) (by omega) (by omega)
  clear hh_22
  try clear hsz_12 htt_12 hrc_12 hrs_12
  try clear hb_124 hb_125
  refine lv_aload_n hx hb dX11_refuse_16 rfl (lv_at hl 0 rfl) ?_
  refine j7_read hx hb hown hK (C := RX11) (T := TX11) (N := 19) rfl hly_13_4 hlk_35 (hh_23.at 2 rfl) dX11_refuse_17 ?_
  refine j_ldcSw hx hb hown rstr469 dX11_refuse_20 ?_
  have hsz_24 := hh_23.2.2.2.2.2.1
  have htt_24 := hh_23.2.2.2.2.2.2.1
  refine W.room (fun hrc_24 hrs_24 => ?_)
  refine va_callv (A0 := jA base) (H0 := s.heap) (va_runV (As := [.ref str469]) (rest := []) ⟨hx, hb, hml, hown, hts⟩ (uX0_text l dC dI ca base B hB hAp hB2 hB196 G_12 H_12 bo str469 12 qc_12 qa_12 m_qa_12 LC LS) (cwV 1 hts (jgV (jWr_26 _ (List.mem_of_getElem? (i := 11) rfl)) (jWr_25 _ (List.mem_of_getElem? (i := 22) rfl)) (jWr_25 _ (List.mem_of_getElem? (i := 23) rfl)) (jWr_1 _ (List.mem_of_getElem? (i := 14) rfl)) (jWr_26 _ (List.mem_of_getElem? (i := 0) rfl))) rfl rfl rfl (by decide +kernel) ⟨by rw [← hR]; exact Nat.le_of_ble_eq_true rfl, by rw [← hR]; exact Nat.le_of_ble_eq_true rfl⟩) ⟨fun a U g mk q => by obtain ⟨q0, q1, q2, qK, q10, q11, q12, q13, q14⟩ := q; exact ⟨q0, q1, q2, jG.calling g mk a qK, (q10.moved (Vm.Alike.refl U.vm)), q11, q12, q13, q14⟩, hh_23.recv (C := RX0) (T := TX0) (N := 2) hB2 rfl (by decide) hg_17 hK, fun U hU hW => ⟨rfl, hU, hh_23.2.1, hG.step hW hU hh_23.1, (hstr469.moved hW.alike).kept hh_23.1.2.1, hg_17, hgq_12_0, (hh_23.2.2.1.sub (L1 := [(bo, 2, 1, .int qc_12), (bo, 2, 0, .ref qa_12)]) [0, 1] rfl), (by omega), (by omega), ⟨(by first | omega | rfl | assumption | fail), (by first | omega | rfl | assumption | fail), (by first | omega | rfl | assumption | fail), (by first | omega | rfl | assumption | fail), (by first | assumption | fail | omega), (by first | omega | rfl | assumption | fail)⟩⟩⟩ rfl rfl hl.1 rfl (lv_room (Nat.le_of_ble_eq_true rfl)) dX11_refuse_23 ⟨by rw [hRc]; omega, by rw [hRs]; omega⟩) hh_23.1 (fun q _ h => h) (fun q h => h) (fun u_24 t_24 H_24 locs_24 ht_24 hvm_24 hr_25 hb_24 hz_24 hk_24 hS_24 => ?_)
  obtain ⟨qc_24, qa_24, m_qa_24, G_24⟩ := u_24
  rw [ht_24] at hb_24
  simp only at hb_24
  obtain ⟨⟨hb_241, hb_242, hb_243, hb_244, hb_245, hb_246⟩, hgq_24_0, hN_24, hbO_24⟩ := hb_24
  have hy_26 := hh_23.iv 0 rfl
  have hh_24 : jSt (dC, dI) B base G0 G_24 EX11_refuse s.heap (((m_qa_12 - n_pa) / 16) + ((m_qa_24 - m_qa_12) / 16)) ((2 * (m_qa_12 - n_pa)) + (2 * (m_qa_24 - m_qa_12))) [(bo, 2, 1, .int qc_24), (bo, 2, 0, .ref qa_24), (r0, 13, 4, .ref bo), (r0, 13, 3, .ref ou)] [] [] H_24 locs_24 := (hh_23.callG hb_241 hb_242 hb_243 hb_244 hb_245 hS_24 rfl (L1 := [(r0, 13, 4, .ref bo), (r0, 13, 3, .ref ou)]) [2, 3] rfl rfl (M1 := []) [] rfl rfl (I1 := []) [] rfl rfl).more hb_246
  have hNn_24 : (jNk [0, 1, 2, 3, 4, 5, 6, 7, 8, 9, 10, 11, 12, 13, 14, 15, 16]) G0 G_24 := (hNn_12).tr hN_24
  have hg_27 := hb_242 _ _ hg_15
  have hg_28 := hb_242 _ _ hg_16
  have hg_29 := hb_242 _ _ hg_17
  have hg_30 := hb_242 _ _ hg_18
  have hd_31 := jOl.trO (hh_23.iv 1 rfl) hh_23.2.2.2.2.1 hbO_24 (by simp)
  have hh_32 := hh_24.addI (jOl.ie (dC := dC) (dI := dI) (G0 := G0) (k := 2) (rs := [bo, ou]) (H0 := s.heap) (F := [(2, 0), (2, 1)]) (C := RX0) (T := TX0) (N := 2) rfl (by decide) hh_24.2.2.2.2.1 (hd_31))
  clear hh_24
  have hyp_24 : qc_24.toInt ≤ (m_qa_24 : Nat) ∧ m_qa_24 ≤ 1048576 := by (try simp only at hr_25); omega
  have hy_33 := jYb.own hy_26 hbO_24 hb_242 hN_24 (by decide) (fun _ => ⟨_, _, _, hh_32.at 0 rfl, hh_32.at 1 rfl, hgq_24_0, hyp_24⟩)
  have hh_34 := hh_32.addI (jYb.ie hy_33)
  clear hh_32
  try simp only at hr_25
  obtain ⟨hr_25_0, hr_25_1, hr_25_2, hr_25_3, hr_25_4⟩ := hr_25
  have hh_35 := hh_34.wk (zc1 := (m_qa_24 - n_pa) / 16) (zs1 := 2 * (m_qa_24 - n_pa)) (by omega) (by omega)
  clear hh_34
  try clear hsz_24 htt_24 hrc_24 hrs_24
  try clear hb_244 hb_245
  refine lv_aload_n hx hb dX11_refuse_26 rfl (lv_at hl 0 rfl) ?_
  refine j7_read hx hb hown hK (C := RX11) (T := TX11) (N := 19) rfl hly_13_4 hlk_35 (hh_35.at 2 rfl) dX11_refuse_27 ?_
  refine lv_iload_n hx hb dX11_refuse_30 rfl (lv_at hl 2 rfl) ?_
  have hsz_36 := hh_35.2.2.2.2.2.1
  have htt_36 := hh_35.2.2.2.2.2.2.1
  refine W.room (fun hrc_36 hrs_36 => ?_)
  refine j_callx (A0 := jA base) (H0 := s.heap) (va_runS (As := [.int a2]) (rest := [.ref bo]) ⟨hx, hb, hml, hown, hts⟩ (uX11_errorText l dC dI ca base B hB hAp G_24 H_24 a2) (va_cwS 1 hts (jgS (jWr_26 _ (List.mem_of_getElem? (i := 17) rfl)) (jWr_26 _ (List.mem_of_getElem? (i := 18) rfl)) (jWr_1 _ (List.mem_of_getElem? (i := 2) rfl)) (jWr_26 _ (List.mem_of_getElem? (i := 19) rfl))) rfl rfl rfl (by decide +kernel) ⟨by rw [← hR]; exact Nat.le_of_ble_eq_true rfl, by rw [← hR]; exact Nat.le_of_ble_eq_true rfl⟩) ⟨fun a U g mk q => by obtain ⟨q0, q1, q2, qK, q10, q11⟩ := q; exact ⟨q0, q1, q2, jG.calling g mk a qK, q10, q11⟩, fun U hU hW => ⟨rfl, hU, hh_35.2.1, hG.step hW hU hh_35.1, jP.nil, trivial⟩⟩ rfl rfl hl.1 rfl (lv_room (Nat.le_of_ble_eq_true rfl)) dX11_refuse_31 ⟨by rw [hRc]; show _ + 0 ≤ _; omega, by rw [hRs]; show _ + 0 ≤ _; omega⟩) hh_35.1 (fun q _ h => h) (fun q h => h) (fun r_37 u_36 t_36 H_36 locs_36 ht_36 hvm_36 hr_37 hb_36 hz_36 hk_36 hS_36 => ?_)
  rw [ht_36] at hb_36
  obtain ⟨hb_36, hbV_36⟩ := hb_36
  obtain ⟨hb_361, hb_362, hb_363, hb_364, hb_365⟩ := hb_36
  have hh_36 : jSt (dC, dI) B base G0 G_24 EX11_refuse s.heap ((m_qa_24 - n_pa) / 16) (2 * (m_qa_24 - n_pa)) [(bo, 2, 1, .int qc_24), (bo, 2, 0, .ref qa_24), (r0, 13, 4, .ref bo), (r0, 13, 3, .ref ou)] [] [(jFy, jYb dC dI G_24), ([(2, 0), (2, 1)], jOl (dC, dI) G0 2 [bo, ou] s.heap)] H_36 locs_36 := ((hh_35.call hb_361 hb_362 hb_363 hb_364 hS_36 rfl (L1 := [(bo, 2, 1, .int qc_24), (bo, 2, 0, .ref qa_24), (r0, 13, 4, .ref bo), (r0, 13, 3, .ref ou)]) [0, 1, 2, 3] rfl rfl (M1 := []) [] rfl rfl (I1 := [(jFy, jYb dC dI G_24), ([(2, 0), (2, 1)], jOl (dC, dI) G0 2 [bo, ou] s.heap)]) [0, 1] rfl rfl).more hb_365)
  obtain ⟨rfl, hn_36⟩ := hr_37
  have hstr_36 : jStr base u_36.1 u_36.2 s s.heap := hbV_36.back hvm_36 hbs hh_36.1.2.1
  clear hh_35 ht_36 hvm_36 hz_36 hk_36 hS_36 hb_361 hb_362 hb_363 hb_364 hb_365
  have hsz_38 := hh_36.2.2.2.2.2.1
  have htt_38 := hh_36.2.2.2.2.2.2.1
  refine W.room (fun hrc_38 hrs_38 => ?_)
  refine va_callv (A0 := jA base) (H0 := s.heap) (va_runV (As := [.ref u_36.1]) (rest := []) ⟨hx, hb, hml, hown, hts⟩ (uX0_text l dC dI ca base B hB hAp hB2 hB196 G_24 H_36 bo u_36.1 u_36.2 qc_24 qa_24 m_qa_24 LC LS) (cwV 1 hts (jgV (jWr_26 _ (List.mem_of_getElem? (i := 11) rfl)) (jWr_25 _ (List.mem_of_getElem? (i := 22) rfl)) (jWr_25 _ (List.mem_of_getElem? (i := 23) rfl)) (jWr_1 _ (List.mem_of_getElem? (i := 14) rfl)) (jWr_26 _ (List.mem_of_getElem? (i := 0) rfl))) rfl rfl rfl (by decide +kernel) ⟨by rw [← hR]; exact Nat.le_of_ble_eq_true rfl, by rw [← hR]; exact Nat.le_of_ble_eq_true rfl⟩) ⟨fun a U g mk q => by obtain ⟨q0, q1, q2, qK, q10, q11, q12, q13, q14⟩ := q; exact ⟨q0, q1, q2, jG.calling g mk a qK, (q10.moved (Vm.Alike.refl U.vm)), q11, q12, q13, q14⟩, hh_36.recv (C := RX0) (T := TX0) (N := 2) hB2 rfl (by decide) hg_29 hK, fun U hU hW => ⟨rfl, hU, hh_36.2.1, hG.step hW hU hh_36.1, (hstr_36.moved hW.alike).kept hh_36.1.2.1, hg_29, hgq_24_0, (hh_36.2.2.1.sub (L1 := [(bo, 2, 1, .int qc_24), (bo, 2, 0, .ref qa_24)]) [0, 1] rfl), (by omega), (by omega), ⟨(by first | omega | rfl | assumption | fail), (by first | omega | rfl | assumption | fail), (by first | omega | rfl | assumption | fail), (by first | omega | rfl | assumption | fail), (by first | assumption | fail | omega), (by first | omega | rfl | assumption | fail)⟩⟩⟩ rfl rfl hl.1 rfl (lv_room (Nat.le_of_ble_eq_true rfl)) dX11_refuse_34 ⟨by rw [hRc]; omega, by rw [hRs]; omega⟩) hh_36.1 (fun q _ h => h) (fun q h => h) (fun u_38 t_38 H_38 locs_38 ht_38 hvm_38 hr_39 hb_38 hz_38 hk_38 hS_38 => ?_)
  obtain ⟨qc_38, qa_38, m_qa_38, G_38⟩ := u_38
  rw [ht_38] at hb_38
  simp only at hb_38
  obtain ⟨⟨hb_381, hb_382, hb_383, hb_384, hb_385, hb_386⟩, hgq_38_0, hN_38, hbO_38⟩ := hb_38
  have hy_40 := hh_36.iv 0 rfl
  have hh_38 : jSt (dC, dI) B base G0 G_38 EX11_refuse s.heap (((m_qa_24 - n_pa) / 16) + ((m_qa_38 - m_qa_24) / 16)) ((2 * (m_qa_24 - n_pa)) + (2 * (m_qa_38 - m_qa_24))) [(bo, 2, 1, .int qc_38), (bo, 2, 0, .ref qa_38), (r0, 13, 4, .ref bo), (r0, 13, 3, .ref ou)] [] [] H_38 locs_38 := (hh_36.callG hb_381 hb_382 hb_383 hb_384 hb_385 hS_38 rfl (L1 := [(r0, 13, 4, .ref bo), (r0, 13, 3, .ref ou)]) [2, 3] rfl rfl (M1 := []) [] rfl rfl (I1 := []) [] rfl rfl).more hb_386
  have hNn_38 : (jNk [0, 1, 2, 3, 4, 5, 6, 7, 8, 9, 10, 11, 12, 13, 14, 15, 16]) G0 G_38 := (hNn_24).tr hN_38
  have hg_41 := hb_382 _ _ hg_27
  have hg_42 := hb_382 _ _ hg_28
  have hg_43 := hb_382 _ _ hg_29
  have hg_44 := hb_382 _ _ hg_30
  have hd_45 := jOl.trO (hh_36.iv 1 rfl) hh_36.2.2.2.2.1 hbO_38 (by simp)
  have hh_46 := hh_38.addI (jOl.ie (dC := dC) (dI := dI) (G0 := G0) (k := 2) (rs := [bo, ou]) (H0 := s.heap) (F := [(2, 0), (2, 1)]) (C := RX0) (T := TX0) (N := 2) rfl (by decide) hh_38.2.2.2.2.1 (hd_45))
  clear hh_38
  have hyp_38 : qc_38.toInt ≤ (m_qa_38 : Nat) ∧ m_qa_38 ≤ 1048576 := by (try simp only at hr_39); omega
  have hy_47 := jYb.own hy_40 hbO_38 hb_382 hN_38 (by decide) (fun _ => ⟨_, _, _, hh_46.at 0 rfl, hh_46.at 1 rfl, hgq_38_0, hyp_38⟩)
  have hh_48 := hh_46.addI (jYb.ie hy_47)
  clear hh_46
  try simp only at hr_39
  obtain ⟨hr_39_0, hr_39_1, hr_39_2, hr_39_3, hr_39_4⟩ := hr_39
  have hh_49 := hh_48.wk (zc1 := (m_qa_38 - n_pa) / 16) (zs1 := 2 * (m_qa_38 - n_pa)) (by omega) (by omega)
  clear hh_48
  try clear hsz_38 htt_38 hrc_38 hrs_38
  try clear hb_384 hb_385
  refine lv_aload_n hx hb dX11_refuse_37 rfl (lv_at hl 0 rfl) ?_
  refine j7_read hx hb hown hK (C := RX11) (T := TX11) (N := 19) rfl hly_13_4 hlk_35 (hh_49.at 2 rfl) dX11_refuse_38 ?_
  refine j_ldcSw hx hb hown rstr475 dX11_refuse_41 ?_
  have hsz_50 := hh_49.2.2.2.2.2.1
  have htt_50 := hh_49.2.2.2.2.2.2.1
  refine W.room (fun hrc_50 hrs_50 => ?_)
  refine va_callv (A0 := jA base) (H0 := s.heap) (va_runV (As := [.ref str475]) (rest := []) ⟨hx, hb, hml, hown, hts⟩ (uX0_text l dC dI ca base B hB hAp hB2 hB196 G_38 H_38 bo str475 3 qc_38 qa_38 m_qa_38 LC LS) (cwV 1 hts (jgV (jWr_26 _ (List.mem_of_getElem? (i := 11) rfl)) (jWr_25 _ (List.mem_of_getElem? (i := 22) rfl)) (jWr_25 _ (List.mem_of_getElem? (i := 23) rfl)) (jWr_1 _ (List.mem_of_getElem? (i := 14) rfl)) (jWr_26 _ (List.mem_of_getElem? (i := 0) rfl))) rfl rfl rfl (by decide +kernel) ⟨by rw [← hR]; exact Nat.le_of_ble_eq_true rfl, by rw [← hR]; exact Nat.le_of_ble_eq_true rfl⟩) ⟨fun a U g mk q => by obtain ⟨q0, q1, q2, qK, q10, q11, q12, q13, q14⟩ := q; exact ⟨q0, q1, q2, jG.calling g mk a qK, (q10.moved (Vm.Alike.refl U.vm)), q11, q12, q13, q14⟩, hh_49.recv (C := RX0) (T := TX0) (N := 2) hB2 rfl (by decide) hg_43 hK, fun U hU hW => ⟨rfl, hU, hh_49.2.1, hG.step hW hU hh_49.1, (hstr475.moved hW.alike).kept hh_49.1.2.1, hg_43, hgq_38_0, (hh_49.2.2.1.sub (L1 := [(bo, 2, 1, .int qc_38), (bo, 2, 0, .ref qa_38)]) [0, 1] rfl), (by omega), (by omega), ⟨(by first | omega | rfl | assumption | fail), (by first | omega | rfl | assumption | fail), (by first | omega | rfl | assumption | fail), (by first | omega | rfl | assumption | fail), (by first | assumption | fail | omega), (by first | omega | rfl | assumption | fail)⟩⟩⟩ rfl rfl hl.1 rfl (lv_room (Nat.le_of_ble_eq_true rfl)) dX11_refuse_44 ⟨by rw [hRc]; omega, by rw [hRs]; omega⟩) hh_49.1 (fun q _ h => h) (fun q h => h) (fun u_50 t_50 H_50 locs_50 ht_50 hvm_50 hr_51 hb_50 hz_50 hk_50 hS_50 => ?_)
  obtain ⟨qc_50, qa_50, m_qa_50, G_50⟩ := u_50
  rw [ht_50] at hb_50
  simp only at hb_50
  obtain ⟨⟨hb_501, hb_502, hb_503, hb_504, hb_505, hb_506⟩, hgq_50_0, hN_50, hbO_50⟩ := hb_50
  have hy_52 := hh_49.iv 0 rfl
  have hh_50 : jSt (dC, dI) B base G0 G_50 EX11_refuse s.heap (((m_qa_38 - n_pa) / 16) + ((m_qa_50 - m_qa_38) / 16)) ((2 * (m_qa_38 - n_pa)) + (2 * (m_qa_50 - m_qa_38))) [(bo, 2, 1, .int qc_50), (bo, 2, 0, .ref qa_50), (r0, 13, 4, .ref bo), (r0, 13, 3, .ref ou)] [] [] H_50 locs_50 := (hh_49.callG hb_501 hb_502 hb_503 hb_504 hb_505 hS_50 rfl (L1 := [(r0, 13, 4, .ref bo), (r0, 13, 3, .ref ou)]) [2, 3] rfl rfl (M1 := []) [] rfl rfl (I1 := []) [] rfl rfl).more hb_506
  have hNn_50 : (jNk [0, 1, 2, 3, 4, 5, 6, 7, 8, 9, 10, 11, 12, 13, 14, 15, 16]) G0 G_50 := (hNn_38).tr hN_50
  have hg_53 := hb_502 _ _ hg_41
  have hg_54 := hb_502 _ _ hg_42
  have hg_55 := hb_502 _ _ hg_43
  have hg_56 := hb_502 _ _ hg_44
  have hd_57 := jOl.trO (hh_49.iv 1 rfl) hh_49.2.2.2.2.1 hbO_50 (by simp)
  have hh_58 := hh_50.addI (jOl.ie (dC := dC) (dI := dI) (G0 := G0) (k := 2) (rs := [bo, ou]) (H0 := s.heap) (F := [(2, 0), (2, 1)]) (C := RX0) (T := TX0) (N := 2) rfl (by decide) hh_50.2.2.2.2.1 (hd_57))
  clear hh_50
  have hyp_50 : qc_50.toInt ≤ (m_qa_50 : Nat) ∧ m_qa_50 ≤ 1048576 := by (try simp only at hr_51); omega
  have hy_59 := jYb.own hy_52 hbO_50 hb_502 hN_50 (by decide) (fun _ => ⟨_, _, _, hh_58.at 0 rfl, hh_58.at 1 rfl, hgq_50_0, hyp_50⟩)
  have hh_60 := hh_58.addI (jYb.ie hy_59)
  clear hh_58
  try simp only at hr_51
  obtain ⟨hr_51_0, hr_51_1, hr_51_2, hr_51_3, hr_51_4⟩ := hr_51
  have hh_61 := hh_60.wk (zc1 := (m_qa_50 - n_pa) / 16) (zs1 := 2 * (m_qa_50 - n_pa)) (by omega) (by omega)
  clear hh_60
  try clear hsz_50 htt_50 hrc_50 hrs_50
  try clear hb_504 hb_505
  refine lv_aload_n hx hb dX11_refuse_47 rfl (lv_at hl 0 rfl) ?_
  obtain ⟨v_64, hv_64, hh_65⟩ := hh_61.pin (C := RX0) (T := TX0) (N := 2) hB2 rfl (by decide) hg_56 (i := 1) (by decide) rfl
  obtain ⟨count_66, rfl, hlocount_66, hhicount_66, hfxcount_66⟩ := hv_64
  obtain ⟨v_67, hv_67, hh_68⟩ := hh_65.pin (C := RX0) (T := TX0) (N := 2) hB2 rfl (by decide) hg_56 (i := 0) (by decide) rfl
  obtain ⟨row_69, nrow_69, rfl, hg_row_69, hlorow_69, hhirow_69, hpwrow_69, hfxrow_69⟩ := hv_67
  have hsz_62 := hh_68.2.2.2.2.2.1
  have htt_62 := hh_68.2.2.2.2.2.2.1
  refine W.room (fun hrc_62 hrs_62 => ?_)
  refine va_callv (A0 := jA base) (H0 := s.heap) (va_runV (As := []) (rest := []) ⟨hx, hb, hml, hown, hts⟩ (uX11_send l dC dI ca base B hB hAp hB2 hB4 hB13 hB196 G_50 H_50 r0 bo qc_50 qa_50 m_qa_50 ou count_66 row_69 nrow_69) (cwV 0 hts (jgV (jWr_26 _ (List.mem_of_getElem? (i := 20) rfl)) (jWr_26 _ (List.mem_of_getElem? (i := 21) rfl)) (jWr_26 _ (List.mem_of_getElem? (i := 22) rfl)) (jWr_1 _ (List.mem_of_getElem? (i := 2) rfl)) (jWr_26 _ (List.mem_of_getElem? (i := 23) rfl))) rfl rfl rfl (by decide +kernel) ⟨by rw [← hR]; exact Nat.le_of_ble_eq_true rfl, by rw [← hR]; exact Nat.le_of_ble_eq_true rfl⟩) ⟨fun a U g mk q => by obtain ⟨q0, q1, q2, qK, q10, q11, q12, q13, q14, q15, q16, q17⟩ := q; exact ⟨q0, q1, q2, jG.calling g mk a qK, q10, q11, q12, q13, q14, q15, q16, q17⟩, hh_68.recv (C := RX11) (T := TX11) (N := 19) hB13 rfl (by decide) hg_53 hK, fun U hU hW => ⟨rfl, hU, hh_68.2.1, hG.step hW hU hh_68.1, hg_53, hg_55, hgq_50_0, hg_56, hg_row_69, (hh_68.2.2.1.sub (L1 := [(r0, 13, 4, .ref bo), (bo, 2, 1, .int qc_50), (bo, 2, 0, .ref qa_50), (r0, 13, 3, .ref ou), (ou, 2, 1, .int count_66), (ou, 2, 0, .ref row_69)]) [4, 2, 3, 5, 1, 0] rfl), (hh_68.2.2.2.2.2.2.2.2.sub (L1 := [(jFy, jYb dC dI G_50)]) [0] rfl), ⟨(by first | omega | rfl | assumption | fail), (by first | omega | rfl | assumption | fail), (by first | omega | rfl | assumption | fail), (by first | omega | rfl | assumption | fail), (by first | omega | rfl | assumption | fail), (by first | omega | rfl | assumption | fail)⟩⟩⟩ rfl rfl hl.1 rfl (lv_room (Nat.le_of_ble_eq_true rfl)) dX11_refuse_48 ⟨by rw [hRc]; show _ + 0 ≤ _; omega, by rw [hRs]; show _ + 0 ≤ _; omega⟩) hh_68.1 (fun q _ h => h) (fun q h => h) (fun u_62 t_62 H_62 locs_62 ht_62 hvm_62 hr_63 hb_62 hz_62 hk_62 hS_62 => ?_)
  rw [ht_62] at hb_62
  obtain ⟨hb_62, hbE_62⟩ := hb_62
  obtain ⟨hb_62, hbO_62⟩ := hb_62
  obtain ⟨hb_621, hb_622, hb_623, hb_624, hb_625⟩ := hb_62
  have hh_62 : jSt (dC, dI) B base G0 G_50 EX11_refuse s.heap ((m_qa_50 - n_pa) / 16) (2 * (m_qa_50 - n_pa)) [(r0, 13, 4, .ref bo), (r0, 13, 3, .ref ou)] [] [(jFy, jYb dC dI G_50)] H_62 locs_62 := (((hh_68.call hb_621 hb_622 hb_623 hb_624 hS_62 rfl (L1 := [(r0, 13, 4, .ref bo), (r0, 13, 3, .ref ou)]) [4, 5] rfl rfl (M1 := []) [] rfl rfl (I1 := []) [] rfl rfl).more hb_625)).addIs hbE_62
  have hh_70 := hh_62.more (P1 := [(bo, 2, 1, .int qc_50), (bo, 2, 0, .ref qa_50)]) (jP.cons hg_55 (hbO_62 _ _ _ _ (jn1 (by first | assumption | exact Ne.symm (by assumption) | exact jnek hg_55 hg_56 (by decide))) hg_55 (hh_68.at 2 rfl)) (jP.cons hg_55 (hbO_62 _ _ _ _ (jn1 (by first | assumption | exact Ne.symm (by assumption) | exact jnek hg_55 hg_56 (by decide))) hg_55 (hh_68.at 3 rfl)) jP.nil))
  have hd_71 := jOl.trL (hh_68.iv 1 rfl) hh_68.2.2.2.2.1 hbO_62 (by simp)
  have hh_72 := hh_70.addI (jOl.ie (dC := dC) (dI := dI) (G0 := G0) (k := 2) (rs := [bo, ou]) (H0 := s.heap) (F := [(2, 0), (2, 1)]) (C := RX0) (T := TX0) (N := 2) rfl (by decide) hh_70.2.2.2.2.1 (hd_71))
  clear hh_70
  clear hh_68 ht_62 hvm_62 hz_62 hk_62 hS_62 hb_621 hb_622 hb_623 hb_624 hb_625
  clear  hbE_62
  have hsz_73 := hh_72.2.2.2.2.2.1
  have htt_73 := hh_72.2.2.2.2.2.2.1
  refine W.room (fun hrc_73 hrs_73 => ?_)
  refine W.widen (k := LC - s.heap.size) (n := LS - jTot s.heap) (by omega) (by omega) ?_
  rw [hQ]
  exact W.vret hx hb hr (fun t ht hW => ⟨⟨(qc_50, qa_50, m_qa_50, G_50), rfl, by (try dsimp only); exact ⟨(by first | omega | rfl | assumption | fail), (by first | omega | rfl | assumption | fail), (by first | omega | rfl | assumption | fail), (by first | omega | rfl | assumption | fail), (by first | assumption | fail | omega)⟩, ⟨hh_72.ra (by first | omega | (simp only; omega)) (by first | omega | (simp only; omega)) (M1 := [(bo, 2, 1, .int qc_50), (bo, 2, 0, .ref qa_50)]) [0, 1] rfl ht, hgq_50_0, hNn_50, by rw [ht]; exact hh_72.iv 0 rfl, by rw [ht]; exact hh_72.2.2.2.2.2.2.2.2.sub (L1 := [(jFy, jYb dC dI G_50)]) [1] rfl⟩⟩, by rw [ht]; try exact hh_72.1.1, fun q h9 hq => by rw [ht]; try exact hh_72.1.2.1 q h9 hq⟩) hh_72.1.2.2 dX11_refuse_51
end
section
theorem dX1_copyText_0 : decode cX1_copyText 0 = .ok (.aload_n 1, 1) := by decide +kernel
theorem dX1_copyText_1 : decode cX1_copyText 1 = .ok (.getfield 15, 3) := by decide +kernel
theorem dX1_copyText_4 : decode cX1_copyText 4 = .ok (.iconst 0, 1) := by decide +kernel
theorem dX1_copyText_5 : decode cX1_copyText 5 = .ok (.aload_n 0, 1) := by decide +kernel
theorem dX1_copyText_6 : decode cX1_copyText 6 = .ok (.getfield 15, 3) := by decide +kernel
theorem dX1_copyText_9 : decode cX1_copyText 9 = .ok (.iconst 0, 1) := by decide +kernel
theorem dX1_copyText_10 : decode cX1_copyText 10 = .ok (.sipush 1500, 3) := by decide +kernel
theorem dX1_copyText_13 : decode cX1_copyText 13 = .ok (.invokestatic 36, 3) := by decide +kernel
theorem dX1_copyText_16 : decode cX1_copyText 16 = .ok (.aload_n 0, 1) := by decide +kernel
theorem dX1_copyText_17 : decode cX1_copyText 17 = .ok (.aload_n 1, 1) := by decide +kernel
theorem dX1_copyText_18 : decode cX1_copyText 18 = .ok (.getfield 42, 3) := by decide +kernel
theorem dX1_copyText_21 : decode cX1_copyText 21 = .ok (.putfield 42, 3) := by decide +kernel
theorem dX1_copyText_24 : decode cX1_copyText 24 = .ok (.return_, 1) := by decide +kernel
def EX1_copyText : List (Nat × Nat) := [(3, 3), (101, 0)]
def EX1_replace : List (Nat × Nat) := [(3, 3), (101, 0)]
set_option maxHeartbeats 4000000 in
set_option maxRecDepth 20000 in
theorem uX1_copyText (l : Launch) (dC : Nat → ClassId) (dI : Nat → Nat → Nat) (ca : Nat → ClassId) (base : Nat) (B : jF) (hB : jBok B) (hAp : jAp (dC, dI)) (hB3 : ∀ n G a H, B 3 n G a H ↔ jOb (dC, dI) 3 17 (F3 n G) a H) (hB101 : ∀ n G a H, B 101 n G a H ↔ jAr (dC, dI) (ca 1) (fun j z => True) n a H) (G0 : jT) (H0 : Heap) (r0 : Nat) (r1 : Nat) (n0 : Nat) (n1 : Nat) : Met l yX1_copyText (jw yX1_copyText cX1_copyText 2 none) ({ frames := 1, cells := 0, slots := 0, locals := 61 }) (va_Pc [.ref r0, .ref r1] (fun U => U.heap = H0 ∧ jX B base G0 [] H0 ∧ jG dC dI ca base U ∧ G0 r0 = some (3, n0) ∧ G0 r1 = some (3, n1) ∧ jP (dC, dI) G0 H0 [] ∧ True)) (va_Qv (S := Unit) (fun u => True) (fun u t => jRt (dC, dI) B base G0 EX1_copyText H0 [] t.heap) (jA base)) 0 0 (jA base) := by
  refine Met.ofW (cc := cX1_copyText) (maxL := 2) (ret := none) (by decide) rfl ?_
  intro p e s m args below meth c s₁ Bd hml hv
  obtain ⟨rfl, hH0, hX, hG, hg_r0, hg_r1, hP0, hp0⟩ := hv
  have hK := hG.1
  have hx := Bd.exec
  have hb := Bd.bytes
  have hr := Bd.returns
  have hts := atoms_spec (ws := (jw yX1_copyText cX1_copyText 2 none)) Bd.pre
  have htw : ∀ w ∈ jWl, w.before _ s = true := fun w h => hts w (List.mem_cons_of_mem _ h)
  have hown : s.vm.findClass RX1 = some m.cls := findClass_of_methodNamed Bd.named
  have hlocks := Bd.notSynchronized
  obtain ⟨Q, hQ⟩ : ∃ Q, Q = MQ below (va_Qv (S := Unit) (fun u => True) (fun u t => jRt (dC, dI) B base G0 EX1_copyText H0 [] t.heap) (jA base)) ([.ref r0, .ref r1] : List Value).toArray s 0 0 (jA base) := ⟨_, rfl⟩
  rw [← hQ]
  have hl := lv_entry ([.ref r0, .ref r1]) (n := 2) (Nat.le_of_ble_eq_true rfl)
  rw [lg_entry_eq]
  generalize (lg_sl ([.ref r0, .ref r1]) ++ List.replicate (2 - (lg_sl ([.ref r0, .ref r1])).length) Slot.unset).toArray = ls at hl ⊢
  have hl : lv_has ls 2 [(0, .ref r0), (1, .ref r1)] := hl
  generalize hR : (headSpec (jw yX1_copyText cX1_copyText 2 none) ({ frames := 1, cells := 0, slots := 0, locals := 61 })).room = R
  subst hH0
  have hh : jSt (dC, dI) B base G0 G0 EX1_copyText s.heap 0 0 [] [] [] s.heap [] := jSt.start hX hP0 jMc.nil jIs.nil
  clear hX hP0
  have hk0 : (0 : Int32).toInt = 0 := by decide
  have hk1 : (1 : Int32).toInt = 1 := by decide
  have hk1500 : (1500 : Int32).toInt = 1500 := by decide
  have hly_3_2 := htw (u_lay RX1 TX1 2) (jWc_wsX10 _ (u_in_lay (by decide)))
  have hly_3_3 := htw (u_lay RX1 TX1 3) (jWc_wsX10 _ (u_in_lay (by decide)))
  have hlk_15 := (htw (.fieldLink RX1 15 "ProofServer$Document" "text" "[I") (jWr_10 _ (List.mem_of_getElem? (i := 6) rfl)))
  have hlk_42 := (htw (.fieldLink RX1 42 "ProofServer$Document" "length" "I") (jWr_29 _ (List.mem_of_getElem? (i := 5) rfl)))
  refine lv_aload_n hx hb dX1_copyText_0 rfl (lv_at hl 1 rfl) ?_
  obtain ⟨v_1, hv_1, hh_2⟩ := hh.pin (C := RX1) (T := TX1) (N := 17) hB3 rfl (by decide) hg_r1 (i := 2) (by decide) rfl
  clear hh
  obtain ⟨text_3, rfl, hg_text_3⟩ := hv_1
  refine j7_read hx hb hown hK (C := RX1) (T := TX1) (N := 17) rfl hly_3_2 hlk_15 (hh_2.at 0 rfl) dX1_copyText_1 ?_
  refine lv_iconst (v := 0) hx hb dX1_copyText_4 (by decide) ?_
  refine lv_aload_n hx hb dX1_copyText_5 rfl (lv_at hl 0 rfl) ?_
  obtain ⟨v_4, hv_4, hh_5⟩ := hh_2.pin (C := RX1) (T := TX1) (N := 17) hB3 rfl (by decide) hg_r0 (i := 2) (by decide) rfl
  clear hh_2
  obtain ⟨text_6, rfl, hg_text_6⟩ := hv_4
  refine j7_read hx hb hown hK (C := RX1) (T := TX1) (N := 17) rfl hly_3_2 hlk_15 (hh_5.at 0 rfl) dX1_copyText_6 ?_
  refine lv_iconst (v := 0) hx hb dX1_copyText_9 (by decide) ?_
  refine lv_sipush (v := 1500) hx hb dX1_copyText_10 (by decide) ?_
  refine j7_acopyi hx hb (by rw [hml]; exact hl.1.symm) hown (htw (.methodLink RX1 36 arraycopyName) (jWr_35 _ (List.mem_of_getElem? (i := 23) rfl))) (htw (.native arraycopyName) (jWr_16 _ (List.mem_of_getElem? (i := 19) rfl))) (htw (.static arraycopyName) (jWr_16 _ (List.mem_of_getElem? (i := 20) rfl))) (htw (.initialized "java/lang/System") (jWr_16 _ (List.mem_of_getElem? (i := 21) rfl))) hK hh_5 hB hB101 hB101 1 rfl (by decide) (by decide) (by decide) rfl rfl rfl hg_text_3 hg_text_6 (x := 0) (y := 0) (z := 1500) (by decide) (by decide) (by decide) (by omega) (fun _ _ _ => trivial) (by rw [← hR]; exact Nat.le_of_ble_eq_true rfl) (by rw [← hR]; exact Nat.le_of_ble_eq_true rfl) dX1_copyText_13 (fun H_7 locs_7 hr_7 hh_7 => ?_)
  clear hr_7
  clear hh_5
  refine lv_aload_n hx hb dX1_copyText_16 rfl (lv_at hl 0 rfl) ?_
  refine lv_aload_n hx hb dX1_copyText_17 rfl (lv_at hl 1 rfl) ?_
  obtain ⟨v_8, hv_8, hh_9⟩ := hh_7.pin (C := RX1) (T := TX1) (N := 17) hB3 rfl (by decide) hg_r1 (i := 3) (by decide) rfl
  clear hh_7
  obtain ⟨length_10, rfl, hlolength_10, hhilength_10⟩ := hv_8
  refine j7_read hx hb hown hK (C := RX1) (T := TX1) (N := 17) rfl hly_3_3 hlk_42 (hh_9.at 0 rfl) dX1_copyText_18 ?_
  refine j7_put hx hb hown hK hh_9 hB hAp hB3 (C := RX1) (T := TX1) (N := 17) rfl (by decide) hg_r0 (i := 3) (by decide) hly_3_3 rfl hlk_42 rfl (ty := .int) (v := .int length_10) (by decide +kernel) rfl rfl (⟨_, rfl, by omega, by omega⟩) rfl (L1 := [(r0, 3, 2, .ref text_6), (r1, 3, 2, .ref text_3)]) [1, 2] rfl rfl rfl dX1_copyText_21 (fun H_11 locs_11 hh_11 => ?_)
  clear hh_9
  rw [hQ]
  exact W.vret hx hb hr (fun t ht hW => ⟨⟨(), rfl, trivial, hh_11.rt (M1 := []) [] rfl ht⟩, by rw [ht]; try exact hh_11.1.1, fun q h9 hq => by rw [ht]; try exact hh_11.1.2.1 q h9 hq⟩) hh_11.1.2.2 dX1_copyText_24
set_option maxHeartbeats 4000000 in
set_option maxRecDepth 20000 in
theorem uX1_replace (l : Launch) (dC : Nat → ClassId) (dI : Nat → Nat → Nat) (ca : Nat → ClassId) (base : Nat) (B : jF) (hB : jBok B) (hAp : jAp (dC, dI)) (hB3 : ∀ n G a H, B 3 n G a H ↔ jOb (dC, dI) 3 17 (F3 n G) a H) (hB6 : ∀ n G a H, B 6 n G a H ↔ jOb (dC, dI) 6 12 (F6 n G) a H) (hB101 : ∀ n G a H, B 101 n G a H ↔ jAr (dC, dI) (ca 1) (fun j z => True) n a H) (hB140 : ∀ n G a H, B 140 n G a H ↔ jAr (dC, dI) (ca 1) (fun j z => True) n a H) (hB141 : ∀ n G a H, B 141 n G a H ↔ jAr (dC, dI) (ca 1) (fun j z => True) n a H) (hB142 : ∀ n G a H, B 142 n G a H ↔ jAr (dC, dI) (ca 1) (fun j z => True) n a H) (hB146 : ∀ n G a H, B 146 n G a H ↔ jAr (dC, dI) (ca 1) (fun j z => True) n a H) (G0 : jT) (H0 : Heap) (r0 : Nat) (a1 : Int32) (a2 : Int32) (r3 : Nat) (a4 : Int32) (n0 : Nat) : Met l yX1_replace (jw yX1_replace cX1_replace 8 (some .boolean)) ({ frames := 2, cells := 0, slots := 0, locals := 61 }) (va_Pc [.ref r0, .int a1, .int a2, .ref r3, .int a4] (fun U => U.heap = H0 ∧ jX B base G0 [] H0 ∧ jG dC dI ca base U ∧ G0 r0 = some (3, n0) ∧ G0 r3 = some (6, 0) ∧ jP (dC, dI) G0 H0 [] ∧ 0 ≤ a1.toInt ∧ a1.toInt ≤ 1500 ∧ 0 ≤ a2.toInt ∧ a2.toInt ≤ 1500)) (va_Qi (S := Unit) (fun r u => (r = 0 ∨ r = 1) ∧ (True)) (fun u t => jRt (dC, dI) B base G0 EX1_replace H0 [] t.heap) (jA base)) 0 0 (jA base) := by
  refine Met.ofW (cc := cX1_replace) (maxL := 8) (ret := (some .boolean)) (by decide) rfl ?_
  intro p e s m args below meth c s₁ Bd hml hv
  obtain ⟨rfl, hH0, hX, hG, hg_r0, hg_r3, hP0, hp0, hp1, hp2, hp3⟩ := hv
  have hK := hG.1
  have hx := Bd.exec
  have hb := Bd.bytes
  have hr := Bd.returns
  have hts := atoms_spec (ws := (jw yX1_replace cX1_replace 8 (some .boolean))) Bd.pre
  have htw : ∀ w ∈ jWl, w.before _ s = true := fun w h => hts w (List.mem_cons_of_mem _ h)
  have hown : s.vm.findClass RX1 = some m.cls := findClass_of_methodNamed Bd.named
  have hlocks := Bd.notSynchronized
  obtain ⟨Q, hQ⟩ : ∃ Q, Q = MQ below (va_Qi (S := Unit) (fun r u => (r = 0 ∨ r = 1) ∧ (True)) (fun u t => jRt (dC, dI) B base G0 EX1_replace H0 [] t.heap) (jA base)) ([.ref r0, .int a1, .int a2, .ref r3, .int a4] : List Value).toArray s 0 0 (jA base) := ⟨_, rfl⟩
  rw [← hQ]
  have hl := lv_entry ([.ref r0, .int a1, .int a2, .ref r3, .int a4]) (n := 8) (Nat.le_of_ble_eq_true rfl)
  rw [lg_entry_eq]
  generalize (lg_sl ([.ref r0, .int a1, .int a2, .ref r3, .int a4]) ++ List.replicate (8 - (lg_sl ([.ref r0, .int a1, .int a2, .ref r3, .int a4])).length) Slot.unset).toArray = ls at hl ⊢
  have hl : lv_has ls 8 [(0, .ref r0), (1, .int a1), (2, .int a2), (3, .ref r3), (4, .int a4)] := hl
  generalize hR : (headSpec (jw yX1_replace cX1_replace 8 (some .boolean)) ({ frames := 2, cells := 0, slots := 0, locals := 61 })).room = R
  subst hH0
  have hh : jSt (dC, dI) B base G0 G0 EX1_replace s.heap 0 0 [] [] [] s.heap [] := jSt.start hX hP0 jMc.nil jIs.nil
  clear hX hP0
  have hk0 : (0 : Int32).toInt = 0 := by decide
  have hk1 : (1 : Int32).toInt = 1 := by decide
  have hk1500 : (1500 : Int32).toInt = 1500 := by decide
  have hly_3_2 := htw (u_lay RX1 TX1 2) (jWc_wsX10 _ (u_in_lay (by decide)))
  have hly_3_3 := htw (u_lay RX1 TX1 3) (jWc_wsX10 _ (u_in_lay (by decide)))
  have hlk_42 := (htw (.fieldLink RX1 42 "ProofServer$Document" "length" "I") (jWr_29 _ (List.mem_of_getElem? (i := 5) rfl)))
  have hlk_15 := (htw (.fieldLink RX1 15 "ProofServer$Document" "text" "[I") (jWr_10 _ (List.mem_of_getElem? (i := 6) rfl)))
  have hrg_a1 := jb_rng a1
  have hrg_a2 := jb_rng a2
  have hrg_a4 := jb_rng a4
  refine lv_aload_n hx hb dX1_replace_0 rfl (lv_at hl 3 rfl) ?_
  refine lv_iload hx hb dX1_replace_1 (lv_at hl 4 rfl) ?_
  refine va_calli (A0 := jA base) (H0 := s.heap) (va_runV (As := [.int a4]) (rest := []) ⟨hx, hb, hml, hown, hts⟩ (uX4_sizeOf l dC dI ca base B hB hAp hB6 hB142 G0 s.heap r3 a4) (cwV 1 hts (jgV (jWr_36 _ (List.mem_of_getElem? (i := 0) rfl)) (jWr_24 _ (List.mem_of_getElem? (i := 7) rfl)) (jWr_24 _ (List.mem_of_getElem? (i := 8) rfl)) (jWr_1 _ (List.mem_of_getElem? (i := 22) rfl)) (jWr_24 _ (List.mem_of_getElem? (i := 9) rfl))) rfl rfl rfl (by decide +kernel) ⟨by rw [← hR]; exact Nat.le_of_ble_eq_true rfl, by rw [← hR]; exact Nat.le_of_ble_eq_true rfl⟩) ⟨fun a U g mk q => by obtain ⟨q0, q1, q2, qK, q10, q11, q12⟩ := q; exact ⟨q0, q1, q2, jG.calling g mk a qK, q10, q11, q12⟩, hh.recv (C := RX4) (T := TX4) (N := 12) hB6 rfl (by decide) hg_r3 hK, fun U hU hW => ⟨rfl, hU, hh.2.1, hG.step hW hU hh.1, hg_r3, jP.nil, trivial⟩⟩ rfl rfl hl.1 rfl (lv_room (Nat.le_of_ble_eq_true rfl)) dX1_replace_3 ⟨Nat.zero_le _, Nat.zero_le _⟩) hh.1 (fun q _ h => h) (fun q h => h) (fun r_2 u_1 t_1 H_1 locs_1 ht_1 hvm_1 hr_2 hb_1 hz_1 hk_1 hS_1 => ?_)
  rw [ht_1] at hb_1
  obtain ⟨hb_11, hb_12, hb_13, hb_14, hb_15⟩ := hb_1
  have hh_1 : jSt (dC, dI) B base G0 G0 EX1_replace s.heap 0 0 [] [] [] H_1 locs_1 := ((hh.call hb_11 hb_12 hb_13 hb_14 hS_1 rfl (L1 := []) [] rfl rfl (M1 := []) [] rfl rfl (I1 := []) [] rfl rfl).more hb_15)
  clear hh ht_1 hvm_1 hz_1 hk_1 hS_1 hb_11 hb_12 hb_13 hb_14 hb_15
  refine lv_istore (lv' := [(5, .int r_2), (0, .ref r0), (1, .int a1), (2, .int a2), (3, .ref r3), (4, .int a4)]) hx hb dX1_replace_6 hl (by decide) rfl (fun ls hl => ?_)
  refine lv_aload_n hx hb dX1_replace_8 rfl (lv_at hl 1 rfl) ?_
  obtain ⟨v_3, hv_3, hh_4⟩ := hh_1.pin (C := RX1) (T := TX1) (N := 17) hB3 rfl (by decide) hg_r0 (i := 3) (by decide) rfl
  clear hh_1
  obtain ⟨length_5, rfl, hlolength_5, hhilength_5⟩ := hv_3
  refine j7_read hx hb hown hK (C := RX1) (T := TX1) (N := 17) rfl hly_3_3 hlk_42 (hh_4.at 0 rfl) dX1_replace_9 ?_
  refine lv_iload_n hx hb dX1_replace_12 rfl (lv_at hl 3 rfl) ?_
  refine lv_isub hx hb dX1_replace_13 ?_
  refine lv_topi (fun z_6 ez_6 => ?_)
  have hz_6 : z_6.toInt = length_5.toInt - a2.toInt := by rw [ez_6]; exact jb_isub2 (rfl) (rfl) (by omega)
  refine lv_istore (lv' := [(6, .int z_6), (5, .int r_2), (0, .ref r0), (1, .int a1), (2, .int a2), (3, .ref r3), (4, .int a4)]) hx hb dX1_replace_14 hl (by decide) rfl (fun ls hl => ?_)
  refine lv_iload_n hx hb dX1_replace_16 rfl (lv_at hl 3 rfl) ?_
  refine lv_if_lt (tgt := 56) hx hb dX1_replace_17 (by decide) (fun c_7 => ?_) (fun c_7 => ?_)
  · skip
    have c_7' : a1.toInt < 0 := jb_lt (rfl) ((by decide)) c_7
    refine lv_iconst (v := 0) hx hb dX1_replace_56 (by decide) ?_
    rw [hQ]
    exact W.zret (v := 0) hx hb hr (jb_nz (Or.inl rfl)) (fun t ht hW => ⟨⟨0, (), rfl, ⟨(Or.inl rfl), trivial⟩, hh_4.rt (M1 := []) [] rfl ht⟩, by rw [ht]; try exact hh_4.1.1, fun q h9 hq => by rw [ht]; try exact hh_4.1.2.1 q h9 hq⟩) hh_4.1.2.2 dX1_replace_57
  · skip
    have c_7' : a1.toInt ≥ 0 := jb_lt_n (rfl) ((by decide)) c_7
    refine lv_iload_n hx hb dX1_replace_20 rfl (lv_at hl 4 rfl) ?_
    refine lv_iload_n hx hb dX1_replace_21 rfl (lv_at hl 3 rfl) ?_
    refine lv_icmp_lt (tgt := 56) hx hb dX1_replace_22 (by decide) (fun c_8 => ?_) (fun c_8 => ?_)
    · skip
      have c_8' : a2.toInt < a1.toInt := jb_lt (rfl) (rfl) c_8
      refine lv_iconst (v := 0) hx hb dX1_replace_56 (by decide) ?_
      rw [hQ]
      exact W.zret (v := 0) hx hb hr (jb_nz (Or.inl rfl)) (fun t ht hW => ⟨⟨0, (), rfl, ⟨(Or.inl rfl), trivial⟩, hh_4.rt (M1 := []) [] rfl ht⟩, by rw [ht]; try exact hh_4.1.1, fun q h9 hq => by rw [ht]; try exact hh_4.1.2.1 q h9 hq⟩) hh_4.1.2.2 dX1_replace_57
    · skip
      have c_8' : a2.toInt ≥ a1.toInt := jb_lt_n (rfl) (rfl) c_8
      refine lv_iload hx hb dX1_replace_25 (lv_at hl 0 rfl) ?_
      refine lv_if_lt (tgt := 56) hx hb dX1_replace_27 (by decide) (fun c_9 => ?_) (fun c_9 => ?_)
      · skip
        have c_9' : z_6.toInt < 0 := jb_lt (rfl) ((by decide)) c_9
        refine lv_iconst (v := 0) hx hb dX1_replace_56 (by decide) ?_
        rw [hQ]
        exact W.zret (v := 0) hx hb hr (jb_nz (Or.inl rfl)) (fun t ht hW => ⟨⟨0, (), rfl, ⟨(Or.inl rfl), trivial⟩, hh_4.rt (M1 := []) [] rfl ht⟩, by rw [ht]; try exact hh_4.1.1, fun q h9 hq => by rw [ht]; try exact hh_4.1.2.1 q h9 hq⟩) hh_4.1.2.2 dX1_replace_57
      · skip
        have c_9' : z_6.toInt ≥ 0 := jb_lt_n (rfl) ((by decide)) c_9
        refine lv_iload hx hb dX1_replace_30 (lv_at hl 1 rfl) ?_
        refine lv_if_lt (tgt := 56) hx hb dX1_replace_32 (by decide) (fun c_10 => ?_) (fun c_10 => ?_)
        · skip
          have c_10' : r_2.toInt < 0 := jb_lt (rfl) ((by decide)) c_10
          refine lv_iconst (v := 0) hx hb dX1_replace_56 (by decide) ?_
          rw [hQ]
          exact W.zret (v := 0) hx hb hr (jb_nz (Or.inl rfl)) (fun t ht hW => ⟨⟨0, (), rfl, ⟨(Or.inl rfl), trivial⟩, hh_4.rt (M1 := []) [] rfl ht⟩, by rw [ht]; try exact hh_4.1.1, fun q h9 hq => by rw [ht]; try exact hh_4.1.2.1 q h9 hq⟩) hh_4.1.2.2 dX1_replace_57
        · skip
          have c_10' : r_2.toInt ≥ 0 := jb_lt_n (rfl) ((by decide)) c_10
          refine lv_iload hx hb dX1_replace_35 (lv_at hl 1 rfl) ?_
          refine lv_sipush (v := 1500) hx hb dX1_replace_37 (by decide) ?_
          refine lv_icmp_gt (tgt := 56) hx hb dX1_replace_40 (by decide) (fun c_11 => ?_) (fun c_11 => ?_)
          · skip
            have c_11' : r_2.toInt > 1500 := jb_gt (rfl) ((by decide)) c_11
            refine lv_iconst (v := 0) hx hb dX1_replace_56 (by decide) ?_
            rw [hQ]
            exact W.zret (v := 0) hx hb hr (jb_nz (Or.inl rfl)) (fun t ht hW => ⟨⟨0, (), rfl, ⟨(Or.inl rfl), trivial⟩, hh_4.rt (M1 := []) [] rfl ht⟩, by rw [ht]; try exact hh_4.1.1, fun q h9 hq => by rw [ht]; try exact hh_4.1.2.1 q h9 hq⟩) hh_4.1.2.2 dX1_replace_57
          · skip
            have c_11' : r_2.toInt ≤ 1500 := jb_gt_n (rfl) ((by decide)) c_11
            refine lv_iload_n hx hb dX1_replace_43 rfl (lv_at hl 3 rfl) ?_
            refine lv_iload hx hb dX1_replace_44 (lv_at hl 1 rfl) ?_
            refine lv_iadd hx hb dX1_replace_46 ?_
            refine lv_topi (fun z_12 ez_12 => ?_)
            have hz_12 : z_12.toInt = a1.toInt + r_2.toInt := by rw [ez_12]; exact jb_iadd2 (rfl) (rfl) (by omega)
            refine lv_iload hx hb dX1_replace_47 (lv_at hl 0 rfl) ?_
            refine lv_iadd hx hb dX1_replace_49 ?_
            refine lv_topi (fun z_13 ez_13 => ?_)
            have hz_13 : z_13.toInt = z_12.toInt + z_6.toInt := by rw [ez_13]; exact jb_iadd2 (rfl) (rfl) (by omega)
            refine lv_sipush (v := 1500) hx hb dX1_replace_50 (by decide) ?_
            refine lv_icmp_le (tgt := 58) hx hb dX1_replace_53 (by decide) (fun c_14 => ?_) (fun c_14 => ?_)
            · skip
              have c_14' : z_13.toInt ≤ 1500 := jb_le (rfl) ((by decide)) c_14
              refine lv_aload_n hx hb dX1_replace_58 rfl (lv_at hl 2 rfl) ?_
              obtain ⟨v_15, hv_15, hh_16⟩ := hh_4.pin (C := RX1) (T := TX1) (N := 17) hB3 rfl (by decide) hg_r0 (i := 2) (by decide) rfl
              clear hh_4
              obtain ⟨text_17, rfl, hg_text_17⟩ := hv_15
              refine j7_read hx hb hown hK (C := RX1) (T := TX1) (N := 17) rfl hly_3_2 hlk_15 (hh_16.at 0 rfl) dX1_replace_59 ?_
              refine lv_iload_n hx hb dX1_replace_62 rfl (lv_at hl 4 rfl) ?_
              refine lv_aload_n hx hb dX1_replace_63 rfl (lv_at hl 2 rfl) ?_
              refine j7_read hx hb hown hK (C := RX1) (T := TX1) (N := 17) rfl hly_3_2 hlk_15 (hh_16.at 0 rfl) dX1_replace_64 ?_
              refine lv_iload_n hx hb dX1_replace_67 rfl (lv_at hl 3 rfl) ?_
              refine lv_iload hx hb dX1_replace_68 (lv_at hl 1 rfl) ?_
              refine lv_iadd hx hb dX1_replace_70 ?_
              refine lv_topi (fun z_18 ez_18 => ?_)
              have hz_18 : z_18.toInt = a1.toInt + r_2.toInt := by rw [ez_18]; exact jb_iadd2 (rfl) (rfl) (by omega)
              refine lv_iload hx hb dX1_replace_71 (lv_at hl 0 rfl) ?_
              refine j7_acopyi hx hb (by rw [hml]; exact hl.1.symm) hown (htw (.methodLink RX1 36 arraycopyName) (jWr_35 _ (List.mem_of_getElem? (i := 23) rfl))) (htw (.native arraycopyName) (jWr_16 _ (List.mem_of_getElem? (i := 19) rfl))) (htw (.static arraycopyName) (jWr_16 _ (List.mem_of_getElem? (i := 20) rfl))) (htw (.initialized "java/lang/System") (jWr_16 _ (List.mem_of_getElem? (i := 21) rfl))) hK hh_16 hB hB101 hB101 1 rfl (by decide) (by decide) (by decide) rfl rfl rfl hg_text_17 hg_text_17 (x := a2.toInt) (y := z_18.toInt) (z := z_6.toInt) rfl rfl rfl (by omega) (fun _ _ _ => trivial) (by rw [← hR]; exact Nat.le_of_ble_eq_true rfl) (by rw [← hR]; exact Nat.le_of_ble_eq_true rfl) dX1_replace_73 (fun H_19 locs_19 hr_19 hh_19 => ?_)
              clear hr_19
              clear hh_16
              refine lv_iconst (v := 0) hx hb dX1_replace_76 (by decide) ?_
              refine lv_istore (lv' := [(7, .int 0), (6, .int z_6), (5, .int r_2), (0, .ref r0), (1, .int a1), (2, .int a2), (3, .ref r3), (4, .int a4)]) hx hb dX1_replace_77 hl (by decide) rfl (fun ls hl => ?_)
              have L79 : ∀ (N : Nat) (v7_20 : Int32) (H_20 : Heap) (locs_20 : List Loc), jSt (dC, dI) B base G0 G0 EX1_replace s.heap 0 0 [(r0, 3, 2, .ref text_17), (r0, 3, 3, .int length_5)] [] [] H_20 locs_20 → (0 ≤ v7_20.toInt ∧ v7_20.toInt ≤ r_2.toInt) → (r_2.toInt - v7_20.toInt : Int) < N → ∀ ls : Array Slot, lv_has ls 8 [(0, .ref r0), (1, .int a1), (2, .int a2), (3, .ref r3), (4, .int a4), (5, .int r_2), (6, .int z_6), (7, .int v7_20)] → W p l e R s m ([.ref r0, .int a1, .int a2, .ref r3, .int a4] : List Value).toArray below meth c H_20 locs_20 0 0 Q (F0 m 79 ls []) := by
                intro N
                induction N with
                | zero => intro v7_20 H_20 locs_20 hh_20  hi_20 hm; exact absurd hm (by omega)
                | succ N L79 =>
                  intro v7_20 H_20 locs_20 hh_20  hi_20 hm_20 ls hl
                  obtain ⟨hi_20_0, hi_20_1⟩ := hi_20
                  refine lv_iload hx hb dX1_replace_79 (lv_at hl 7 rfl) ?_
                  refine lv_iload hx hb dX1_replace_81 (lv_at hl 5 rfl) ?_
                  refine lv_icmp_ge (tgt := 109) hx hb dX1_replace_83 (by decide) (fun c_21 => ?_) (fun c_21 => ?_)
                  · skip
                    have c_21' : v7_20.toInt ≥ r_2.toInt := jb_ge (rfl) (rfl) c_21
                    refine lv_aload_n hx hb dX1_replace_109 rfl (lv_at hl 0 rfl) ?_
                    refine lv_iload_n hx hb dX1_replace_110 rfl (lv_at hl 1 rfl) ?_
                    refine lv_iload hx hb dX1_replace_111 (lv_at hl 5 rfl) ?_
                    refine lv_iadd hx hb dX1_replace_113 ?_
                    refine lv_topi (fun z_22 ez_22 => ?_)
                    have hz_22 : z_22.toInt = a1.toInt + r_2.toInt := by rw [ez_22]; exact jb_iadd2 (rfl) (rfl) (by omega)
                    refine lv_iload hx hb dX1_replace_114 (lv_at hl 6 rfl) ?_
                    refine lv_iadd hx hb dX1_replace_116 ?_
                    refine lv_topi (fun z_23 ez_23 => ?_)
                    have hz_23 : z_23.toInt = z_22.toInt + z_6.toInt := by rw [ez_23]; exact jb_iadd2 (rfl) (rfl) (by omega)
                    refine j7_put hx hb hown hK hh_20 hB hAp hB3 (C := RX1) (T := TX1) (N := 17) rfl (by decide) hg_r0 (i := 3) (by decide) hly_3_3 rfl hlk_42 rfl (ty := .int) (v := .int z_23) (by decide +kernel) rfl rfl (⟨_, rfl, by omega, by omega⟩) rfl (L1 := [(r0, 3, 2, .ref text_17)]) [0] rfl rfl rfl dX1_replace_117 (fun H_24 locs_24 hh_24 => ?_)
                    clear hh_20
                    refine lv_iconst (v := 1) hx hb dX1_replace_120 (by decide) ?_
                    rw [hQ]
                    exact W.zret (v := 1) hx hb hr (jb_nz (Or.inr rfl)) (fun t ht hW => ⟨⟨1, (), rfl, ⟨(Or.inr rfl), trivial⟩, hh_24.rt (M1 := []) [] rfl ht⟩, by rw [ht]; try exact hh_24.1.1, fun q h9 hq => by rw [ht]; try exact hh_24.1.2.1 q h9 hq⟩) hh_24.1.2.2 dX1_replace_121
                  · skip
                    have c_21' : v7_20.toInt < r_2.toInt := jb_ge_n (rfl) (rfl) c_21
                    refine lv_aload_n hx hb dX1_replace_86 rfl (lv_at hl 0 rfl) ?_
                    refine j7_read hx hb hown hK (C := RX1) (T := TX1) (N := 17) rfl hly_3_2 hlk_15 (hh_20.at 0 rfl) dX1_replace_87 ?_
                    refine lv_iload_n hx hb dX1_replace_90 rfl (lv_at hl 1 rfl) ?_
                    refine lv_iload hx hb dX1_replace_91 (lv_at hl 7 rfl) ?_
                    refine lv_iadd hx hb dX1_replace_93 ?_
                    refine lv_topi (fun z_25 ez_25 => ?_)
                    have hz_25 : z_25.toInt = a1.toInt + v7_20.toInt := by rw [ez_25]; exact jb_iadd2 (rfl) (rfl) (by omega)
                    refine lv_aload_n hx hb dX1_replace_94 rfl (lv_at hl 3 rfl) ?_
                    refine lv_iload hx hb dX1_replace_95 (lv_at hl 4 rfl) ?_
                    refine lv_iload hx hb dX1_replace_97 (lv_at hl 7 rfl) ?_
                    refine va_calli (A0 := jA base) (H0 := s.heap) (va_runV (As := [.int a4, .int v7_20]) (rest := [.int z_25, .ref text_17]) ⟨hx, hb, hml, hown, hts⟩ (uX4_unitAt l dC dI ca base B hB hAp hB6 hB140 hB141 hB142 hB146 G0 H_20 r3 a4 v7_20) (cwV 2 hts (jgV (jWr_36 _ (List.mem_of_getElem? (i := 1) rfl)) (jWr_25 _ (List.mem_of_getElem? (i := 5) rfl)) (jWr_25 _ (List.mem_of_getElem? (i := 6) rfl)) (jWr_1 _ (List.mem_of_getElem? (i := 22) rfl)) (jWr_25 _ (List.mem_of_getElem? (i := 7) rfl))) rfl rfl rfl (by decide +kernel) ⟨by rw [← hR]; exact Nat.le_of_ble_eq_true rfl, by rw [← hR]; exact Nat.le_of_ble_eq_true rfl⟩) ⟨fun a U g mk q => by obtain ⟨q0, q1, q2, qK, q10, q11, q12⟩ := q; exact ⟨q0, q1, q2, jG.calling g mk a qK, q10, q11, q12⟩, hh_20.recv (C := RX4) (T := TX4) (N := 12) hB6 rfl (by decide) hg_r3 hK, fun U hU hW => ⟨rfl, hU, hh_20.2.1, hG.step hW hU hh_20.1, hg_r3, jP.nil, trivial⟩⟩ rfl rfl hl.1 rfl (lv_room (Nat.le_of_ble_eq_true rfl)) dX1_replace_99 ⟨Nat.zero_le _, Nat.zero_le _⟩) hh_20.1 (fun q _ h => h) (fun q h => h) (fun r_27 u_26 t_26 H_26 locs_26 ht_26 hvm_26 hr_27 hb_26 hz_26 hk_26 hS_26 => ?_)
                    rw [ht_26] at hb_26
                    obtain ⟨hb_261, hb_262, hb_263, hb_264, hb_265⟩ := hb_26
                    have hh_26 : jSt (dC, dI) B base G0 G0 EX1_replace s.heap 0 0 [(r0, 3, 2, .ref text_17), (r0, 3, 3, .int length_5)] [] [] H_26 locs_26 := ((hh_20.call hb_261 hb_262 hb_263 hb_264 hS_26 rfl (L1 := [(r0, 3, 2, .ref text_17), (r0, 3, 3, .int length_5)]) [0, 1] rfl rfl (M1 := []) [] rfl rfl (I1 := []) [] rfl rfl).more hb_265)
                    clear hh_20 ht_26 hvm_26 hz_26 hk_26 hS_26 hb_261 hb_262 hb_263 hb_264 hb_265
                    refine j7_iast hx hb hK hh_26 hB hB101 1 rfl (by decide) (by decide) rfl rfl rfl hg_text_17 (x := z_25.toInt) (rfl) (by omega) (trivial) dX1_replace_102 (fun H_28 locs_28 hh_28 => ?_)
                    clear hh_26
                    obtain ⟨z_29, ez_29⟩ : ∃ y : Int32, y = v7_20 + 1 := ⟨_, rfl⟩
                    refine lv_iinc (v := z_29) (lv' := [(7, .int z_29), (0, .ref r0), (1, .int a1), (2, .int a2), (3, .ref r3), (4, .int a4), (5, .int r_2), (6, .int z_6)]) hx hb dX1_replace_103 hl (k := 7) rfl (by rw [ez_29]; rfl) (by decide) rfl (fun ls hl => ?_)
                    have hz_29 : z_29.toInt = v7_20.toInt + 1 := by rw [ez_29]; exact jb_iadd2 (rfl) (by decide) (by omega)
                    refine lv_goto (tgt := 79) hx hb dX1_replace_106 (by decide) ?_
                    exact L79 z_29 _ _ hh_28 (by first | omega | (refine ⟨?_, ?_⟩ <;> (first | omega | rfl | assumption | decide | exact Or.inl rfl | exact Or.inr rfl | (simp only; omega)))) (by omega) _ (lv_sub hl [1, 2, 3, 4, 5, 6, 7, 0] rfl)
              exact L79 (r_2.toInt - (0 : Int32).toInt : Int).toNat.succ 0 _ _ hh_19 (by first | omega | (refine ⟨?_, ?_⟩ <;> (first | omega | rfl | assumption | decide | exact Or.inl rfl | exact Or.inr rfl | (simp only; omega)))) (by omega) _ (lv_sub hl [3, 4, 5, 6, 7, 2, 1, 0] rfl)
            · skip
              have c_14' : z_13.toInt > 1500 := jb_le_n (rfl) ((by decide)) c_14
              refine lv_iconst (v := 0) hx hb dX1_replace_56 (by decide) ?_
              rw [hQ]
              exact W.zret (v := 0) hx hb hr (jb_nz (Or.inl rfl)) (fun t ht hW => ⟨⟨0, (), rfl, ⟨(Or.inl rfl), trivial⟩, hh_4.rt (M1 := []) [] rfl ht⟩, by rw [ht]; try exact hh_4.1.1, fun q h9 hq => by rw [ht]; try exact hh_4.1.2.1 q h9 hq⟩) hh_4.1.2.2 dX1_replace_57
end
