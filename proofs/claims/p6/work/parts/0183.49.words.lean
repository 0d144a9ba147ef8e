section
theorem jT95 : ∀ w ∈ jTl95, w ∈ jWl := fun w h => jT94 w (List.mem_append_right _ h)
theorem jWr_95 : ∀ w ∈ wsL_law_r95, w ∈ jWl := fun w h => jT95 w h
end
section
theorem dX14_unit__0 : decode cX14_unit_ 0 = .ok (.iload_n 1, 1) := by decide +kernel
theorem dX14_unit__1 : decode cX14_unit_ 1 = .ok (.ifCond .lt 42, 3) := by decide +kernel
theorem dX14_unit__4 : decode cX14_unit_ 4 = .ok (.iload_n 1, 1) := by decide +kernel
theorem dX14_unit__5 : decode cX14_unit_ 5 = .ok (.aload_n 0, 1) := by decide +kernel
theorem dX14_unit__6 : decode cX14_unit_ 6 = .ok (.getfield 505, 3) := by decide +kernel
theorem dX14_unit__9 : decode cX14_unit_ 9 = .ok (.if_icmp .ge 34, 3) := by decide +kernel
theorem dX14_unit__12 : decode cX14_unit_ 12 = .ok (.iload_n 2, 1) := by decide +kernel
theorem dX14_unit__13 : decode cX14_unit_ 13 = .ok (.ifCond .lt 30, 3) := by decide +kernel
theorem dX14_unit__16 : decode cX14_unit_ 16 = .ok (.iload_n 2, 1) := by decide +kernel
theorem dX14_unit__17 : decode cX14_unit_ 17 = .ok (.aload_n 0, 1) := by decide +kernel
theorem dX14_unit__18 : decode cX14_unit_ 18 = .ok (.getfield 74, 3) := by decide +kernel
theorem dX14_unit__21 : decode cX14_unit_ 21 = .ok (.iload_n 1, 1) := by decide +kernel
theorem dX14_unit__22 : decode cX14_unit_ 22 = .ok (.aaload, 1) := by decide +kernel
theorem dX14_unit__23 : decode cX14_unit_ 23 = .ok (.getfield 526, 3) := by decide +kernel
theorem dX14_unit__26 : decode cX14_unit_ 26 = .ok (.if_icmp .ge 17, 3) := by decide +kernel
theorem dX14_unit__29 : decode cX14_unit_ 29 = .ok (.aload_n 0, 1) := by decide +kernel
theorem dX14_unit__30 : decode cX14_unit_ 30 = .ok (.getfield 74, 3) := by decide +kernel
theorem dX14_unit__33 : decode cX14_unit_ 33 = .ok (.iload_n 1, 1) := by decide +kernel
theorem dX14_unit__34 : decode cX14_unit_ 34 = .ok (.aaload, 1) := by decide +kernel
theorem dX14_unit__35 : decode cX14_unit_ 35 = .ok (.getfield 529, 3) := by decide +kernel
theorem dX14_unit__38 : decode cX14_unit_ 38 = .ok (.iload_n 2, 1) := by decide +kernel
theorem dX14_unit__39 : decode cX14_unit_ 39 = .ok (.iaload, 1) := by decide +kernel
theorem dX14_unit__40 : decode cX14_unit_ 40 = .ok (.goto 4, 3) := by decide +kernel
theorem dX14_unit__43 : decode cX14_unit_ 43 = .ok (.iconst (-1), 1) := by decide +kernel
theorem dX14_unit__44 : decode cX14_unit_ 44 = .ok (.ireturn, 1) := by decide +kernel
end
section
theorem dX14_out_0 : decode cX14_out 0 = .ok (.iload_n 1, 1) := by decide +kernel
theorem dX14_out_1 : decode cX14_out 1 = .ok (.ifCond .lt 20, 3) := by decide +kernel
theorem dX14_out_4 : decode cX14_out 4 = .ok (.iload_n 1, 1) := by decide +kernel
theorem dX14_out_5 : decode cX14_out 5 = .ok (.aload_n 0, 1) := by decide +kernel
theorem dX14_out_6 : decode cX14_out 6 = .ok (.getfield 211, 3) := by decide +kernel
theorem dX14_out_9 : decode cX14_out 9 = .ok (.if_icmp .ge 12, 3) := by decide +kernel
theorem dX14_out_12 : decode cX14_out 12 = .ok (.aload_n 0, 1) := by decide +kernel
theorem dX14_out_13 : decode cX14_out 13 = .ok (.getfield 13, 3) := by decide +kernel
theorem dX14_out_16 : decode cX14_out 16 = .ok (.iload_n 1, 1) := by decide +kernel
theorem dX14_out_17 : decode cX14_out 17 = .ok (.iaload, 1) := by decide +kernel
theorem dX14_out_18 : decode cX14_out 18 = .ok (.goto 4, 3) := by decide +kernel
theorem dX14_out_21 : decode cX14_out 21 = .ok (.iconst (-1), 1) := by decide +kernel
theorem dX14_out_22 : decode cX14_out 22 = .ok (.ireturn, 1) := by decide +kernel
theorem dX14_take_0 : decode cX14_take 0 = .ok (.aload_n 0, 1) := by decide +kernel
theorem dX14_take_1 : decode cX14_take 1 = .ok (.getfield 211, 3) := by decide +kernel
theorem dX14_take_4 : decode cX14_take 4 = .ok (.istore_n 1, 1) := by decide +kernel
theorem dX14_take_5 : decode cX14_take 5 = .ok (.aload_n 0, 1) := by decide +kernel
theorem dX14_take_6 : decode cX14_take 6 = .ok (.iconst 0, 1) := by decide +kernel
theorem dX14_take_7 : decode cX14_take 7 = .ok (.putfield 211, 3) := by decide +kernel
theorem dX14_take_10 : decode cX14_take 10 = .ok (.iload_n 1, 1) := by decide +kernel
theorem dX14_take_11 : decode cX14_take 11 = .ok (.ireturn, 1) := by decide +kernel
def EX14_out : List (Nat × Nat) := []
def EX14_take : List (Nat × Nat) := [(16, 3)]
set_option maxHeartbeats 4000000 in
set_option maxRecDepth 20000 in
theorem uX14_out (l : Launch) (dC : Nat → ClassId) (dI : Nat → Nat → Nat) (ca : Nat → ClassId) (base : Nat) (B : jF) (hB : jBok B) (hAp : jAp (dC, dI)) (hB16 : ∀ n G a H, B 16 n G a H ↔ jOb (dC, dI) 16 74 (F16 n G) a H) (hB101 : ∀ n G a H, B 101 n G a H ↔ jAr (dC, dI) (ca 1) (fun j z => True) n a H) (G0 : jT) (H0 : Heap) (r0 : Nat) (a1 : Int32) : Met l yX14_out (jw yX14_out cX14_out 2 (some .int)) ({ frames := 0, cells := 0, slots := 0, locals := 0 }) (va_Pc [.ref r0, .int a1] (fun U => U.heap = H0 ∧ jX B base G0 [] H0 ∧ jG dC dI ca base U ∧ G0 r0 = some (16, 0) ∧ jP (dC, dI) G0 H0 [] ∧ True)) (va_Qi (S := Unit) (fun r u => (True)) (fun u t => jRt (dC, dI) B base G0 EX14_out H0 [] t.heap) (jA base)) 0 0 (jA base) := by
  refine Met.ofW (cc := cX14_out) (maxL := 2) (ret := (some .int)) (by decide) rfl ?_
  intro p e s m args below meth c s₁ Bd hml hv
  obtain ⟨rfl, hH0, hX, hG, hg_r0, hP0, hp0⟩ := hv
  have hK := hG.1
  have hx := Bd.exec
  have hb := Bd.bytes
  have hr := Bd.returns
  have hts := atoms_spec (ws := (jw yX14_out cX14_out 2 (some .int))) Bd.pre
  have htw : ∀ w ∈ jWl, w.before _ s = true := fun w h => hts w (List.mem_cons_of_mem _ h)
  have hown : s.vm.findClass RX14 = some m.cls := findClass_of_methodNamed Bd.named
  have hlocks := Bd.notSynchronized
  obtain ⟨Q, hQ⟩ : ∃ Q, Q = MQ below (va_Qi (S := Unit) (fun r u => (True)) (fun u t => jRt (dC, dI) B base G0 EX14_out H0 [] t.heap) (jA base)) ([.ref r0, .int a1] : List Value).toArray s 0 0 (jA base) := ⟨_, rfl⟩
  rw [← hQ]
  have hl := lv_entry ([.ref r0, .int a1]) (n := 2) (Nat.le_of_ble_eq_true rfl)
  rw [lg_entry_eq]
  generalize (lg_sl ([.ref r0, .int a1]) ++ List.replicate (2 - (lg_sl ([.ref r0, .int a1])).length) Slot.unset).toArray = ls at hl ⊢
  have hl : lv_has ls 2 [(0, .ref r0), (1, .int a1)] := hl
  generalize hR : (headSpec (jw yX14_out cX14_out 2 (some .int)) ({ frames := 0, cells := 0, slots := 0, locals := 0 })).room = R
  subst hH0
  have hh : jSt (dC, dI) B base G0 G0 EX14_out s.heap 0 0 [] [] [] s.heap [] := jSt.start hX hP0 jMc.nil jIs.nil
  clear hX hP0
  have hkm1 : ((-1) : Int32).toInt = (-1) := by decide
  have hk0 : (0 : Int32).toInt = 0 := by decide
  have hk1 : (1 : Int32).toInt = 1 := by decide
  have hly_16_2 := htw (u_lay RX14 TX14 2) (jWc_wsX140 _ (u_in_lay (by decide)))
  have hly_16_3 := htw (u_lay RX14 TX14 3) (jWc_wsX140 _ (u_in_lay (by decide)))
  have hlk_211 := (htw (.fieldLink RX14 211 "ProofServerModel" "outs" "I") (jWr_44 _ (List.mem_of_getElem? (i := 10) rfl)))
  have hlk_13 := (htw (.fieldLink RX14 13 "ProofServerModel" "out" "[I") (jWr_10 _ (List.mem_of_getElem? (i := 18) rfl)))
  have hrg_a1 := jb_rng a1
  refine lv_iload_n hx hb dX14_out_0 rfl (lv_at hl 1 rfl) ?_
  refine lv_if_lt (tgt := 21) hx hb dX14_out_1 (by decide) (fun c_1 => ?_) (fun c_1 => ?_)
  · skip
    have c_1' : a1.toInt < 0 := jb_lt (rfl) ((by decide)) c_1
    refine lv_iconst (v := (-1)) hx hb dX14_out_21 (by decide) ?_
    rw [hQ]
    exact W.iret (v := (-1)) hx hb hr (fun t ht hW => ⟨⟨(-1), (), rfl, trivial, hh.rt (M1 := []) [] rfl ht⟩, by rw [ht]; try exact hh.1.1, fun q h9 hq => by rw [ht]; try exact hh.1.2.1 q h9 hq⟩) hh.1.2.2 dX14_out_22
  · skip
    have c_1' : a1.toInt ≥ 0 := jb_lt_n (rfl) ((by decide)) c_1
    refine lv_iload_n hx hb dX14_out_4 rfl (lv_at hl 1 rfl) ?_
    refine lv_aload_n hx hb dX14_out_5 rfl (lv_at hl 0 rfl) ?_
    obtain ⟨v_2, hv_2, hh_3⟩ := hh.pin (C := RX14) (T := TX14) (N := 74) hB16 rfl (by decide) hg_r0 (i := 3) (by decide) rfl
    clear hh
    obtain ⟨outs_4, rfl, hloouts_4, hhiouts_4⟩ := hv_2
    refine j7_read hx hb hown hK (C := RX14) (T := TX14) (N := 74) rfl hly_16_3 hlk_211 (hh_3.at 0 rfl) dX14_out_6 ?_
    refine lv_icmp_ge (tgt := 21) hx hb dX14_out_9 (by decide) (fun c_5 => ?_) (fun c_5 => ?_)
    · skip
      have c_5' : a1.toInt ≥ outs_4.toInt := jb_ge (rfl) (rfl) c_5
      refine lv_iconst (v := (-1)) hx hb dX14_out_21 (by decide) ?_
      rw [hQ]
      exact W.iret (v := (-1)) hx hb hr (fun t ht hW => ⟨⟨(-1), (), rfl, trivial, hh_3.rt (M1 := []) [] rfl ht⟩, by rw [ht]; try exact hh_3.1.1, fun q h9 hq => by rw [ht]; try exact hh_3.1.2.1 q h9 hq⟩) hh_3.1.2.2 dX14_out_22
    · skip
      have c_5' : a1.toInt < outs_4.toInt := jb_ge_n (rfl) (rfl) c_5
      refine lv_aload_n hx hb dX14_out_12 rfl (lv_at hl 0 rfl) ?_
      obtain ⟨v_6, hv_6, hh_7⟩ := hh_3.pin (C := RX14) (T := TX14) (N := 74) hB16 rfl (by decide) hg_r0 (i := 2) (by decide) rfl
      clear hh_3
      obtain ⟨out_8, rfl, hg_out_8⟩ := hv_6
      refine j7_read hx hb hown hK (C := RX14) (T := TX14) (N := 74) rfl hly_16_2 hlk_13 (hh_7.at 0 rfl) dX14_out_13 ?_
      refine lv_iload_n hx hb dX14_out_16 rfl (lv_at hl 1 rfl) ?_
      refine j7_iald hx hb hK hh_7 hB101 1 rfl (by decide) hg_out_8 (x := a1.toInt) (rfl) (by omega) dX14_out_17 (fun z_9 (hz_9 : True) => ?_)
      refine lv_goto (tgt := 22) hx hb dX14_out_18 (by decide) ?_
      rw [hQ]
      exact W.iret (v := z_9) hx hb hr (fun t ht hW => ⟨⟨z_9, (), rfl, trivial, hh_7.rt (M1 := []) [] rfl ht⟩, by rw [ht]; try exact hh_7.1.1, fun q h9 hq => by rw [ht]; try exact hh_7.1.2.1 q h9 hq⟩) hh_7.1.2.2 dX14_out_22
set_option maxHeartbeats 4000000 in
set_option maxRecDepth 20000 in
theorem uX14_take (l : Launch) (dC : Nat → ClassId) (dI : Nat → Nat → Nat) (ca : Nat → ClassId) (base : Nat) (B : jF) (hB : jBok B) (hAp : jAp (dC, dI)) (hB16 : ∀ n G a H, B 16 n G a H ↔ jOb (dC, dI) 16 74 (F16 n G) a H) (G0 : jT) (H0 : Heap) (r0 : Nat) : Met l yX14_take (jw yX14_take cX14_take 2 (some .int)) ({ frames := 0, cells := 0, slots := 0, locals := 0 }) (va_Pc [.ref r0] (fun U => U.heap = H0 ∧ jX B base G0 [] H0 ∧ jG dC dI ca base U ∧ G0 r0 = some (16, 0) ∧ jP (dC, dI) G0 H0 [] ∧ True)) (va_Qi (S := Unit) (fun r u => (True)) (fun u t => jRt (dC, dI) B base G0 EX14_take H0 [] t.heap) (jA base)) 0 0 (jA base) := by
  refine Met.ofW (cc := cX14_take) (maxL := 2) (ret := (some .int)) (by decide) rfl ?_
  intro p e s m args below meth c s₁ Bd hml hv
  obtain ⟨rfl, hH0, hX, hG, hg_r0, hP0, hp0⟩ := hv
  have hK := hG.1
  have hx := Bd.exec
  have hb := Bd.bytes
  have hr := Bd.returns
  have hts := atoms_spec (ws := (jw yX14_take cX14_take 2 (some .int))) Bd.pre
  have htw : ∀ w ∈ jWl, w.before _ s = true := fun w h => hts w (List.mem_cons_of_mem _ h)
  have hown : s.vm.findClass RX14 = some m.cls := findClass_of_methodNamed Bd.named
  have hlocks := Bd.notSynchronized
  obtain ⟨Q, hQ⟩ : ∃ Q, Q = MQ below (va_Qi (S := Unit) (fun r u => (True)) (fun u t => jRt (dC, dI) B base G0 EX14_take H0 [] t.heap) (jA base)) ([.ref r0] : List Value).toArray s 0 0 (jA base) := ⟨_, rfl⟩
  rw [← hQ]
  have hl := lv_entry ([.ref r0]) (n := 2) (Nat.le_of_ble_eq_true rfl)
  rw [lg_entry_eq]
  generalize (lg_sl ([.ref r0]) ++ List.replicate (2 - (lg_sl ([.ref r0])).length) Slot.unset).toArray = ls at hl ⊢
  have hl : lv_has ls 2 [(0, .ref r0)] := hl
  generalize hR : (headSpec (jw yX14_take cX14_take 2 (some .int)) ({ frames := 0, cells := 0, slots := 0, locals := 0 })).room = R
  subst hH0
  have hh : jSt (dC, dI) B base G0 G0 EX14_take s.heap 0 0 [] [] [] s.heap [] := jSt.start hX hP0 jMc.nil jIs.nil
  clear hX hP0
  have hk0 : (0 : Int32).toInt = 0 := by decide
  have hk1 : (1 : Int32).toInt = 1 := by decide
  have hly_16_3 := htw (u_lay RX14 TX14 3) (jWc_wsX140 _ (u_in_lay (by decide)))
  have hlk_211 := (htw (.fieldLink RX14 211 "ProofServerModel" "outs" "I") (jWr_44 _ (List.mem_of_getElem? (i := 10) rfl)))
  refine lv_aload_n hx hb dX14_take_0 rfl (lv_at hl 0 rfl) ?_
  obtain ⟨v_1, hv_1, hh_2⟩ := hh.pin (C := RX14) (T := TX14) (N := 74) hB16 rfl (by decide) hg_r0 (i := 3) (by decide) rfl
  clear hh
  obtain ⟨outs_3, rfl, hloouts_3, hhiouts_3⟩ := hv_1
  refine j7_read hx hb hown hK (C := RX14) (T := TX14) (N := 74) rfl hly_16_3 hlk_211 (hh_2.at 0 rfl) dX14_take_1 ?_
  refine lv_istore_n (lv' := [(1, .int outs_3), (0, .ref r0)]) hx hb dX14_take_4 rfl hl (by decide) rfl (fun ls hl => ?_)
  refine lv_aload_n hx hb dX14_take_5 rfl (lv_at hl 1 rfl) ?_
  refine lv_iconst (v := 0) hx hb dX14_take_6 (by decide) ?_
  refine j7_put hx hb hown hK hh_2 hB hAp hB16 (C := RX14) (T := TX14) (N := 74) rfl (by decide) hg_r0 (i := 3) (by decide) hly_16_3 rfl hlk_211 rfl (ty := .int) (v := .int 0) (by decide +kernel) rfl rfl (⟨_, rfl, by omega, by omega⟩) rfl (L1 := []) [] rfl rfl rfl dX14_take_7 (fun H_4 locs_4 hh_4 => ?_)
  clear hh_2
  refine lv_iload_n hx hb dX14_take_10 rfl (lv_at hl 0 rfl) ?_
  rw [hQ]
  exact W.iret (v := outs_3) hx hb hr (fun t ht hW => ⟨⟨outs_3, (), rfl, trivial, hh_4.rt (M1 := []) [] rfl ht⟩, by rw [ht]; try exact hh_4.1.1, fun q h9 hq => by rw [ht]; try exact hh_4.1.2.1 q h9 hq⟩) hh_4.1.2.2 dX14_take_11
end
section
def EX14_unit_ : List (Nat × Nat) := []
set_option maxHeartbeats 4000000 in
set_option maxRecDepth 20000 in
theorem uX14_unit_ (l : Launch) (dC : Nat → ClassId) (dI : Nat → Nat → Nat) (ca : Nat → ClassId) (base : Nat) (B : jF) (hB : jBok B) (hAp : jAp (dC, dI)) (hB14 : ∀ n G a H, B 14 n G a H ↔ jOb (dC, dI) 14 11 (F14 n G) a H) (hB16 : ∀ n G a H, B 16 n G a H ↔ jOb (dC, dI) 16 74 (F16 n G) a H) (hB194 : ∀ n G a H, B 194 n G a H ↔ jAr (dC, dI) (ca 1) (fun j z => True) n a H) (hB201 : ∀ n G a H, B 201 n G a H ↔ jAq (dC, dI) (ca 4) (jQs 14 0) n G a H) (G0 : jT) (H0 : Heap) (r0 : Nat) (a1 : Int32) (a2 : Int32) : Met l yX14_unit_ (jw yX14_unit_ cX14_unit_ 3 (some .int)) ({ frames := 0, cells := 0, slots := 0, locals := 0 }) (va_Pc [.ref r0, .int a1, .int a2] (fun U => U.heap = H0 ∧ jX B base G0 [] H0 ∧ jG dC dI ca base U ∧ jK2 dC dI ca U ∧ G0 r0 = some (16, 0) ∧ jP (dC, dI) G0 H0 [] ∧ True)) (va_Qi (S := Unit) (fun r u => (True)) (fun u t => jRt (dC, dI) B base G0 EX14_unit_ H0 [] t.heap) (jA base)) 0 0 (jA base) := by
  refine Met.ofW (cc := cX14_unit_) (maxL := 3) (ret := (some .int)) (by decide) rfl ?_
  intro p e s m args below meth c s₁ Bd hml hv
  obtain ⟨rfl, hH0, hX, hG, hK2, hg_r0, hP0, hp0⟩ := hv
  have hK := hG.1
  have hx := Bd.exec
  have hb := Bd.bytes
  have hr := Bd.returns
  have hts := atoms_spec (ws := (jw yX14_unit_ cX14_unit_ 3 (some .int))) Bd.pre
  have htw : ∀ w ∈ jWl, w.before _ s = true := fun w h => hts w (List.mem_cons_of_mem _ h)
  have hown : s.vm.findClass RX14 = some m.cls := findClass_of_methodNamed Bd.named
  have hlocks := Bd.notSynchronized
  obtain ⟨Q, hQ⟩ : ∃ Q, Q = MQ below (va_Qi (S := Unit) (fun r u => (True)) (fun u t => jRt (dC, dI) B base G0 EX14_unit_ H0 [] t.heap) (jA base)) ([.ref r0, .int a1, .int a2] : List Value).toArray s 0 0 (jA base) := ⟨_, rfl⟩
  rw [← hQ]
  have hl := lv_entry ([.ref r0, .int a1, .int a2]) (n := 3) (Nat.le_of_ble_eq_true rfl)
  rw [lg_entry_eq]
  generalize (lg_sl ([.ref r0, .int a1, .int a2]) ++ List.replicate (3 - (lg_sl ([.ref r0, .int a1, .int a2])).length) Slot.unset).toArray = ls at hl ⊢
  have hl : lv_has ls 3 [(0, .ref r0), (1, .int a1), (2, .int a2)] := hl
  generalize hR : (headSpec (jw yX14_unit_ cX14_unit_ 3 (some .int)) ({ frames := 0, cells := 0, slots := 0, locals := 0 })).room = R
  subst hH0
  have hh : jSt (dC, dI) B base G0 G0 EX14_unit_ s.heap 0 0 [] [] [] s.heap [] := jSt.start hX hP0 jMc.nil jIs.nil
  clear hX hP0
  have hkm1 : ((-1) : Int32).toInt = (-1) := by decide
  have hk0 : (0 : Int32).toInt = 0 := by decide
  have hk1 : (1 : Int32).toInt = 1 := by decide
  have hly_14_3 := htw (u_lay RX12 TX12 3) (jWc_wsX120 _ (u_in_lay (by decide)))
  have hly_14_4 := htw (u_lay RX12 TX12 4) (jWc_wsX120 _ (u_in_lay (by decide)))
  have hly_16_41 := htw (u_lay RX14 TX14 41) (jWc_wsX140 _ (u_in_lay (by decide)))
  have hly_16_42 := htw (u_lay RX14 TX14 42) (jWc_wsX140 _ (u_in_lay (by decide)))
  have hlk_505 := (htw (.fieldLink RX14 505 "ProofServerModel" "documentCount" "I") (jWr_57 _ (List.mem_of_getElem? (i := 5) rfl)))
  have hlk_74 := (htw (.fieldLink RX14 74 "ProofServerModel" "documents" "[LProofServerModel$Document;") (jWr_11 _ (List.mem_of_getElem? (i := 19) rfl)))
  have hlk_526 := (va_Nw.use (A := ([.ref r0, .int a1, .int a2] : List Value).toArray) rfl (hG.2.1 RX14 526 "ProofServerModel$Document" "units" "I" "ProofServerModel" (List.mem_of_getElem? (i := 1736) (by decide +kernel))))
  have hlk_529 := (va_Nw.use (A := ([.ref r0, .int a1, .int a2] : List Value).toArray) rfl (hG.2.1 RX14 529 "ProofServerModel$Document" "text" "[I" "ProofServerModel" (List.mem_of_getElem? (i := 1735) (by decide +kernel))))
  have hrg_a1 := jb_rng a1
  have hrg_a2 := jb_rng a2
  refine lv_iload_n hx hb dX14_unit__0 rfl (lv_at hl 1 rfl) ?_
  refine lv_if_lt (tgt := 43) hx hb dX14_unit__1 (by decide) (fun c_1 => ?_) (fun c_1 => ?_)
  · skip
    have c_1' : a1.toInt < 0 := jb_lt (rfl) ((by decide)) c_1
    refine lv_iconst (v := (-1)) hx hb dX14_unit__43 (by decide) ?_
    rw [hQ]
    exact W.iret (v := (-1)) hx hb hr (fun t ht hW => ⟨⟨(-1), (), rfl, trivial, hh.rt (M1 := []) [] rfl ht⟩, by rw [ht]; try exact hh.1.1, fun q h9 hq => by rw [ht]; try exact hh.1.2.1 q h9 hq⟩) hh.1.2.2 dX14_unit__44
  · skip
    have c_1' : a1.toInt ≥ 0 := jb_lt_n (rfl) ((by decide)) c_1
    refine lv_iload_n hx hb dX14_unit__4 rfl (lv_at hl 1 rfl) ?_
    refine lv_aload_n hx hb dX14_unit__5 rfl (lv_at hl 0 rfl) ?_
    obtain ⟨v_2, hv_2, hh_3⟩ := hh.pin (C := RX14) (T := TX14) (N := 74) hB16 rfl (by decide) hg_r0 (i := 42) (by decide) rfl
    clear hh
    obtain ⟨documentCount_4, rfl, hlodocumentCount_4, hhidocumentCount_4⟩ := hv_2
    refine j7_read hx hb hown hK (C := RX14) (T := TX14) (N := 74) rfl hly_16_42 hlk_505 (hh_3.at 0 rfl) dX14_unit__6 ?_
    refine lv_icmp_ge (tgt := 43) hx hb dX14_unit__9 (by decide) (fun c_5 => ?_) (fun c_5 => ?_)
    · skip
      have c_5' : a1.toInt ≥ documentCount_4.toInt := jb_ge (rfl) (rfl) c_5
      refine lv_iconst (v := (-1)) hx hb dX14_unit__43 (by decide) ?_
      rw [hQ]
      exact W.iret (v := (-1)) hx hb hr (fun t ht hW => ⟨⟨(-1), (), rfl, trivial, hh_3.rt (M1 := []) [] rfl ht⟩, by rw [ht]; try exact hh_3.1.1, fun q h9 hq => by rw [ht]; try exact hh_3.1.2.1 q h9 hq⟩) hh_3.1.2.2 dX14_unit__44
    · skip
      have c_5' : a1.toInt < documentCount_4.toInt := jb_ge_n (rfl) (rfl) c_5
      refine lv_iload_n hx hb dX14_unit__12 rfl (lv_at hl 2 rfl) ?_
      refine lv_if_lt (tgt := 43) hx hb dX14_unit__13 (by decide) (fun c_6 => ?_) (fun c_6 => ?_)
      · skip
        have c_6' : a2.toInt < 0 := jb_lt (rfl) ((by decide)) c_6
        refine lv_iconst (v := (-1)) hx hb dX14_unit__43 (by decide) ?_
        rw [hQ]
        exact W.iret (v := (-1)) hx hb hr (fun t ht hW => ⟨⟨(-1), (), rfl, trivial, hh_3.rt (M1 := []) [] rfl ht⟩, by rw [ht]; try exact hh_3.1.1, fun q h9 hq => by rw [ht]; try exact hh_3.1.2.1 q h9 hq⟩) hh_3.1.2.2 dX14_unit__44
      · skip
        have c_6' : a2.toInt ≥ 0 := jb_lt_n (rfl) ((by decide)) c_6
        refine lv_iload_n hx hb dX14_unit__16 rfl (lv_at hl 2 rfl) ?_
        refine lv_aload_n hx hb dX14_unit__17 rfl (lv_at hl 0 rfl) ?_
        obtain ⟨v_7, hv_7, hh_8⟩ := hh_3.pin (C := RX14) (T := TX14) (N := 74) hB16 rfl (by decide) hg_r0 (i := 41) (by decide) rfl
        clear hh_3
        obtain ⟨documents_9, rfl, hg_documents_9⟩ := hv_7
        refine j7_read hx hb hown hK (C := RX14) (T := TX14) (N := 74) rfl hly_16_41 hlk_74 (hh_8.at 0 rfl) dX14_unit__18 ?_
        refine lv_iload_n hx hb dX14_unit__21 rfl (lv_at hl 1 rfl) ?_
        refine j7_qald hx hb hK2 hh_8 hB201 0 rfl (by decide) hg_documents_9 (x := a1.toInt) (rfl) (by omega) dX14_unit__22 (fun o_10 ho_10 => ?_)
        obtain ⟨el_11, rfl, hg_el_11⟩ := ho_10
        simp only [va_rf]
        obtain ⟨v_12, hv_12, hh_13⟩ := hh_8.pin (C := RX12) (T := TX12) (N := 11) hB14 rfl (by decide) hg_el_11 (i := 4) (by decide) rfl
        clear hh_8
        obtain ⟨units_14, rfl, hlounits_14, hhiunits_14⟩ := hv_12
        refine j7_readN hx hb hown hK (C := RX12) (T := TX12) (N := 11) rfl hly_14_4 hlk_526 (hh_13.at 0 rfl) dX14_unit__23 ?_
        refine lv_icmp_ge (tgt := 43) hx hb dX14_unit__26 (by decide) (fun c_15 => ?_) (fun c_15 => ?_)
        · skip
          have c_15' : a2.toInt ≥ units_14.toInt := jb_ge (rfl) (rfl) c_15
          refine lv_iconst (v := (-1)) hx hb dX14_unit__43 (by decide) ?_
          rw [hQ]
          exact W.iret (v := (-1)) hx hb hr (fun t ht hW => ⟨⟨(-1), (), rfl, trivial, hh_13.rt (M1 := []) [] rfl ht⟩, by rw [ht]; try exact hh_13.1.1, fun q h9 hq => by rw [ht]; try exact hh_13.1.2.1 q h9 hq⟩) hh_13.1.2.2 dX14_unit__44
        · skip
          have c_15' : a2.toInt < units_14.toInt := jb_ge_n (rfl) (rfl) c_15
          refine lv_aload_n hx hb dX14_unit__29 rfl (lv_at hl 0 rfl) ?_
          refine j7_read hx hb hown hK (C := RX14) (T := TX14) (N := 74) rfl hly_16_41 hlk_74 (hh_13.at 1 rfl) dX14_unit__30 ?_
          refine lv_iload_n hx hb dX14_unit__33 rfl (lv_at hl 1 rfl) ?_
          refine j7_qald hx hb hK2 hh_13 hB201 0 rfl (by decide) hg_documents_9 (x := a1.toInt) (rfl) (by omega) dX14_unit__34 (fun o_16 ho_16 => ?_)
          obtain ⟨el_17, rfl, hg_el_17⟩ := ho_16
          simp only [va_rf]
          obtain ⟨v_18, hv_18, hh_19⟩ := hh_13.pin (C := RX12) (T := TX12) (N := 11) hB14 rfl (by decide) hg_el_17 (i := 3) (by decide) rfl
          clear hh_13
          obtain ⟨text_20, rfl, hg_text_20⟩ := hv_18
          refine j7_readN hx hb hown hK (C := RX12) (T := TX12) (N := 11) rfl hly_14_3 hlk_529 (hh_19.at 0 rfl) dX14_unit__35 ?_
          refine lv_iload_n hx hb dX14_unit__38 rfl (lv_at hl 2 rfl) ?_
          refine j7_iald hx hb hK hh_19 hB194 1 rfl (by decide) hg_text_20 (x := a2.toInt) (rfl) (by omega) dX14_unit__39 (fun z_21 (hz_21 : True) => ?_)
          refine lv_goto (tgt := 44) hx hb dX14_unit__40 (by decide) ?_
          rw [hQ]
          exact W.iret (v := z_21) hx hb hr (fun t ht hW => ⟨⟨z_21, (), rfl, trivial, hh_19.rt (M1 := []) [] rfl ht⟩, by rw [ht]; try exact hh_19.1.1, fun q h9 hq => by rw [ht]; try exact hh_19.1.2.1 q h9 hq⟩) hh_19.1.2.2 dX14_unit__44
end
section
def EX13_costv9 : List (Nat × Nat) := [(15, 7), (15, 10), (15, 30), (15, 31), (155, 0), (156, 0), (157, 0), (166, 0), (167, 0)]
set_option maxHeartbeats 4000000 in
set_option maxRecDepth 20000 in
theorem uX13_costv9 (l : Launch) (dC : Nat → ClassId) (dI : Nat → Nat → Nat) (ca : Nat → ClassId) (base : Nat) (B : jF) (hB : jBok B) (hAp : jAp (dC, dI)) (hB15 : ∀ n G a H, B 15 n G a H ↔ jOb (dC, dI) 15 50 (F15 n G) a H) (hB101 : ∀ n G a H, B 101 n G a H ↔ jAr (dC, dI) (ca 1) (fun j z => True) n a H) (hB155 : ∀ n G a H, B 155 n G a H ↔ jAr (dC, dI) (ca 1) (fun j z => 0 ≤ z.toInt ∧ z.toInt ≤ 11990) n a H) (hB156 : ∀ n G a H, B 156 n G a H ↔ jAr (dC, dI) (ca 1) (fun j z => 0 ≤ z.toInt ∧ z.toInt ≤ 10) n a H) (hB157 : ∀ n G a H, B 157 n G a H ↔ jAr (dC, dI) (ca 1) (fun j z => 0 ≤ z.toInt ∧ z.toInt ≤ 1599) n a H) (hB166 : ∀ n G a H, B 166 n G a H ↔ jAr (dC, dI) (ca 1) (fun j z => True) n a H) (hB167 : ∀ n G a H, B 167 n G a H ↔ jAr (dC, dI) (ca 1) (fun j z => True) n a H) (hB194 : ∀ n G a H, B 194 n G a H ↔ jAr (dC, dI) (ca 1) (fun j z => True) n a H) (G0 : jT) (H0 : Heap) (r0 : Nat) (r1 : Nat) (a2 : Int32) (a3 : Int32) (a4 : Int32) (n1 : Nat) (pc : Int32) (ps : Int32) : Met l yX13_cost (jw yX13_cost cX13_cost 7 (some .int)) ({ frames := 4, cells := 0, slots := 0, locals := 88 }) (va_Pc [.ref r0, .ref r1, .int a2, .int a3, .int a4] (fun U => U.heap = H0 ∧ jX B base G0 [] H0 ∧ jG dC dI ca base U ∧ G0 r1 = some (194, n1) ∧ G0 r0 = some (15, 0) ∧ jP (dC, dI) G0 H0 [(r0, 15, 10, .int pc), (r0, 15, 7, .int ps)] ∧ 0 ≤ a2.toInt ∧ a2.toInt ≤ a3.toInt ∧ a3.toInt ≤ n1 ∧ n1 ≤ 1500 ∧ 0 ≤ pc.toInt ∧ pc.toInt + (a3.toInt - a2.toInt) ≤ 1599 ∧ 0 ≤ ps.toInt ∧ ps.toInt + (a3.toInt - a2.toInt) ≤ 11990)) (va_Qi (S := Unit) (fun r u => (True)) (fun u t => jRt (dC, dI) B base G0 EX13_costv9 H0 [] t.heap) (jA base)) 0 0 (jA base) := by
  refine Met.ofW (cc := cX13_cost) (maxL := 7) (ret := (some .int)) (by decide) rfl ?_
  intro p e s m args below meth c s₁ Bd hml hv
  obtain ⟨rfl, hH0, hX, hG, hg_r1, hg_r0, hP0, hp0, hp1, hp2, hp3, hp4, hp5, hp6, hp7⟩ := hv
  have hK := hG.1
  have hx := Bd.exec
  have hb := Bd.bytes
  have hr := Bd.returns
  have hts := atoms_spec (ws := (jw yX13_cost cX13_cost 7 (some .int))) Bd.pre
  have htw : ∀ w ∈ jWl, w.before _ s = true := fun w h => hts w (List.mem_cons_of_mem _ h)
  have hown : s.vm.findClass RX13 = some m.cls := findClass_of_methodNamed Bd.named
  have hlocks := Bd.notSynchronized
  obtain ⟨Q, hQ⟩ : ∃ Q, Q = MQ below (va_Qi (S := Unit) (fun r u => (True)) (fun u t => jRt (dC, dI) B base G0 EX13_costv9 H0 [] t.heap) (jA base)) ([.ref r0, .ref r1, .int a2, .int a3, .int a4] : List Value).toArray s 0 0 (jA base) := ⟨_, rfl⟩
  rw [← hQ]
  have hl := lv_entry ([.ref r0, .ref r1, .int a2, .int a3, .int a4]) (n := 7) (Nat.le_of_ble_eq_true rfl)
  rw [lg_entry_eq]
  generalize (lg_sl ([.ref r0, .ref r1, .int a2, .int a3, .int a4]) ++ List.replicate (7 - (lg_sl ([.ref r0, .ref r1, .int a2, .int a3, .int a4])).length) Slot.unset).toArray = ls at hl ⊢
  have hl : lv_has ls 7 [(0, .ref r0), (1, .ref r1), (2, .int a2), (3, .int a3), (4, .int a4)] := hl
  generalize hR : (headSpec (jw yX13_cost cX13_cost 7 (some .int)) ({ frames := 4, cells := 0, slots := 0, locals := 88 })).room = R
  subst hH0
  have hh : jSt (dC, dI) B base G0 G0 EX13_costv9 s.heap 0 0 [(r0, 15, 10, .int pc), (r0, 15, 7, .int ps)] [] [] s.heap [] := jSt.start hX hP0 jMc.nil jIs.nil
  clear hX hP0
  have hk0 : (0 : Int32).toInt = 0 := by decide
  have hk1 : (1 : Int32).toInt = 1 := by decide
  have hk3 : (3 : Int32).toInt = 3 := by decide
  have hk4 : (4 : Int32).toInt = 4 := by decide
  have hly_15_7 := htw (u_lay RX13 TX13 7) (jWc_wsX130 _ (u_in_lay (by decide)))
  have hly_15_10 := htw (u_lay RX13 TX13 10) (jWc_wsX130 _ (u_in_lay (by decide)))
  have hly_15_30 := htw (u_lay RX13 TX13 30) (jWc_wsX130 _ (u_in_lay (by decide)))
  have hly_15_31 := htw (u_lay RX13 TX13 31) (jWc_wsX130 _ (u_in_lay (by decide)))
  have hlk_103 := (htw (.fieldLink RX13 103 "ProofServerModel$Kernel" "nameCount" "I") (jWr_59 _ (List.mem_of_getElem? (i := 15) rfl)))
  have hlk_106 := (htw (.fieldLink RX13 106 "ProofServerModel$Kernel" "signCount" "I") (jWr_59 _ (List.mem_of_getElem? (i := 16) rfl)))
  have hlk_140 := (htw (.fieldLink RX13 140 "ProofServerModel$Kernel" "tokens" "I") (jWr_60 _ (List.mem_of_getElem? (i := 9) rfl)))
  have hlk_143 := (htw (.fieldLink RX13 143 "ProofServerModel$Kernel" "loose" "I") (jWr_60 _ (List.mem_of_getElem? (i := 1) rfl)))
  have hrg_a2 := jb_rng a2
  have hrg_a3 := jb_rng a3
  have hrg_a4 := jb_rng a4
  refine lv_iload hx hb dX13_cost_0 (lv_at hl 4 rfl) ?_
  refine lv_if_le (tgt := 7) hx hb dX13_cost_2 (by decide) (fun c_1 => ?_) (fun c_1 => ?_)
  · skip
    have c_1' : a4.toInt ≤ 0 := jb_le (rfl) ((by decide)) c_1
    refine lv_aload_n hx hb dX13_cost_7 rfl (lv_at hl 0 rfl) ?_
    refine j7_read hx hb hown hK (C := RX13) (T := TX13) (N := 50) rfl hly_15_10 hlk_103 (hh.at 0 rfl) dX13_cost_8 ?_
    refine lv_istore (lv' := [(5, .int pc), (0, .ref r0), (1, .ref r1), (2, .int a2), (3, .int a3), (4, .int a4)]) hx hb dX13_cost_11 hl (by decide) rfl (fun ls hl => ?_)
    refine lv_aload_n hx hb dX13_cost_13 rfl (lv_at hl 1 rfl) ?_
    refine j7_read hx hb hown hK (C := RX13) (T := TX13) (N := 50) rfl hly_15_7 hlk_106 (hh.at 1 rfl) dX13_cost_14 ?_
    refine lv_istore (lv' := [(6, .int ps), (5, .int pc), (0, .ref r0), (1, .ref r1), (2, .int a2), (3, .int a3), (4, .int a4)]) hx hb dX13_cost_17 hl (by decide) rfl (fun ls hl => ?_)
    refine lv_aload_n hx hb dX13_cost_19 rfl (lv_at hl 2 rfl) ?_
    refine lv_aload_n hx hb dX13_cost_20 rfl (lv_at hl 3 rfl) ?_
    refine lv_iload_n hx hb dX13_cost_21 rfl (lv_at hl 4 rfl) ?_
    refine lv_iload_n hx hb dX13_cost_22 rfl (lv_at hl 5 rfl) ?_
    obtain ⟨f_f1_4, hh_4⟩ := hh.cpin hB194 (by decide) (by decide) hg_r1
    clear hh
    refine va_callv (A0 := jA base) (H0 := s.heap) (va_runV (As := [.ref r1, .int a2, .int a3]) (rest := []) ⟨hx, hb, hml, hown, hts⟩ (uX13_scanv9 l dC dI ca base B hB hAp hB15 hB101 hB155 hB156 hB157 hB166 hB167 hB194 G0 s.heap r0 r1 a2 a3 n1 pc ps f_f1_4) (cwV 3 hts (jgV (jWr_60 _ (List.mem_of_getElem? (i := 5) rfl)) (jWr_60 _ (List.mem_of_getElem? (i := 6) rfl)) (jWr_60 _ (List.mem_of_getElem? (i := 7) rfl)) (jWr_12 _ (List.mem_of_getElem? (i := 12) rfl)) (jWr_60 _ (List.mem_of_getElem? (i := 8) rfl))) rfl rfl rfl (by decide +kernel) ⟨by rw [← hR]; exact Nat.le_of_ble_eq_true rfl, by rw [← hR]; exact Nat.le_of_ble_eq_true rfl⟩) ⟨fun a U g mk q => by obtain ⟨q0, q1, q2, qK, q10, q11, q12, q13, q14⟩ := q; exact ⟨q0, q1, q2, jG.calling g mk a qK, q10, q11, q12, q13, q14⟩, hh_4.recv (C := RX13) (T := TX13) (N := 50) hB15 rfl (by decide) hg_r0 hK, fun U hU hW => ⟨rfl, hU, hh_4.2.1, hG.step hW hU hh_4.1, hg_r1, hg_r0, (hh_4.2.2.1.sub (L1 := [(r0, 15, 10, .int pc), (r0, 15, 7, .int ps)]) [0, 1] rfl), (hh_4.2.2.2.2.2.2.2.1.sub (L1 := [(r1, 194, n1, ca 1, f_f1_4)]) [0] rfl), by first | omega | (refine ⟨?_, ?_, ?_, ?_, ?_, ?_, ?_, ?_⟩ <;> (first | omega | rfl | assumption | decide | exact Or.inl rfl | exact Or.inr rfl | (simp only; omega)))⟩⟩ rfl rfl hl.1 rfl (lv_room (Nat.le_of_ble_eq_true rfl)) dX13_cost_23 ⟨Nat.zero_le _, Nat.zero_le _⟩) hh_4.1 (fun q _ h => h) (fun q h => h) (fun u_2 t_2 H_2 locs_2 ht_2 hvm_2 hr_3 hb_2 hz_2 hk_2 hS_2 => ?_)
    obtain ⟨qk_2, qc_2, qs_2⟩ := u_2
    rw [ht_2] at hb_2
    obtain ⟨hb_21, hb_22, hb_23, hb_24, hb_25⟩ := hb_2
    have hh_2 : jSt (dC, dI) B base G0 G0 EX13_costv9 s.heap 0 0 [(r0, 15, 30, .int qk_2), (r0, 15, 10, .int qc_2), (r0, 15, 7, .int qs_2)] [(r1, 194, n1, ca 1, f_f1_4)] [] H_2 locs_2 := ((hh_4.call hb_21 hb_22 hb_23 hb_24 hS_2 rfl (L1 := []) [] rfl rfl (M1 := [(r1, 194, n1, ca 1, f_f1_4)]) [0] rfl rfl (I1 := []) [] rfl rfl).more hb_25)
    clear hh_4 ht_2 hvm_2 hz_2 hk_2 hS_2 hb_21 hb_22 hb_23 hb_24 hb_25
    try simp only at hr_3
    obtain ⟨hr_3_0, hr_3_1, hr_3_2, hr_3_3, hr_3_4, hr_3_5⟩ := hr_3
    refine lv_aload_n hx hb dX13_cost_26 rfl (lv_at hl 2 rfl) ?_
    refine lv_iload hx hb dX13_cost_27 (lv_at hl 1 rfl) ?_
    refine j7_put hx hb hown hK hh_2 hB hAp hB15 (C := RX13) (T := TX13) (N := 50) rfl (by decide) hg_r0 (i := 10) (by decide) hly_15_10 rfl hlk_103 rfl (ty := .int) (v := .int pc) (by decide +kernel) rfl rfl (⟨_, rfl, by omega, by omega⟩) rfl (L1 := [(r0, 15, 30, .int qk_2), (r0, 15, 7, .int qs_2)]) [0, 2] rfl rfl rfl dX13_cost_29 (fun H_5 locs_5 hh_5 => ?_)
    clear hh_2
    refine lv_aload_n hx hb dX13_cost_32 rfl (lv_at hl 2 rfl) ?_
    refine lv_iload hx hb dX13_cost_33 (lv_at hl 0 rfl) ?_
    refine j7_put hx hb hown hK hh_5 hB hAp hB15 (C := RX13) (T := TX13) (N := 50) rfl (by decide) hg_r0 (i := 7) (by decide) hly_15_7 rfl hlk_106 rfl (ty := .int) (v := .int ps) (by decide +kernel) rfl rfl (⟨_, rfl, by omega, by omega⟩) rfl (L1 := [(r0, 15, 10, .int pc), (r0, 15, 30, .int qk_2)]) [0, 1] rfl rfl rfl dX13_cost_35 (fun H_6 locs_6 hh_6 => ?_)
    clear hh_5
    refine lv_iconst (v := 3) hx hb dX13_cost_38 (by decide) ?_
    refine lv_aload_n hx hb dX13_cost_39 rfl (lv_at hl 2 rfl) ?_
    refine j7_read hx hb hown hK (C := RX13) (T := TX13) (N := 50) rfl hly_15_30 hlk_140 (hh_6.at 2 rfl) dX13_cost_40 ?_
    refine lv_iadd hx hb dX13_cost_43 ?_
    refine lv_topi (fun z_7 ez_7 => ?_)
    refine lv_aload_n hx hb dX13_cost_44 rfl (lv_at hl 2 rfl) ?_
    obtain ⟨v_8, hv_8, hh_9⟩ := hh_6.pin (C := RX13) (T := TX13) (N := 50) hB15 rfl (by decide) hg_r0 (i := 31) (by decide) rfl
    clear hh_6
    obtain ⟨loose_10, rfl⟩ := hv_8
    refine j7_read hx hb hown hK (C := RX13) (T := TX13) (N := 50) rfl hly_15_31 hlk_143 (hh_9.at 0 rfl) dX13_cost_45 ?_
    refine lv_iadd hx hb dX13_cost_48 ?_
    refine lv_topi (fun z_11 ez_11 => ?_)
    rw [hQ]
    exact W.iret (v := z_11) hx hb hr (fun t ht hW => ⟨⟨z_11, (), rfl, trivial, hh_9.rt (M1 := []) [] rfl ht⟩, by rw [ht]; try exact hh_9.1.1, fun q h9 hq => by rw [ht]; try exact hh_9.1.2.1 q h9 hq⟩) hh_9.1.2.2 dX13_cost_49
  · skip
    have c_1' : a4.toInt > 0 := jb_le_n (rfl) ((by decide)) c_1
    refine lv_iconst (v := 4) hx hb dX13_cost_5 (by decide) ?_
    rw [hQ]
    exact W.iret (v := 4) hx hb hr (fun t ht hW => ⟨⟨4, (), rfl, trivial, hh.rt (M1 := []) [] rfl ht⟩, by rw [ht]; try exact hh.1.1, fun q h9 hq => by rw [ht]; try exact hh.1.2.1 q h9 hq⟩) hh.1.2.2 dX13_cost_6
end
section
def EX14_costOf : List (Nat × Nat) := [(15, 5), (15, 7), (15, 10), (15, 11), (15, 15), (15, 18), (15, 21), (15, 30), (15, 31), (155, 0), (156, 0), (157, 0), (166, 0), (167, 0)]
set_option maxHeartbeats 4000000 in
set_option maxRecDepth 20000 in
theorem uX14_costOf (l : Launch) (dC : Nat → ClassId) (dI : Nat → Nat → Nat) (ca : Nat → ClassId) (base : Nat) (B : jF) (hB : jBok B) (hAp : jAp (dC, dI)) (hB14 : ∀ n G a H, B 14 n G a H ↔ jOb (dC, dI) 14 11 (F14 n G) a H) (hB15 : ∀ n G a H, B 15 n G a H ↔ jOb (dC, dI) 15 50 (F15 n G) a H) (hB16 : ∀ n G a H, B 16 n G a H ↔ jOb (dC, dI) 16 74 (F16 n G) a H) (hB101 : ∀ n G a H, B 101 n G a H ↔ jAr (dC, dI) (ca 1) (fun j z => True) n a H) (hB155 : ∀ n G a H, B 155 n G a H ↔ jAr (dC, dI) (ca 1) (fun j z => 0 ≤ z.toInt ∧ z.toInt ≤ 11990) n a H) (hB156 : ∀ n G a H, B 156 n G a H ↔ jAr (dC, dI) (ca 1) (fun j z => 0 ≤ z.toInt ∧ z.toInt ≤ 10) n a H) (hB157 : ∀ n G a H, B 157 n G a H ↔ jAr (dC, dI) (ca 1) (fun j z => 0 ≤ z.toInt ∧ z.toInt ≤ 1599) n a H) (hB166 : ∀ n G a H, B 166 n G a H ↔ jAr (dC, dI) (ca 1) (fun j z => True) n a H) (hB167 : ∀ n G a H, B 167 n G a H ↔ jAr (dC, dI) (ca 1) (fun j z => True) n a H) (hB190 : ∀ n G a H, B 190 n G a H ↔ jAr (dC, dI) (ca 1) (fun j z => 0 ≤ z.toInt ∧ z.toInt ≤ 1500) n a H) (hB191 : ∀ n G a H, B 191 n G a H ↔ jAr (dC, dI) (ca 1) (fun j z => 0 ≤ z.toInt ∧ z.toInt ≤ 1500) n a H) (hB192 : ∀ n G a H, B 192 n G a H ↔ jAr (dC, dI) (ca 1) (fun j z => 0 ≤ z.toInt ∧ z.toInt ≤ 2) n a H) (hB194 : ∀ n G a H, B 194 n G a H ↔ jAr (dC, dI) (ca 1) (fun j z => True) n a H) (G0 : jT) (H0 : Heap) (r0 : Nat) (r1 : Nat) (a2 : Int32) (yb : Nat) (ye : Nat) (sn : Int) (fb : Nat → Int32) (fe : Nat → Int32) : Met l yX14_costOf (jw yX14_costOf cX14_costOf 3 (some .int)) ({ frames := 5, cells := 0, slots := 0, locals := 114 }) (va_Pc [.ref r0, .ref r1, .int a2] (fun U => U.heap = H0 ∧ jX B base G0 [] H0 ∧ jG dC dI ca base U ∧ G0 r1 = some (14, 0) ∧ G0 r0 = some (16, 0) ∧ G0 yb = some (190, 40) ∧ G0 ye = some (191, 40) ∧ jP (dC, dI) G0 H0 [(r1, 14, 6, .ref yb), (r1, 14, 7, .ref ye)] ∧ jMc (dC, dI) G0 H0 [(yb, 190, 40, ca 1, fb), (ye, 191, 40, ca 1, fe)] ∧ jSrt fb fe sn 1500 ∧ 0 ≤ a2.toInt ∧ a2.toInt < sn ∧ sn ≤ 40)) (va_Qi (S := Unit) (fun r u => (True)) (fun u t => jRt (dC, dI) B base G0 EX14_costOf H0 [] t.heap) (jA base)) 0 0 (jA base) := by
  refine Met.ofW (cc := cX14_costOf) (maxL := 3) (ret := (some .int)) (by decide) rfl ?_
  intro p e s m args below meth c s₁ Bd hml hv
  obtain ⟨rfl, hH0, hX, hG, hg_r1, hg_r0, hg_yb, hg_ye, hP0, hM0, hp0, hp1, hp2, hp3⟩ := hv
  have hK := hG.1
  have hx := Bd.exec
  have hb := Bd.bytes
  have hr := Bd.returns
  have hts := atoms_spec (ws := (jw yX14_costOf cX14_costOf 3 (some .int))) Bd.pre
  have htw : ∀ w ∈ jWl, w.before _ s = true := fun w h => hts w (List.mem_cons_of_mem _ h)
  have hown : s.vm.findClass RX14 = some m.cls := findClass_of_methodNamed Bd.named
  have hlocks := Bd.notSynchronized
  obtain ⟨Q, hQ⟩ : ∃ Q, Q = MQ below (va_Qi (S := Unit) (fun r u => (True)) (fun u t => jRt (dC, dI) B base G0 EX14_costOf H0 [] t.heap) (jA base)) ([.ref r0, .ref r1, .int a2] : List Value).toArray s 0 0 (jA base) := ⟨_, rfl⟩
  rw [← hQ]
  have hl := lv_entry ([.ref r0, .ref r1, .int a2]) (n := 3) (Nat.le_of_ble_eq_true rfl)
  rw [lg_entry_eq]
  generalize (lg_sl ([.ref r0, .ref r1, .int a2]) ++ List.replicate (3 - (lg_sl ([.ref r0, .ref r1, .int a2])).length) Slot.unset).toArray = ls at hl ⊢
  have hl : lv_has ls 3 [(0, .ref r0), (1, .ref r1), (2, .int a2)] := hl
  generalize hR : (headSpec (jw yX14_costOf cX14_costOf 3 (some .int)) ({ frames := 5, cells := 0, slots := 0, locals := 114 })).room = R
  subst hH0
  have hh : jSt (dC, dI) B base G0 G0 EX14_costOf s.heap 0 0 [(r1, 14, 6, .ref yb), (r1, 14, 7, .ref ye)] [(yb, 190, 40, ca 1, fb), (ye, 191, 40, ca 1, fe)] [] s.heap [] := jSt.start hX hP0 hM0 jIs.nil
  clear hX hP0
  have hk0 : (0 : Int32).toInt = 0 := by decide
  have hk1 : (1 : Int32).toInt = 1 := by decide
  have hly_14_3 := htw (u_lay RX12 TX12 3) (jWc_wsX120 _ (u_in_lay (by decide)))
  have hly_14_6 := htw (u_lay RX12 TX12 6) (jWc_wsX120 _ (u_in_lay (by decide)))
  have hly_14_7 := htw (u_lay RX12 TX12 7) (jWc_wsX120 _ (u_in_lay (by decide)))
  have hly_14_8 := htw (u_lay RX12 TX12 8) (jWc_wsX120 _ (u_in_lay (by decide)))
  have hly_16_58 := htw (u_lay RX14 TX14 58) (jWc_wsX140 _ (u_in_lay (by decide)))
  have hlk_122 := (htw (.fieldLink RX14 122 "ProofServerModel" "kernel" "LProofServerModel$Kernel;") (jWr_12 _ (List.mem_of_getElem? (i := 13) rfl)))
  have hlk_529 := (va_Nw.use (A := ([.ref r0, .ref r1, .int a2] : List Value).toArray) rfl (hG.2.1 RX14 529 "ProofServerModel$Document" "text" "[I" "ProofServerModel" (List.mem_of_getElem? (i := 1735) (by decide +kernel))))
  have hlk_596 := (va_Nw.use (A := ([.ref r0, .ref r1, .int a2] : List Value).toArray) rfl (hG.2.1 RX14 596 "ProofServerModel$Document" "begin" "[I" "ProofServerModel" (List.mem_of_getElem? (i := 1739) (by decide +kernel))))
  have hlk_594 := (va_Nw.use (A := ([.ref r0, .ref r1, .int a2] : List Value).toArray) rfl (hG.2.1 RX14 594 "ProofServerModel$Document" "end" "[I" "ProofServerModel" (List.mem_of_getElem? (i := 1741) (by decide +kernel))))
  have hlk_599 := (va_Nw.use (A := ([.ref r0, .ref r1, .int a2] : List Value).toArray) rfl (hG.2.1 RX14 599 "ProofServerModel$Document" "flaw" "[I" "ProofServerModel" (List.mem_of_getElem? (i := 1743) (by decide +kernel))))
  have hrg_a2 := jb_rng a2
  obtain ⟨s1, s2, s3, s4⟩ := hp0 a2.toInt (by omega) (by omega)
  refine lv_aload_n hx hb dX14_costOf_0 rfl (lv_at hl 0 rfl) ?_
  obtain ⟨v_1, hv_1, hh_2⟩ := hh.pin (C := RX14) (T := TX14) (N := 74) hB16 rfl (by decide) hg_r0 (i := 58) (by decide) rfl
  clear hh
  obtain ⟨kernel_3, rfl, hg_kernel_3⟩ := hv_1
  refine j7_read hx hb hown hK (C := RX14) (T := TX14) (N := 74) rfl hly_16_58 hlk_122 (hh_2.at 0 rfl) dX14_costOf_1 ?_
  refine va_callv (A0 := jA base) (H0 := s.heap) (va_runV (As := []) (rest := []) ⟨hx, hb, hml, hown, hts⟩ (uX13_beginK l dC dI ca base B hB hAp hB15 G0 s.heap kernel_3) (cwV 0 hts (jgV (jWr_59 _ (List.mem_of_getElem? (i := 10) rfl)) (jWr_59 _ (List.mem_of_getElem? (i := 11) rfl)) (jWr_59 _ (List.mem_of_getElem? (i := 12) rfl)) (jWr_12 _ (List.mem_of_getElem? (i := 12) rfl)) (jWr_59 _ (List.mem_of_getElem? (i := 13) rfl))) rfl rfl rfl (by decide +kernel) ⟨by rw [← hR]; exact Nat.le_of_ble_eq_true rfl, by rw [← hR]; exact Nat.le_of_ble_eq_true rfl⟩) ⟨fun a U g mk q => by obtain ⟨q0, q1, q2, qK, q10, q11, q12⟩ := q; exact ⟨q0, q1, q2, jG.calling g mk a qK, q10, q11, q12⟩, hh_2.recv (C := RX13) (T := TX13) (N := 50) hB15 rfl (by decide) hg_kernel_3 hK, fun U hU hW => ⟨rfl, hU, hh_2.2.1, hG.step hW hU hh_2.1, hg_kernel_3, jP.nil, trivial⟩⟩ rfl rfl hl.1 rfl (lv_room (Nat.le_of_ble_eq_true rfl)) dX14_costOf_4 ⟨Nat.zero_le _, Nat.zero_le _⟩) hh_2.1 (fun q _ h => h) (fun q h => h) (fun u_4 t_4 H_4 locs_4 ht_4 hvm_4 hr_5 hb_4 hz_4 hk_4 hS_4 => ?_)
  obtain ⟨qn_4, qy_4, qf_4, qg_4, qp_4, qc_4, qs_4⟩ := u_4
  rw [ht_4] at hb_4
  obtain ⟨hb_41, hb_42, hb_43, hb_44, hb_45⟩ := hb_4
  have hh_4 : jSt (dC, dI) B base G0 G0 EX14_costOf s.heap 0 0 [(kernel_3, 15, 5, .int qn_4), (kernel_3, 15, 11, .int qy_4), (kernel_3, 15, 15, .int qf_4), (kernel_3, 15, 21, .int qg_4), (kernel_3, 15, 18, .int qp_4), (kernel_3, 15, 10, .int qc_4), (kernel_3, 15, 7, .int qs_4), (r0, 16, 58, .ref kernel_3), (r1, 14, 6, .ref yb), (r1, 14, 7, .ref ye)] [(yb, 190, 40, ca 1, fb), (ye, 191, 40, ca 1, fe)] [] H_4 locs_4 := ((hh_2.call hb_41 hb_42 hb_43 hb_44 hS_4 rfl (L1 := [(r0, 16, 58, .ref kernel_3), (r1, 14, 6, .ref yb), (r1, 14, 7, .ref ye)]) [0, 1, 2] rfl rfl (M1 := [(yb, 190, 40, ca 1, fb), (ye, 191, 40, ca 1, fe)]) [0, 1] rfl rfl (I1 := []) [] rfl rfl).more hb_45)
  clear hh_2 ht_4 hvm_4 hz_4 hk_4 hS_4 hb_41 hb_42 hb_43 hb_44 hb_45
  try simp only at hr_5
  obtain ⟨hr_5_0, hr_5_1, hr_5_2, hr_5_3, hr_5_4, hr_5_5, hr_5_6⟩ := hr_5
  refine lv_aload_n hx hb dX14_costOf_7 rfl (lv_at hl 0 rfl) ?_
  refine j7_read hx hb hown hK (C := RX14) (T := TX14) (N := 74) rfl hly_16_58 hlk_122 (hh_4.at 7 rfl) dX14_costOf_8 ?_
  refine lv_aload_n hx hb dX14_costOf_11 rfl (lv_at hl 1 rfl) ?_
  obtain ⟨v_6, hv_6, hh_7⟩ := hh_4.pin (C := RX12) (T := TX12) (N := 11) hB14 rfl (by decide) hg_r1 (i := 3) (by decide) rfl
  clear hh_4
  obtain ⟨text_8, rfl, hg_text_8⟩ := hv_6
  refine j7_readN hx hb hown hK (C := RX12) (T := TX12) (N := 11) rfl hly_14_3 hlk_529 (hh_7.at 0 rfl) dX14_costOf_12 ?_
  refine lv_aload_n hx hb dX14_costOf_15 rfl (lv_at hl 1 rfl) ?_
  refine j7_readN hx hb hown hK (C := RX12) (T := TX12) (N := 11) rfl hly_14_6 hlk_596 (hh_7.at 9 rfl) dX14_costOf_16 ?_
  refine lv_iload_n hx hb dX14_costOf_19 rfl (lv_at hl 2 rfl) ?_
  refine j7_ialdM hx hb hK hh_7 hB190 1 rfl (by decide) hg_yb (x := a2.toInt) (rfl) (by omega) (j := 0) rfl dX14_costOf_20 (fun z_9 ez_9 (hz_9 : 0 ≤ z_9.toInt ∧ z_9.toInt ≤ 1500) => ?_)
  have hqz_9 : z_9.toInt = jSo fb (a2.toInt) := by unfold jSo; rw [ez_9]
  refine lv_aload_n hx hb dX14_costOf_21 rfl (lv_at hl 1 rfl) ?_
  refine j7_readN hx hb hown hK (C := RX12) (T := TX12) (N := 11) rfl hly_14_7 hlk_594 (hh_7.at 10 rfl) dX14_costOf_22 ?_
  refine lv_iload_n hx hb dX14_costOf_25 rfl (lv_at hl 2 rfl) ?_
  refine j7_ialdM hx hb hK hh_7 hB191 1 rfl (by decide) hg_ye (x := a2.toInt) (rfl) (by omega) (j := 1) rfl dX14_costOf_26 (fun z_10 ez_10 (hz_10 : 0 ≤ z_10.toInt ∧ z_10.toInt ≤ 1500) => ?_)
  have hqz_10 : z_10.toInt = jSo fe (a2.toInt) := by unfold jSo; rw [ez_10]
  refine lv_aload_n hx hb dX14_costOf_27 rfl (lv_at hl 1 rfl) ?_
  obtain ⟨v_11, hv_11, hh_12⟩ := hh_7.pin (C := RX12) (T := TX12) (N := 11) hB14 rfl (by decide) hg_r1 (i := 8) (by decide) rfl
  clear hh_7
  obtain ⟨flaw_13, rfl, hg_flaw_13⟩ := hv_11
  refine j7_readN hx hb hown hK (C := RX12) (T := TX12) (N := 11) rfl hly_14_8 hlk_599 (hh_12.at 0 rfl) dX14_costOf_28 ?_
  refine lv_iload_n hx hb dX14_costOf_31 rfl (lv_at hl 2 rfl) ?_
  refine j7_iald hx hb hK hh_12 hB192 1 rfl (by decide) hg_flaw_13 (x := a2.toInt) (rfl) (by omega) dX14_costOf_32 (fun z_14 (hz_14 : 0 ≤ z_14.toInt ∧ z_14.toInt ≤ 2) => ?_)
  refine va_calli (A0 := jA base) (H0 := s.heap) (va_runV (As := [.ref text_8, .int z_9, .int z_10, .int z_14]) (rest := []) ⟨hx, hb, hml, hown, hts⟩ (uX13_costv9 l dC dI ca base B hB hAp hB15 hB101 hB155 hB156 hB157 hB166 hB167 hB194 G0 H_4 kernel_3 text_8 z_9 z_10 z_14 1500 qc_4 qs_4) (cwV 4 hts (jgV (jWr_91 _ (List.mem_of_getElem? (i := 3) rfl)) (jWr_91 _ (List.mem_of_getElem? (i := 4) rfl)) (jWr_91 _ (List.mem_of_getElem? (i := 5) rfl)) (jWr_12 _ (List.mem_of_getElem? (i := 12) rfl)) (jWr_91 _ (List.mem_of_getElem? (i := 6) rfl))) rfl rfl rfl (by decide +kernel) ⟨by rw [← hR]; exact Nat.le_of_ble_eq_true rfl, by rw [← hR]; exact Nat.le_of_ble_eq_true rfl⟩) ⟨fun a U g mk q => by obtain ⟨q0, q1, q2, qK, q10, q11, q12, q13⟩ := q; exact ⟨q0, q1, q2, jG.calling g mk a qK, q10, q11, q12, q13⟩, hh_12.recv (C := RX13) (T := TX13) (N := 50) hB15 rfl (by decide) hg_kernel_3 hK, fun U hU hW => ⟨rfl, hU, hh_12.2.1, hG.step hW hU hh_12.1, hg_text_8, hg_kernel_3, (hh_12.2.2.1.sub (L1 := [(kernel_3, 15, 10, .int qc_4), (kernel_3, 15, 7, .int qs_4)]) [7, 8] rfl), by first | omega | (refine ⟨?_, ?_, ?_, ?_, ?_, ?_, ?_, ?_⟩ <;> (first | omega | rfl | assumption | decide | exact Or.inl rfl | exact Or.inr rfl | (simp only; omega)))⟩⟩ rfl rfl hl.1 rfl (lv_room (Nat.le_of_ble_eq_true rfl)) dX14_costOf_33 ⟨Nat.zero_le _, Nat.zero_le _⟩) hh_12.1 (fun q _ h => h) (fun q h => h) (fun r_16 u_15 t_15 H_15 locs_15 ht_15 hvm_15 hr_16 hb_15 hz_15 hk_15 hS_15 => ?_)
  rw [ht_15] at hb_15
  obtain ⟨hb_151, hb_152, hb_153, hb_154, hb_155⟩ := hb_15
  have hh_15 : jSt (dC, dI) B base G0 G0 EX14_costOf s.heap 0 0 [(r1, 14, 8, .ref flaw_13), (r1, 14, 3, .ref text_8), (kernel_3, 15, 5, .int qn_4), (kernel_3, 15, 11, .int qy_4), (kernel_3, 15, 15, .int qf_4), (kernel_3, 15, 21, .int qg_4), (kernel_3, 15, 18, .int qp_4), (r0, 16, 58, .ref kernel_3), (r1, 14, 6, .ref yb), (r1, 14, 7, .ref ye)] [(yb, 190, 40, ca 1, fb), (ye, 191, 40, ca 1, fe)] [] H_15 locs_15 := ((hh_12.call hb_151 hb_152 hb_153 hb_154 hS_15 rfl (L1 := [(r1, 14, 8, .ref flaw_13), (r1, 14, 3, .ref text_8), (kernel_3, 15, 5, .int qn_4), (kernel_3, 15, 11, .int qy_4), (kernel_3, 15, 15, .int qf_4), (kernel_3, 15, 21, .int qg_4), (kernel_3, 15, 18, .int qp_4), (r0, 16, 58, .ref kernel_3), (r1, 14, 6, .ref yb), (r1, 14, 7, .ref ye)]) [0, 1, 2, 3, 4, 5, 6, 9, 10, 11] rfl rfl (M1 := [(yb, 190, 40, ca 1, fb), (ye, 191, 40, ca 1, fe)]) [0, 1] rfl rfl (I1 := []) [] rfl rfl).more hb_155)
  clear hh_12 ht_15 hvm_15 hz_15 hk_15 hS_15 hb_151 hb_152 hb_153 hb_154 hb_155
  rw [hQ]
  exact W.iret (v := r_16) hx hb hr (fun t ht hW => ⟨⟨r_16, (), rfl, trivial, hh_15.rt (M1 := []) [] rfl ht⟩, by rw [ht]; try exact hh_15.1.1, fun q h9 hq => by rw [ht]; try exact hh_15.1.2.1 q h9 hq⟩) hh_15.1.2.2 dX14_costOf_36
end
section
theorem dX14_verdict_0 : decode cX14_verdict 0 = .ok (.iload_n 1, 1) := by decide +kernel
theorem dX14_verdict_1 : decode cX14_verdict 1 = .ok (.ifCond .lt 14, 3) := by decide +kernel
theorem dX14_verdict_4 : decode cX14_verdict 4 = .ok (.iload_n 1, 1) := by decide +kernel
theorem dX14_verdict_5 : decode cX14_verdict 5 = .ok (.aload_n 0, 1) := by decide +kernel
theorem dX14_verdict_6 : decode cX14_verdict 6 = .ok (.getfield 151, 3) := by decide +kernel
theorem dX14_verdict_9 : decode cX14_verdict 9 = .ok (.getfield 587, 3) := by decide +kernel
theorem dX14_verdict_12 : decode cX14_verdict 12 = .ok (.if_icmp .lt 5, 3) := by decide +kernel
theorem dX14_verdict_15 : decode cX14_verdict 15 = .ok (.iconst (-1), 1) := by decide +kernel
theorem dX14_verdict_16 : decode cX14_verdict 16 = .ok (.ireturn, 1) := by decide +kernel
theorem dX14_verdict_17 : decode cX14_verdict 17 = .ok (.iload_n 2, 1) := by decide +kernel
theorem dX14_verdict_18 : decode cX14_verdict 18 = .ok (.tableswitch 92 0 5 #[38, 48, 58, 68, 78, 85], 38) := by decide +kernel
theorem dX14_verdict_56 : decode cX14_verdict 56 = .ok (.aload_n 0, 1) := by decide +kernel
theorem dX14_verdict_57 : decode cX14_verdict 57 = .ok (.getfield 151, 3) := by decide +kernel
theorem dX14_verdict_60 : decode cX14_verdict 60 = .ok (.getfield 596, 3) := by decide +kernel
theorem dX14_verdict_63 : decode cX14_verdict 63 = .ok (.iload_n 1, 1) := by decide +kernel
theorem dX14_verdict_64 : decode cX14_verdict 64 = .ok (.iaload, 1) := by decide +kernel
theorem dX14_verdict_65 : decode cX14_verdict 65 = .ok (.ireturn, 1) := by decide +kernel
theorem dX14_verdict_66 : decode cX14_verdict 66 = .ok (.aload_n 0, 1) := by decide +kernel
theorem dX14_verdict_67 : decode cX14_verdict 67 = .ok (.getfield 151, 3) := by decide +kernel
theorem dX14_verdict_70 : decode cX14_verdict 70 = .ok (.getfield 594, 3) := by decide +kernel
theorem dX14_verdict_73 : decode cX14_verdict 73 = .ok (.iload_n 1, 1) := by decide +kernel
theorem dX14_verdict_74 : decode cX14_verdict 74 = .ok (.iaload, 1) := by decide +kernel
theorem dX14_verdict_75 : decode cX14_verdict 75 = .ok (.ireturn, 1) := by decide +kernel
theorem dX14_verdict_76 : decode cX14_verdict 76 = .ok (.aload_n 0, 1) := by decide +kernel
theorem dX14_verdict_77 : decode cX14_verdict 77 = .ok (.getfield 151, 3) := by decide +kernel
theorem dX14_verdict_80 : decode cX14_verdict 80 = .ok (.getfield 751, 3) := by decide +kernel
theorem dX14_verdict_83 : decode cX14_verdict 83 = .ok (.iload_n 1, 1) := by decide +kernel
theorem dX14_verdict_84 : decode cX14_verdict 84 = .ok (.iaload, 1) := by decide +kernel
theorem dX14_verdict_85 : decode cX14_verdict 85 = .ok (.ireturn, 1) := by decide +kernel
theorem dX14_verdict_86 : decode cX14_verdict 86 = .ok (.aload_n 0, 1) := by decide +kernel
theorem dX14_verdict_87 : decode cX14_verdict 87 = .ok (.aload_n 0, 1) := by decide +kernel
theorem dX14_verdict_88 : decode cX14_verdict 88 = .ok (.getfield 151, 3) := by decide +kernel
theorem dX14_verdict_91 : decode cX14_verdict 91 = .ok (.iload_n 1, 1) := by decide +kernel
theorem dX14_verdict_92 : decode cX14_verdict 92 = .ok (.invokevirtual 789, 3) := by decide +kernel
theorem dX14_verdict_95 : decode cX14_verdict 95 = .ok (.ireturn, 1) := by decide +kernel
theorem dX14_verdict_96 : decode cX14_verdict 96 = .ok (.aload_n 0, 1) := by decide +kernel
theorem dX14_verdict_97 : decode cX14_verdict 97 = .ok (.getfield 154, 3) := by decide +kernel
theorem dX14_verdict_100 : decode cX14_verdict 100 = .ok (.iload_n 1, 1) := by decide +kernel
theorem dX14_verdict_101 : decode cX14_verdict 101 = .ok (.iaload, 1) := by decide +kernel
theorem dX14_verdict_102 : decode cX14_verdict 102 = .ok (.ireturn, 1) := by decide +kernel
theorem dX14_verdict_103 : decode cX14_verdict 103 = .ok (.aload_n 0, 1) := by decide +kernel
theorem dX14_verdict_104 : decode cX14_verdict 104 = .ok (.getfield 157, 3) := by decide +kernel
theorem dX14_verdict_107 : decode cX14_verdict 107 = .ok (.iload_n 1, 1) := by decide +kernel
theorem dX14_verdict_108 : decode cX14_verdict 108 = .ok (.iaload, 1) := by decide +kernel
theorem dX14_verdict_109 : decode cX14_verdict 109 = .ok (.ireturn, 1) := by decide +kernel
theorem dX14_verdict_110 : decode cX14_verdict 110 = .ok (.iconst (-1), 1) := by decide +kernel
theorem dX14_verdict_111 : decode cX14_verdict 111 = .ok (.ireturn, 1) := by decide +kernel
theorem dX14_goals_0 : decode cX14_goals 0 = .ok (.iload_n 1, 1) := by decide +kernel
theorem dX14_goals_1 : decode cX14_goals 1 = .ok (.iconst (-1), 1) := by decide +kernel
theorem dX14_goals_2 : decode cX14_goals 2 = .ok (.if_icmp .lt 14, 3) := by decide +kernel
theorem dX14_goals_5 : decode cX14_goals 5 = .ok (.iload_n 1, 1) := by decide +kernel
theorem dX14_goals_6 : decode cX14_goals 6 = .ok (.aload_n 0, 1) := by decide +kernel
theorem dX14_goals_7 : decode cX14_goals 7 = .ok (.getfield 151, 3) := by decide +kernel
theorem dX14_goals_10 : decode cX14_goals 10 = .ok (.getfield 587, 3) := by decide +kernel
theorem dX14_goals_13 : decode cX14_goals 13 = .ok (.if_icmp .lt 5, 3) := by decide +kernel
theorem dX14_goals_16 : decode cX14_goals 16 = .ok (.iconst (-1), 1) := by decide +kernel
theorem dX14_goals_17 : decode cX14_goals 17 = .ok (.ireturn, 1) := by decide +kernel
theorem dX14_goals_18 : decode cX14_goals 18 = .ok (.aload_n 0, 1) := by decide +kernel
theorem dX14_goals_19 : decode cX14_goals 19 = .ok (.aload_n 0, 1) := by decide +kernel
theorem dX14_goals_20 : decode cX14_goals 20 = .ok (.getfield 151, 3) := by decide +kernel
theorem dX14_goals_23 : decode cX14_goals 23 = .ok (.iload_n 1, 1) := by decide +kernel
theorem dX14_goals_24 : decode cX14_goals 24 = .ok (.iconst 1, 1) := by decide +kernel
theorem dX14_goals_25 : decode cX14_goals 25 = .ok (.iadd, 1) := by decide +kernel
theorem dX14_goals_26 : decode cX14_goals 26 = .ok (.invokevirtual 697, 3) := by decide +kernel
theorem dX14_goals_29 : decode cX14_goals 29 = .ok (.aload_n 0, 1) := by decide +kernel
theorem dX14_goals_30 : decode cX14_goals 30 = .ok (.iconst 0, 1) := by decide +kernel
theorem dX14_goals_31 : decode cX14_goals 31 = .ok (.putfield 160, 3) := by decide +kernel
theorem dX14_goals_34 : decode cX14_goals 34 = .ok (.aload_n 0, 1) := by decide +kernel
theorem dX14_goals_35 : decode cX14_goals 35 = .ok (.invokevirtual 700, 3) := by decide +kernel
theorem dX14_goals_38 : decode cX14_goals 38 = .ok (.iload_n 2, 1) := by decide +kernel
theorem dX14_goals_39 : decode cX14_goals 39 = .ok (.ifCond .lt 20, 3) := by decide +kernel
theorem dX14_goals_42 : decode cX14_goals 42 = .ok (.iload_n 2, 1) := by decide +kernel
theorem dX14_goals_43 : decode cX14_goals 43 = .ok (.aload_n 0, 1) := by decide +kernel
theorem dX14_goals_44 : decode cX14_goals 44 = .ok (.getfield 160, 3) := by decide +kernel
theorem dX14_goals_47 : decode cX14_goals 47 = .ok (.if_icmp .ge 12, 3) := by decide +kernel
theorem dX14_goals_50 : decode cX14_goals 50 = .ok (.aload_n 0, 1) := by decide +kernel
theorem dX14_goals_51 : decode cX14_goals 51 = .ok (.getfield 17, 3) := by decide +kernel
theorem dX14_goals_54 : decode cX14_goals 54 = .ok (.iload_n 2, 1) := by decide +kernel
theorem dX14_goals_55 : decode cX14_goals 55 = .ok (.iaload, 1) := by decide +kernel
theorem dX14_goals_56 : decode cX14_goals 56 = .ok (.goto 4, 3) := by decide +kernel
theorem dX14_goals_59 : decode cX14_goals 59 = .ok (.iconst (-1), 1) := by decide +kernel
theorem dX14_goals_60 : decode cX14_goals 60 = .ok (.ireturn, 1) := by decide +kernel
def EX14_goals : List (Nat × Nat) := [(15, 5), (15, 7), (15, 10), (15, 11), (15, 15), (15, 18), (15, 19), (15, 20), (15, 21), (15, 30), (15, 31), (15, 32), (15, 33), (15, 34), (15, 36), (15, 38), (15, 39), (15, 40), (15, 41), (15, 42), (15, 46), (15, 49), (16, 6), (101, 0), (103, 0), (150, 0), (151, 0), (152, 0), (153, 0), (154, 0), (155, 0), (156, 0), (157, 0), (158, 0), (159, 0), (160, 0), (161, 0), (162, 0), (163, 0), (164, 0), (165, 0), (166, 0), (167, 0), (168, 0), (169, 0)]
def EX14_verdict : List (Nat × Nat) := [(15, 5), (15, 7), (15, 10), (15, 11), (15, 15), (15, 18), (15, 21), (15, 30), (15, 31), (155, 0), (156, 0), (157, 0), (166, 0), (167, 0)]
set_option maxHeartbeats 4000000 in
set_option maxRecDepth 20000 in
theorem uX14_goals (l : Launch) (dC : Nat → ClassId) (dI : Nat → Nat → Nat) (ca : Nat → ClassId) (base : Nat) (B : jF) (hB : jBok B) (hAp : jAp (dC, dI)) (hB14 : ∀ n G a H, B 14 n G a H ↔ jOb (dC, dI) 14 11 (F14 n G) a H) (hB15 : ∀ n G a H, B 15 n G a H ↔ jOb (dC, dI) 15 50 (F15 n G) a H) (hB16 : ∀ n G a H, B 16 n G a H ↔ jOb (dC, dI) 16 74 (F16 n G) a H) (hB101 : ∀ n G a H, B 101 n G a H ↔ jAr (dC, dI) (ca 1) (fun j z => True) n a H) (hB103 : ∀ n G a H, B 103 n G a H ↔ jAr (dC, dI) (ca 3) (fun j z => (z = 0 ∨ z = 1)) n a H) (hB150 : ∀ n G a H, B 150 n G a H ↔ jAr (dC, dI) (ca 1) (fun j z => True) n a H) (hB151 : ∀ n G a H, B 151 n G a H ↔ jAr (dC, dI) (ca 1) (fun j z => True) n a H) (hB152 : ∀ n G a H, B 152 n G a H ↔ jAr (dC, dI) (ca 1) (fun j z => True) n a H) (hB153 : ∀ n G a H, B 153 n G a H ↔ jAr (dC, dI) (ca 1) (fun j z => True) n a H) (hB154 : ∀ n G a H, B 154 n G a H ↔ jAr (dC, dI) (ca 1) (fun j z => True) n a H) (hB155 : ∀ n G a H, B 155 n G a H ↔ jAr (dC, dI) (ca 1) (fun j z => 0 ≤ z.toInt ∧ z.toInt ≤ 11990) n a H) (hB156 : ∀ n G a H, B 156 n G a H ↔ jAr (dC, dI) (ca 1) (fun j z => 0 ≤ z.toInt ∧ z.toInt ≤ 10) n a H) (hB157 : ∀ n G a H, B 157 n G a H ↔ jAr (dC, dI) (ca 1) (fun j z => 0 ≤ z.toInt ∧ z.toInt ≤ 1599) n a H) (hB158 : ∀ n G a H, B 158 n G a H ↔ jAr (dC, dI) (ca 1) (fun j z => 0 ≤ z.toInt ∧ z.toInt ≤ 6) n a H) (hB159 : ∀ n G a H, B 159 n G a H ↔ jAr (dC, dI) (ca 1) (fun j z => 0 ≤ z.toInt ∧ z.toInt ≤ 8) n a H) (hB160 : ∀ n G a H, B 160 n G a H ↔ jAr (dC, dI) (ca 1) (fun j z => 0 ≤ z.toInt ∧ z.toInt ≤ 119999) n a H) (hB161 : ∀ n G a H, B 161 n G a H ↔ jAr (dC, dI) (ca 1) (fun j z => 0 ≤ z.toInt ∧ z.toInt ≤ 119999) n a H) (hB162 : ∀ n G a H, B 162 n G a H ↔ jAr (dC, dI) (ca 1) (fun j z => 0 ≤ z.toInt ∧ z.toInt ≤ 119999) n a H) (hB163 : ∀ n G a H, B 163 n G a H ↔ jAr (dC, dI) (ca 1) (fun j z => 0 ≤ z.toInt ∧ z.toInt ≤ 1599) n a H) (hB164 : ∀ n G a H, B 164 n G a H ↔ jAr (dC, dI) (ca 1) (fun j z => 0 ≤ z.toInt ∧ z.toInt ≤ 100000) n a H) (hB165 : ∀ n G a H, B 165 n G a H ↔ jAr (dC, dI) (ca 1) (fun j z => 0 ≤ z.toInt ∧ z.toInt ≤ 3) n a H) (hB166 : ∀ n G a H, B 166 n G a H ↔ jAr (dC, dI) (ca 1) (fun j z => True) n a H) (hB167 : ∀ n G a H, B 167 n G a H ↔ jAr (dC, dI) (ca 1) (fun j z => True) n a H) (hB168 : ∀ n G a H, B 168 n G a H ↔ jAr (dC, dI) (ca 1) (fun j z => 0 ≤ z.toInt ∧ z.toInt ≤ 119999) n a H) (hB169 : ∀ n G a H, B 169 n G a H ↔ jAr (dC, dI) (ca 1) (fun j z => True) n a H) (hB190 : ∀ n G a H, B 190 n G a H ↔ jAr (dC, dI) (ca 1) (fun j z => 0 ≤ z.toInt ∧ z.toInt ≤ 1500) n a H) (hB191 : ∀ n G a H, B 191 n G a H ↔ jAr (dC, dI) (ca 1) (fun j z => 0 ≤ z.toInt ∧ z.toInt ≤ 1500) n a H) (hB192 : ∀ n G a H, B 192 n G a H ↔ jAr (dC, dI) (ca 1) (fun j z => 0 ≤ z.toInt ∧ z.toInt ≤ 2) n a H) (hB194 : ∀ n G a H, B 194 n G a H ↔ jAr (dC, dI) (ca 1) (fun j z => True) n a H) (G0 : jT) (H0 : Heap) (r0 : Nat) (a1 : Int32) (a2 : Int32) (td : Nat) (yb : Nat) (ye : Nat) (ps : Int32) (fb : Nat → Int32) (fe : Nat → Int32) : Met l yX14_goals (jw yX14_goals cX14_goals 3 (some .int)) ({ frames := 1705, cells := 0, slots := 0, locals := 71931 }) (va_Pc [.ref r0, .int a1, .int a2] (fun U => U.heap = H0 ∧ jX B base G0 [] H0 ∧ jG dC dI ca base U ∧ G0 r0 = some (16, 0) ∧ G0 td = some (14, 0) ∧ G0 yb = some (190, 40) ∧ G0 ye = some (191, 40) ∧ jP (dC, dI) G0 H0 [(r0, 16, 71, .ref td), (td, 14, 6, .ref yb), (td, 14, 7, .ref ye), (td, 14, 5, .int ps)] ∧ jMc (dC, dI) G0 H0 [(yb, 190, 40, ca 1, fb), (ye, 191, 40, ca 1, fe)] ∧ jSrt fb fe ps.toInt 1500 ∧ 0 ≤ ps.toInt ∧ ps.toInt ≤ 40)) (va_Qi (S := Unit) (fun r u => (True)) (fun u t => jRt (dC, dI) B base G0 EX14_goals H0 [] t.heap) (jA base)) 0 0 (jA base) := by
  refine Met.ofW (cc := cX14_goals) (maxL := 3) (ret := (some .int)) (by decide) rfl ?_
  intro p e s m args below meth c s₁ Bd hml hv
  obtain ⟨rfl, hH0, hX, hG, hg_r0, hg_td, hg_yb, hg_ye, hP0, hM0, hp0, hp1, hp2⟩ := hv
  have hK := hG.1
  have hx := Bd.exec
  have hb := Bd.bytes
  have hr := Bd.returns
  have hts := atoms_spec (ws := (jw yX14_goals cX14_goals 3 (some .int))) Bd.pre
  have htw : ∀ w ∈ jWl, w.before _ s = true := fun w h => hts w (List.mem_cons_of_mem _ h)
  have hown : s.vm.findClass RX14 = some m.cls := findClass_of_methodNamed Bd.named
  have hlocks := Bd.notSynchronized
  obtain ⟨Q, hQ⟩ : ∃ Q, Q = MQ below (va_Qi (S := Unit) (fun r u => (True)) (fun u t => jRt (dC, dI) B base G0 EX14_goals H0 [] t.heap) (jA base)) ([.ref r0, .int a1, .int a2] : List Value).toArray s 0 0 (jA base) := ⟨_, rfl⟩
  rw [← hQ]
  have hl := lv_entry ([.ref r0, .int a1, .int a2]) (n := 3) (Nat.le_of_ble_eq_true rfl)
  rw [lg_entry_eq]
  generalize (lg_sl ([.ref r0, .int a1, .int a2]) ++ List.replicate (3 - (lg_sl ([.ref r0, .int a1, .int a2])).length) Slot.unset).toArray = ls at hl ⊢
  have hl : lv_has ls 3 [(0, .ref r0), (1, .int a1), (2, .int a2)] := hl
  generalize hR : (headSpec (jw yX14_goals cX14_goals 3 (some .int)) ({ frames := 1705, cells := 0, slots := 0, locals := 71931 })).room = R
  subst hH0
  have hh : jSt (dC, dI) B base G0 G0 EX14_goals s.heap 0 0 [(r0, 16, 71, .ref td), (td, 14, 6, .ref yb), (td, 14, 7, .ref ye), (td, 14, 5, .int ps)] [(yb, 190, 40, ca 1, fb), (ye, 191, 40, ca 1, fe)] [] s.heap [] := jSt.start hX hP0 hM0 jIs.nil
  clear hX hP0
  have hkm1 : ((-1) : Int32).toInt = (-1) := by decide
  have hk0 : (0 : Int32).toInt = 0 := by decide
  have hk1 : (1 : Int32).toInt = 1 := by decide
  have hly_14_5 := htw (u_lay RX12 TX12 5) (jWc_wsX120 _ (u_in_lay (by decide)))
  have hly_16_5 := htw (u_lay RX14 TX14 5) (jWc_wsX140 _ (u_in_lay (by decide)))
  have hly_16_6 := htw (u_lay RX14 TX14 6) (jWc_wsX140 _ (u_in_lay (by decide)))
  have hly_16_71 := htw (u_lay RX14 TX14 71) (jWc_wsX140 _ (u_in_lay (by decide)))
  have hlk_151 := (htw (.fieldLink RX14 151 "ProofServerModel" "told" "LProofServerModel$Document;") (jWr_12 _ (List.mem_of_getElem? (i := 23) rfl)))
  have hlk_587 := (va_Nw.use (A := ([.ref r0, .int a1, .int a2] : List Value).toArray) rfl (hG.2.1 RX14 587 "ProofServerModel$Document" "sentences" "I" "ProofServerModel" (List.mem_of_getElem? (i := 1737) (by decide +kernel))))
  have hlk_160 := (htw (.fieldLink RX14 160 "ProofServerModel" "framed" "I") (jWr_53 _ (List.mem_of_getElem? (i := 18) rfl)))
  have hlk_17 := (htw (.fieldLink RX14 17 "ProofServerModel" "frame" "[I") (jWr_10 _ (List.mem_of_getElem? (i := 20) rfl)))
  have hrg_a1 := jb_rng a1
  have hrg_a2 := jb_rng a2
  refine lv_iload_n hx hb dX14_goals_0 rfl (lv_at hl 1 rfl) ?_
  refine lv_iconst (v := (-1)) hx hb dX14_goals_1 (by decide) ?_
  refine lv_icmp_lt (tgt := 16) hx hb dX14_goals_2 (by decide) (fun c_1 => ?_) (fun c_1 => ?_)
  · skip
    have c_1' : a1.toInt < (-1) := jb_lt (rfl) ((by decide)) c_1
    refine lv_iconst (v := (-1)) hx hb dX14_goals_16 (by decide) ?_
    rw [hQ]
    exact W.iret (v := (-1)) hx hb hr (fun t ht hW => ⟨⟨(-1), (), rfl, trivial, hh.rt (M1 := []) [] rfl ht⟩, by rw [ht]; try exact hh.1.1, fun q h9 hq => by rw [ht]; try exact hh.1.2.1 q h9 hq⟩) hh.1.2.2 dX14_goals_17
  · skip
    have c_1' : a1.toInt ≥ (-1) := jb_lt_n (rfl) ((by decide)) c_1
    refine lv_iload_n hx hb dX14_goals_5 rfl (lv_at hl 1 rfl) ?_
    refine lv_aload_n hx hb dX14_goals_6 rfl (lv_at hl 0 rfl) ?_
    refine j7_read hx hb hown hK (C := RX14) (T := TX14) (N := 74) rfl hly_16_71 hlk_151 (hh.at 0 rfl) dX14_goals_7 ?_
    refine j7_readN hx hb hown hK (C := RX12) (T := TX12) (N := 11) rfl hly_14_5 hlk_587 (hh.at 3 rfl) dX14_goals_10 ?_
    refine lv_icmp_lt (tgt := 18) hx hb dX14_goals_13 (by decide) (fun c_2 => ?_) (fun c_2 => ?_)
    · skip
      have c_2' : a1.toInt < ps.toInt := jb_lt (rfl) (rfl) c_2
      refine lv_aload_n hx hb dX14_goals_18 rfl (lv_at hl 0 rfl) ?_
      refine lv_aload_n hx hb dX14_goals_19 rfl (lv_at hl 0 rfl) ?_
      refine j7_read hx hb hown hK (C := RX14) (T := TX14) (N := 74) rfl hly_16_71 hlk_151 (hh.at 0 rfl) dX14_goals_20 ?_
      refine lv_iload_n hx hb dX14_goals_23 rfl (lv_at hl 1 rfl) ?_
      refine lv_iconst (v := 1) hx hb dX14_goals_24 (by decide) ?_
      refine lv_iadd hx hb dX14_goals_25 ?_
      refine lv_topi (fun z_3 ez_3 => ?_)
      have hz_3 : z_3.toInt = a1.toInt + 1 := by rw [ez_3]; exact jb_iadd2 (rfl) ((by decide)) (by omega)
      obtain ⟨v_6, hv_6, hh_7⟩ := hh.pin (C := RX14) (T := TX14) (N := 74) hB16 rfl (by decide) hg_r0 (i := 58) (by decide) rfl
      obtain ⟨kernel_8, rfl, hg_kernel_8⟩ := hv_6
      obtain ⟨v_9, hv_9, hh_10⟩ := hh_7.pin (C := RX13) (T := TX13) (N := 50) hB15 rfl (by decide) hg_kernel_8 (i := 17) (by decide) rfl
      obtain ⟨fact_11, rfl, hg_fact_11⟩ := hv_9
      obtain ⟨v_12, hv_12, hh_13⟩ := hh_10.pin (C := RX13) (T := TX13) (N := 50) hB15 rfl (by decide) hg_kernel_8 (i := 22) (by decide) rfl
      obtain ⟨goal_14, rfl, hg_goal_14⟩ := hv_12
      obtain ⟨v_15, hv_15, hh_16⟩ := hh_13.pin (C := RX13) (T := TX13) (N := 50) hB15 rfl (by decide) hg_kernel_8 (i := 25) (by decide) rfl
      obtain ⟨hyps_17, rfl, hg_hyps_17⟩ := hv_15
      obtain ⟨v_18, hv_18, hh_19⟩ := hh_16.pin (C := RX13) (T := TX13) (N := 50) hB15 rfl (by decide) hg_kernel_8 (i := 27) (by decide) rfl
      obtain ⟨hyp_20, rfl, hg_hyp_20⟩ := hv_18
      obtain ⟨v_21, hv_21, hh_22⟩ := hh_19.pin (C := RX13) (T := TX13) (N := 50) hB15 rfl (by decide) hg_kernel_8 (i := 0) (by decide) rfl
      obtain ⟨sort_23, rfl, hg_sort_23⟩ := hv_21
      obtain ⟨v_24, hv_24, hh_25⟩ := hh_22.pin (C := RX13) (T := TX13) (N := 50) hB15 rfl (by decide) hg_kernel_8 (i := 1) (by decide) rfl
      obtain ⟨name_26, rfl, hg_name_26⟩ := hv_24
      obtain ⟨v_27, hv_27, hh_28⟩ := hh_25.pin (C := RX13) (T := TX13) (N := 50) hB15 rfl (by decide) hg_kernel_8 (i := 2) (by decide) rfl
      obtain ⟨one_29, rfl, hg_one_29⟩ := hv_27
      obtain ⟨v_30, hv_30, hh_31⟩ := hh_28.pin (C := RX13) (T := TX13) (N := 50) hB15 rfl (by decide) hg_kernel_8 (i := 3) (by decide) rfl
      obtain ⟨two_32, rfl, hg_two_32⟩ := hv_30
      obtain ⟨v_33, hv_33, hh_34⟩ := hh_31.pin (C := RX13) (T := TX13) (N := 50) hB15 rfl (by decide) hg_kernel_8 (i := 4) (by decide) rfl
      obtain ⟨three_35, rfl, hg_three_35⟩ := hv_33
      obtain ⟨v_36, hv_36, hh_37⟩ := hh_34.pin (C := RX13) (T := TX13) (N := 50) hB15 rfl (by decide) hg_kernel_8 (i := 14) (by decide) rfl
      obtain ⟨arity_38, rfl, hg_arity_38⟩ := hv_36
      obtain ⟨f_ff_39, hh_39⟩ := hh_37.cpin hB160 (by decide) (by decide) hg_fact_11
      clear hh_37
      obtain ⟨f_fg_40, hh_40⟩ := hh_39.cpin hB161 (by decide) (by decide) hg_goal_14
      clear hh_39
      obtain ⟨f_fh_41, hh_41⟩ := hh_40.cpin hB159 (by decide) (by decide) hg_hyps_17
      clear hh_40
      obtain ⟨f_fp_42, hh_42⟩ := hh_41.cpin hB162 (by decide) (by decide) hg_hyp_20
      clear hh_41
      obtain ⟨f_zs_43, hh_43⟩ := hh_42.cpin hB150 (by decide) (by decide) hg_sort_23
      clear hh_42
      obtain ⟨f_zn_44, hh_44⟩ := hh_43.cpin hB151 (by decide) (by decide) hg_name_26
      clear hh_43
      obtain ⟨f_za_45, hh_45⟩ := hh_44.cpin hB152 (by decide) (by decide) hg_one_29
      clear hh_44
      obtain ⟨f_zb_46, hh_46⟩ := hh_45.cpin hB153 (by decide) (by decide) hg_two_32
      clear hh_45
      obtain ⟨f_zc_47, hh_47⟩ := hh_46.cpin hB154 (by decide) (by decide) hg_three_35
      clear hh_46
      obtain ⟨f_zy_48, hh_48⟩ := hh_47.cpin hB165 (by decide) (by decide) hg_arity_38
      clear hh_47
      refine va_callv (A0 := jA base) (H0 := s.heap) (va_runV (As := [.ref td, .int z_3]) (rest := []) ⟨hx, hb, hml, hown, hts⟩ (uX14_reach l dC dI ca base B hB hAp hB14 hB15 hB16 hB101 hB103 hB150 hB151 hB152 hB153 hB154 hB155 hB156 hB157 hB158 hB159 hB160 hB161 hB162 hB163 hB165 hB166 hB167 hB168 hB169 hB190 hB191 hB192 hB194 G0 s.heap r0 td z_3 yb ye kernel_8 fact_11 goal_14 hyps_17 hyp_20 sort_23 name_26 one_29 two_32 three_35 arity_38 ps.toInt fb fe f_ff_39 f_fg_40 f_fh_41 f_fp_42 (jK.mk f_zs_43 f_zn_44 f_za_45 f_zb_46 f_zc_47 f_zy_48)) (cwV 2 hts (jgV (jWr_59 _ (List.mem_of_getElem? (i := 6) rfl)) (jWr_59 _ (List.mem_of_getElem? (i := 7) rfl)) (jWr_59 _ (List.mem_of_getElem? (i := 8) rfl)) (jWr_1 _ (List.mem_of_getElem? (i := 5) rfl)) (jWr_59 _ (List.mem_of_getElem? (i := 9) rfl))) rfl rfl rfl (by decide +kernel) ⟨by rw [← hR]; exact Nat.le_of_ble_eq_true rfl, by rw [← hR]; exact Nat.le_of_ble_eq_true rfl⟩) ⟨fun a U g mk q => by obtain ⟨q0, q1, q2, qK, q10, q11, q12, q13, q14, q15, q16, q17, q18, q19, q20, q21, q22, q23, q24, q25, q26, q27⟩ := q; exact ⟨q0, q1, q2, jG.calling g mk a qK, q10, q11, q12, q13, q14, q15, q16, q17, q18, q19, q20, q21, q22, q23, q24, q25, q26, q27⟩, hh_48.recv (C := RX14) (T := TX14) (N := 74) hB16 rfl (by decide) hg_r0 hK, fun U hU hW => ⟨rfl, hU, hh_48.2.1, hG.step hW hU hh_48.1, hg_td, hg_r0, hg_yb, hg_ye, hg_kernel_8, hg_fact_11, hg_goal_14, hg_hyps_17, hg_hyp_20, hg_sort_23, hg_name_26, hg_one_29, hg_two_32, hg_three_35, hg_arity_38, (hh_48.2.2.1.sub (L1 := [(td, 14, 6, .ref yb), (td, 14, 7, .ref ye), (r0, 16, 58, .ref kernel_8), (kernel_8, 15, 17, .ref fact_11), (kernel_8, 15, 22, .ref goal_14), (kernel_8, 15, 25, .ref hyps_17), (kernel_8, 15, 27, .ref hyp_20), (kernel_8, 15, 0, .ref sort_23), (kernel_8, 15, 1, .ref name_26), (kernel_8, 15, 2, .ref one_29), (kernel_8, 15, 3, .ref two_32), (kernel_8, 15, 4, .ref three_35), (kernel_8, 15, 14, .ref arity_38)]) [12, 13, 10, 9, 8, 7, 6, 5, 4, 3, 2, 1, 0] rfl), (hh_48.2.2.2.2.2.2.2.1.sub (L1 := [(yb, 190, 40, ca 1, fb), (ye, 191, 40, ca 1, fe), (fact_11, 160, 16, ca 1, f_ff_39), (goal_14, 161, 46, ca 1, f_fg_40), (hyps_17, 159, 46, ca 1, f_fh_41), (hyp_20, 162, 368, ca 1, f_fp_42), (sort_23, 150, 120000, ca 1, f_zs_43), (name_26, 151, 120000, ca 1, f_zn_44), (one_29, 152, 120000, ca 1, f_za_45), (two_32, 153, 120000, ca 1, f_zb_46), (three_35, 154, 120000, ca 1, f_zc_47), (arity_38, 165, 16, ca 1, f_zy_48)]) [10, 11, 9, 8, 7, 6, 5, 4, 3, 2, 1, 0] rfl), ⟨(by first | assumption | exact hp0 | omega), (by first | omega | rfl | assumption | exact hp0), (by first | omega | rfl | assumption | exact hp0), (by first | omega | rfl | assumption | exact hp0)⟩⟩⟩ rfl rfl hl.1 rfl (lv_room (Nat.le_of_ble_eq_true rfl)) dX14_goals_26 ⟨Nat.zero_le _, Nat.zero_le _⟩) hh_48.1 (fun q _ h => h) (fun q h => h) (fun u_4 t_4 H_4 locs_4 ht_4 hvm_4 hr_5 hb_4 hz_4 hk_4 hS_4 => ?_)
      obtain ⟨qn_4, qy_4, qf_4, qg_4, qp_4, ql_4, qc_4, qz_4, gf_4, gg_4, gh_4, gp_4, D_4⟩ := u_4
      rw [ht_4] at hb_4
      obtain ⟨⟨hb_41, hb_42, hb_43, hb_44, hb_45⟩, hb_46⟩ := hb_4
      have hh_4 : jSt (dC, dI) B base G0 G0 EX14_goals s.heap 0 0 [(kernel_8, 15, 5, .int qn_4), (kernel_8, 15, 11, .int qy_4), (kernel_8, 15, 15, .int qf_4), (kernel_8, 15, 21, .int qg_4), (kernel_8, 15, 18, .int qp_4), (kernel_8, 15, 20, .int ql_4), (kernel_8, 15, 10, .int qc_4), (kernel_8, 15, 7, .int qz_4), (kernel_8, 15, 14, .ref arity_38), (kernel_8, 15, 4, .ref three_35), (kernel_8, 15, 3, .ref two_32), (kernel_8, 15, 2, .ref one_29), (kernel_8, 15, 1, .ref name_26), (kernel_8, 15, 0, .ref sort_23), (kernel_8, 15, 27, .ref hyp_20), (kernel_8, 15, 25, .ref hyps_17), (kernel_8, 15, 22, .ref goal_14), (kernel_8, 15, 17, .ref fact_11), (r0, 16, 58, .ref kernel_8), (r0, 16, 71, .ref td), (td, 14, 6, .ref yb), (td, 14, 7, .ref ye), (td, 14, 5, .int ps)] [(fact_11, 160, 16, ca 1, gf_4), (goal_14, 161, 46, ca 1, gg_4), (hyps_17, 159, 46, ca 1, gh_4), (hyp_20, 162, 368, ca 1, gp_4), (sort_23, 150, 120000, ca 1, D_4.s), (name_26, 151, 120000, ca 1, D_4.n), (one_29, 152, 120000, ca 1, D_4.a), (two_32, 153, 120000, ca 1, D_4.b), (three_35, 154, 120000, ca 1, D_4.c), (arity_38, 165, 16, ca 1, D_4.y), (yb, 190, 40, ca 1, fb), (ye, 191, 40, ca 1, fe)] [] H_4 locs_4 := ((hh_48.call hb_41 hb_42 hb_43 hb_44 hS_4 rfl (L1 := [(kernel_8, 15, 14, .ref arity_38), (kernel_8, 15, 4, .ref three_35), (kernel_8, 15, 3, .ref two_32), (kernel_8, 15, 2, .ref one_29), (kernel_8, 15, 1, .ref name_26), (kernel_8, 15, 0, .ref sort_23), (kernel_8, 15, 27, .ref hyp_20), (kernel_8, 15, 25, .ref hyps_17), (kernel_8, 15, 22, .ref goal_14), (kernel_8, 15, 17, .ref fact_11), (r0, 16, 58, .ref kernel_8), (r0, 16, 71, .ref td), (td, 14, 6, .ref yb), (td, 14, 7, .ref ye), (td, 14, 5, .int ps)]) [0, 1, 2, 3, 4, 5, 6, 7, 8, 9, 10, 11, 12, 13, 14] rfl rfl (M1 := [(yb, 190, 40, ca 1, fb), (ye, 191, 40, ca 1, fe)]) [10, 11] rfl rfl (I1 := []) [] rfl rfl).more hb_45).moreM hb_46
      clear hh_48 ht_4 hvm_4 hz_4 hk_4 hS_4 hb_41 hb_42 hb_43 hb_44 hb_45
      clear hb_46
      try simp only at hr_5
      obtain ⟨hr_5_0, hr_5_1, hr_5_2, hr_5_3, hr_5_4, hr_5_5⟩ := hr_5
      refine lv_aload_n hx hb dX14_goals_29 rfl (lv_at hl 0 rfl) ?_
      refine lv_iconst (v := 0) hx hb dX14_goals_30 (by decide) ?_
      refine j7_put hx hb hown hK hh_4 hB hAp hB16 (C := RX14) (T := TX14) (N := 74) rfl (by decide) hg_r0 (i := 6) (by decide) hly_16_6 rfl hlk_160 rfl (ty := .int) (v := .int 0) (by decide +kernel) rfl rfl (⟨_, rfl, by omega, by omega⟩) rfl (L1 := [(kernel_8, 15, 5, .int qn_4), (kernel_8, 15, 11, .int qy_4), (kernel_8, 15, 15, .int qf_4), (kernel_8, 15, 21, .int qg_4), (kernel_8, 15, 18, .int qp_4), (kernel_8, 15, 20, .int ql_4), (kernel_8, 15, 10, .int qc_4), (kernel_8, 15, 7, .int qz_4), (kernel_8, 15, 14, .ref arity_38), (kernel_8, 15, 4, .ref three_35), (kernel_8, 15, 3, .ref two_32), (kernel_8, 15, 2, .ref one_29), (kernel_8, 15, 1, .ref name_26), (kernel_8, 15, 0, .ref sort_23), (kernel_8, 15, 27, .ref hyp_20), (kernel_8, 15, 25, .ref hyps_17), (kernel_8, 15, 22, .ref goal_14), (kernel_8, 15, 17, .ref fact_11), (r0, 16, 58, .ref kernel_8), (r0, 16, 71, .ref td), (td, 14, 6, .ref yb), (td, 14, 7, .ref ye), (td, 14, 5, .int ps)]) [0, 1, 2, 3, 4, 5, 6, 7, 8, 9, 10, 11, 12, 13, 14, 15, 16, 17, 18, 19, 20, 21, 22] rfl rfl rfl dX14_goals_31 (fun H_49 locs_49 hh_49 => ?_)
      clear hh_4
      have hKx := hr_5_2
      obtain ⟨x1, x2, x3, x4, x5, x6, x7, x8, x9, x10⟩ := hKx
      refine lv_aload_n hx hb dX14_goals_34 rfl (lv_at hl 0 rfl) ?_
      refine va_callv (A0 := jA base) (H0 := s.heap) (va_runV (As := []) (rest := []) ⟨hx, hb, hml, hown, hts⟩ (uX14_goalsOf l dC dI ca base B hB hAp hB15 hB16 hB101 hB150 hB151 hB152 hB153 hB154 hB155 hB156 hB158 hB159 hB161 hB162 hB163 hB164 hB165 hB166 G0 H_49 r0 kernel_8 qg_4 goal_14 hyps_17 hyp_20 sort_23 name_26 one_29 two_32 three_35 arity_38 qn_4.toInt qy_4.toInt gg_4 gh_4 gp_4 D_4) (cwV 0 hts (jgV (jWr_69 _ (List.mem_of_getElem? (i := 23) rfl)) (jWr_70 _ (List.mem_of_getElem? (i := 0) rfl)) (jWr_70 _ (List.mem_of_getElem? (i := 1) rfl)) (jWr_1 _ (List.mem_of_getElem? (i := 5) rfl)) (jWr_70 _ (List.mem_of_getElem? (i := 2) rfl))) rfl rfl rfl (by decide +kernel) ⟨by rw [← hR]; exact Nat.le_of_ble_eq_true rfl, by rw [← hR]; exact Nat.le_of_ble_eq_true rfl⟩) ⟨fun a U g mk q => by obtain ⟨q0, q1, q2, qK, q10, q11, q12, q13, q14, q15, q16, q17, q18, q19, q20, q21, q22, q23⟩ := q; exact ⟨q0, q1, q2, jG.calling g mk a qK, q10, q11, q12, q13, q14, q15, q16, q17, q18, q19, q20, q21, q22, q23⟩, hh_49.recv (C := RX14) (T := TX14) (N := 74) hB16 rfl (by decide) hg_r0 hK, fun U hU hW => ⟨rfl, hU, hh_49.2.1, hG.step hW hU hh_49.1, hg_r0, hg_kernel_8, hg_goal_14, hg_hyps_17, hg_hyp_20, hg_sort_23, hg_name_26, hg_one_29, hg_two_32, hg_three_35, hg_arity_38, (hh_49.2.2.1.sub (L1 := [(r0, 16, 58, .ref kernel_8), (kernel_8, 15, 21, .int qg_4), (kernel_8, 15, 22, .ref goal_14), (kernel_8, 15, 25, .ref hyps_17), (kernel_8, 15, 27, .ref hyp_20), (kernel_8, 15, 0, .ref sort_23), (kernel_8, 15, 1, .ref name_26), (kernel_8, 15, 2, .ref one_29), (kernel_8, 15, 3, .ref two_32), (kernel_8, 15, 4, .ref three_35), (kernel_8, 15, 14, .ref arity_38)]) [19, 4, 17, 16, 15, 14, 13, 12, 11, 10, 9] rfl), (hh_49.2.2.2.2.2.2.2.1.sub (L1 := [(goal_14, 161, 46, ca 1, gg_4), (hyps_17, 159, 46, ca 1, gh_4), (hyp_20, 162, 368, ca 1, gp_4), (sort_23, 150, 120000, ca 1, D_4.s), (name_26, 151, 120000, ca 1, D_4.n), (one_29, 152, 120000, ca 1, D_4.a), (two_32, 153, 120000, ca 1, D_4.b), (three_35, 154, 120000, ca 1, D_4.c), (arity_38, 165, 16, ca 1, D_4.y)]) [1, 2, 3, 4, 5, 6, 7, 8, 9] rfl), ⟨(by first | assumption | exact x9 | omega), (by first | omega | rfl | assumption | exact x9), (by first | omega | rfl | assumption | exact x9), (by first | omega | rfl | assumption | exact x9), (by first | omega | rfl | assumption | exact x9)⟩⟩⟩ rfl rfl hl.1 rfl (lv_room (Nat.le_of_ble_eq_true rfl)) dX14_goals_35 ⟨Nat.zero_le _, Nat.zero_le _⟩) hh_49.1 (fun q _ h => h) (fun q h => h) (fun u_50 t_50 H_50 locs_50 ht_50 hvm_50 hr_51 hb_50 hz_50 hk_50 hS_50 => ?_)
      rw [ht_50] at hb_50
      obtain ⟨hb_501, hb_502, hb_503, hb_504, hb_505⟩ := hb_50
      have hh_50 : jSt (dC, dI) B base G0 G0 EX14_goals s.heap 0 0 [(kernel_8, 15, 5, .int qn_4), (kernel_8, 15, 11, .int qy_4), (kernel_8, 15, 15, .int qf_4), (kernel_8, 15, 21, .int qg_4), (kernel_8, 15, 18, .int qp_4), (kernel_8, 15, 20, .int ql_4), (kernel_8, 15, 10, .int qc_4), (kernel_8, 15, 7, .int qz_4), (kernel_8, 15, 14, .ref arity_38), (kernel_8, 15, 4, .ref three_35), (kernel_8, 15, 3, .ref two_32), (kernel_8, 15, 2, .ref one_29), (kernel_8, 15, 1, .ref name_26), (kernel_8, 15, 0, .ref sort_23), (kernel_8, 15, 27, .ref hyp_20), (kernel_8, 15, 25, .ref hyps_17), (kernel_8, 15, 22, .ref goal_14), (kernel_8, 15, 17, .ref fact_11), (r0, 16, 58, .ref kernel_8), (r0, 16, 71, .ref td), (td, 14, 6, .ref yb), (td, 14, 7, .ref ye), (td, 14, 5, .int ps)] [(fact_11, 160, 16, ca 1, gf_4), (goal_14, 161, 46, ca 1, gg_4), (hyps_17, 159, 46, ca 1, gh_4), (hyp_20, 162, 368, ca 1, gp_4), (sort_23, 150, 120000, ca 1, D_4.s), (name_26, 151, 120000, ca 1, D_4.n), (one_29, 152, 120000, ca 1, D_4.a), (two_32, 153, 120000, ca 1, D_4.b), (three_35, 154, 120000, ca 1, D_4.c), (arity_38, 165, 16, ca 1, D_4.y), (yb, 190, 40, ca 1, fb), (ye, 191, 40, ca 1, fe)] [] H_50 locs_50 := ((hh_49.call hb_501 hb_502 hb_503 hb_504 hS_50 rfl (L1 := [(kernel_8, 15, 5, .int qn_4), (kernel_8, 15, 11, .int qy_4), (kernel_8, 15, 15, .int qf_4), (kernel_8, 15, 21, .int qg_4), (kernel_8, 15, 18, .int qp_4), (kernel_8, 15, 20, .int ql_4), (kernel_8, 15, 10, .int qc_4), (kernel_8, 15, 7, .int qz_4), (kernel_8, 15, 14, .ref arity_38), (kernel_8, 15, 4, .ref three_35), (kernel_8, 15, 3, .ref two_32), (kernel_8, 15, 2, .ref one_29), (kernel_8, 15, 1, .ref name_26), (kernel_8, 15, 0, .ref sort_23), (kernel_8, 15, 27, .ref hyp_20), (kernel_8, 15, 25, .ref hyps_17), (kernel_8, 15, 22, .ref goal_14), (kernel_8, 15, 17, .ref fact_11), (r0, 16, 58, .ref kernel_8), (r0, 16, 71, .ref td), (td, 14, 6, .ref yb), (td, 14, 7, .ref ye), (td, 14, 5, .int ps)]) [1, 2, 3, 4, 5, 6, 7, 8, 9, 10, 11, 12, 13, 14, 15, 16, 17, 18, 19, 20, 21, 22, 23] rfl rfl (M1 := [(fact_11, 160, 16, ca 1, gf_4), (goal_14, 161, 46, ca 1, gg_4), (hyps_17, 159, 46, ca 1, gh_4), (hyp_20, 162, 368, ca 1, gp_4), (sort_23, 150, 120000, ca 1, D_4.s), (name_26, 151, 120000, ca 1, D_4.n), (one_29, 152, 120000, ca 1, D_4.a), (two_32, 153, 120000, ca 1, D_4.b), (three_35, 154, 120000, ca 1, D_4.c), (arity_38, 165, 16, ca 1, D_4.y), (yb, 190, 40, ca 1, fb), (ye, 191, 40, ca 1, fe)]) [0, 1, 2, 3, 4, 5, 6, 7, 8, 9, 10, 11] rfl rfl (I1 := []) [] rfl rfl).more hb_505)
      clear hh_49 ht_50 hvm_50 hz_50 hk_50 hS_50 hb_501 hb_502 hb_503 hb_504 hb_505
      refine lv_iload_n hx hb dX14_goals_38 rfl (lv_at hl 2 rfl) ?_
      refine lv_if_lt (tgt := 59) hx hb dX14_goals_39 (by decide) (fun c_52 => ?_) (fun c_52 => ?_)
      · skip
        have c_52' : a2.toInt < 0 := jb_lt (rfl) ((by decide)) c_52
        refine lv_iconst (v := (-1)) hx hb dX14_goals_59 (by decide) ?_
        rw [hQ]
        exact W.iret (v := (-1)) hx hb hr (fun t ht hW => ⟨⟨(-1), (), rfl, trivial, hh_50.rt (M1 := []) [] rfl ht⟩, by rw [ht]; try exact hh_50.1.1, fun q h9 hq => by rw [ht]; try exact hh_50.1.2.1 q h9 hq⟩) hh_50.1.2.2 dX14_goals_60
      · skip
        have c_52' : a2.toInt ≥ 0 := jb_lt_n (rfl) ((by decide)) c_52
        refine lv_iload_n hx hb dX14_goals_42 rfl (lv_at hl 2 rfl) ?_
        refine lv_aload_n hx hb dX14_goals_43 rfl (lv_at hl 0 rfl) ?_
        obtain ⟨v_53, hv_53, hh_54⟩ := hh_50.pin (C := RX14) (T := TX14) (N := 74) hB16 rfl (by decide) hg_r0 (i := 6) (by decide) rfl
        clear hh_50
        obtain ⟨framed_55, rfl, hloframed_55, hhiframed_55⟩ := hv_53
        refine j7_read hx hb hown hK (C := RX14) (T := TX14) (N := 74) rfl hly_16_6 hlk_160 (hh_54.at 0 rfl) dX14_goals_44 ?_
        refine lv_icmp_ge (tgt := 59) hx hb dX14_goals_47 (by decide) (fun c_56 => ?_) (fun c_56 => ?_)
        · skip
          have c_56' : a2.toInt ≥ framed_55.toInt := jb_ge (rfl) (rfl) c_56
          refine lv_iconst (v := (-1)) hx hb dX14_goals_59 (by decide) ?_
          rw [hQ]
          exact W.iret (v := (-1)) hx hb hr (fun t ht hW => ⟨⟨(-1), (), rfl, trivial, hh_54.rt (M1 := []) [] rfl ht⟩, by rw [ht]; try exact hh_54.1.1, fun q h9 hq => by rw [ht]; try exact hh_54.1.2.1 q h9 hq⟩) hh_54.1.2.2 dX14_goals_60
        · skip
          have c_56' : a2.toInt < framed_55.toInt := jb_ge_n (rfl) (rfl) c_56
          refine lv_aload_n hx hb dX14_goals_50 rfl (lv_at hl 0 rfl) ?_
          obtain ⟨v_57, hv_57, hh_58⟩ := hh_54.pin (C := RX14) (T := TX14) (N := 74) hB16 rfl (by decide) hg_r0 (i := 5) (by decide) rfl
          clear hh_54
          obtain ⟨frame_59, rfl, hg_frame_59⟩ := hv_57
          refine j7_read hx hb hown hK (C := RX14) (T := TX14) (N := 74) rfl hly_16_5 hlk_17 (hh_58.at 0 rfl) dX14_goals_51 ?_
          refine lv_iload_n hx hb dX14_goals_54 rfl (lv_at hl 2 rfl) ?_
          refine j7_iald hx hb hK hh_58 hB101 1 rfl (by decide) hg_frame_59 (x := a2.toInt) (rfl) (by omega) dX14_goals_55 (fun z_60 (hz_60 : True) => ?_)
          refine lv_goto (tgt := 60) hx hb dX14_goals_56 (by decide) ?_
          rw [hQ]
          exact W.iret (v := z_60) hx hb hr (fun t ht hW => ⟨⟨z_60, (), rfl, trivial, hh_58.rt (M1 := []) [] rfl ht⟩, by rw [ht]; try exact hh_58.1.1, fun q h9 hq => by rw [ht]; try exact hh_58.1.2.1 q h9 hq⟩) hh_58.1.2.2 dX14_goals_60
    · skip
      have c_2' : a1.toInt ≥ ps.toInt := jb_lt_n (rfl) (rfl) c_2
      refine lv_iconst (v := (-1)) hx hb dX14_goals_16 (by decide) ?_
      rw [hQ]
      exact W.iret (v := (-1)) hx hb hr (fun t ht hW => ⟨⟨(-1), (), rfl, trivial, hh.rt (M1 := []) [] rfl ht⟩, by rw [ht]; try exact hh.1.1, fun q h9 hq => by rw [ht]; try exact hh.1.2.1 q h9 hq⟩) hh.1.2.2 dX14_goals_17
set_option maxHeartbeats 4000000 in
set_option maxRecDepth 20000 in
theorem uX14_verdict (l : Launch) (dC : Nat → ClassId) (dI : Nat → Nat → Nat) (ca : Nat → ClassId) (base : Nat) (B : jF) (hB : jBok B) (hAp : jAp (dC, dI)) (hB14 : ∀ n G a H, B 14 n G a H ↔ jOb (dC, dI) 14 11 (F14 n G) a H) (hB15 : ∀ n G a H, B 15 n G a H ↔ jOb (dC, dI) 15 50 (F15 n G) a H) (hB16 : ∀ n G a H, B 16 n G a H ↔ jOb (dC, dI) 16 74 (F16 n G) a H) (hB101 : ∀ n G a H, B 101 n G a H ↔ jAr (dC, dI) (ca 1) (fun j z => True) n a H) (hB155 : ∀ n G a H, B 155 n G a H ↔ jAr (dC, dI) (ca 1) (fun j z => 0 ≤ z.toInt ∧ z.toInt ≤ 11990) n a H) (hB156 : ∀ n G a H, B 156 n G a H ↔ jAr (dC, dI) (ca 1) (fun j z => 0 ≤ z.toInt ∧ z.toInt ≤ 10) n a H) (hB157 : ∀ n G a H, B 157 n G a H ↔ jAr (dC, dI) (ca 1) (fun j z => 0 ≤ z.toInt ∧ z.toInt ≤ 1599) n a H) (hB166 : ∀ n G a H, B 166 n G a H ↔ jAr (dC, dI) (ca 1) (fun j z => True) n a H) (hB167 : ∀ n G a H, B 167 n G a H ↔ jAr (dC, dI) (ca 1) (fun j z => True) n a H) (hB190 : ∀ n G a H, B 190 n G a H ↔ jAr (dC, dI) (ca 1) (fun j z => 0 ≤ z.toInt ∧ z.toInt ≤ 1500) n a H) (hB191 : ∀ n G a H, B 191 n G a H ↔ jAr (dC, dI) (ca 1) (fun j z => 0 ≤ z.toInt ∧ z.toInt ≤ 1500) n a H) (hB192 : ∀ n G a H, B 192 n G a H ↔ jAr (dC, dI) (ca 1) (fun j z => 0 ≤ z.toInt ∧ z.toInt ≤ 2) n a H) (hB193 : ∀ n G a H, B 193 n G a H ↔ jAr (dC, dI) (ca 1) (fun j z => True) n a H) (hB194 : ∀ n G a H, B 194 n G a H ↔ jAr (dC, dI) (ca 1) (fun j z => True) n a H) (G0 : jT) (H0 : Heap) (r0 : Nat) (a1 : Int32) (a2 : Int32) (td : Nat) (yb : Nat) (ye : Nat) (ps : Int32) (fb : Nat → Int32) (fe : Nat → Int32) : Met l yX14_verdict (jw yX14_verdict cX14_verdict 3 (some .int)) ({ frames := 6, cells := 0, slots := 0, locals := 136 }) (va_Pc [.ref r0, .int a1, .int a2] (fun U => U.heap = H0 ∧ jX B base G0 [] H0 ∧ jG dC dI ca base U ∧ G0 r0 = some (16, 0) ∧ G0 td = some (14, 0) ∧ G0 yb = some (190, 40) ∧ G0 ye = some (191, 40) ∧ jP (dC, dI) G0 H0 [(r0, 16, 71, .ref td), (td, 14, 6, .ref yb), (td, 14, 7, .ref ye), (td, 14, 5, .int ps)] ∧ jMc (dC, dI) G0 H0 [(yb, 190, 40, ca 1, fb), (ye, 191, 40, ca 1, fe)] ∧ jSrt fb fe ps.toInt 1500 ∧ 0 ≤ ps.toInt ∧ ps.toInt ≤ 40)) (va_Qi (S := Unit) (fun r u => (True)) (fun u t => jRt (dC, dI) B base G0 EX14_verdict H0 [] t.heap) (jA base)) 0 0 (jA base) := by
  refine Met.ofW (cc := cX14_verdict) (maxL := 3) (ret := (some .int)) (by decide) rfl ?_
  intro p e s m args below meth c s₁ Bd hml hv
  obtain ⟨rfl, hH0, hX, hG, hg_r0, hg_td, hg_yb, hg_ye, hP0, hM0, hp0, hp1, hp2⟩ := hv
  have hK := hG.1
  have hx := Bd.exec
  have hb := Bd.bytes
  have hr := Bd.returns
  have hts := atoms_spec (ws := (jw yX14_verdict cX14_verdict 3 (some .int))) Bd.pre
  have htw : ∀ w ∈ jWl, w.before _ s = true := fun w h => hts w (List.mem_cons_of_mem _ h)
  have hown : s.vm.findClass RX14 = some m.cls := findClass_of_methodNamed Bd.named
  have hlocks := Bd.notSynchronized
  obtain ⟨Q, hQ⟩ : ∃ Q, Q = MQ below (va_Qi (S := Unit) (fun r u => (True)) (fun u t => jRt (dC, dI) B base G0 EX14_verdict H0 [] t.heap) (jA base)) ([.ref r0, .int a1, .int a2] : List Value).toArray s 0 0 (jA base) := ⟨_, rfl⟩
  rw [← hQ]
  have hl := lv_entry ([.ref r0, .int a1, .int a2]) (n := 3) (Nat.le_of_ble_eq_true rfl)
  rw [lg_entry_eq]
  generalize (lg_sl ([.ref r0, .int a1, .int a2]) ++ List.replicate (3 - (lg_sl ([.ref r0, .int a1, .int a2])).length) Slot.unset).toArray = ls at hl ⊢
  have hl : lv_has ls 3 [(0, .ref r0), (1, .int a1), (2, .int a2)] := hl
  generalize hR : (headSpec (jw yX14_verdict cX14_verdict 3 (some .int)) ({ frames := 6, cells := 0, slots := 0, locals := 136 })).room = R
  subst hH0
  have hh : jSt (dC, dI) B base G0 G0 EX14_verdict s.heap 0 0 [(r0, 16, 71, .ref td), (td, 14, 6, .ref yb), (td, 14, 7, .ref ye), (td, 14, 5, .int ps)] [(yb, 190, 40, ca 1, fb), (ye, 191, 40, ca 1, fe)] [] s.heap [] := jSt.start hX hP0 hM0 jIs.nil
  clear hX hP0
  have hkm1 : ((-1) : Int32).toInt = (-1) := by decide
  have hk0 : (0 : Int32).toInt = 0 := by decide
  have hk1 : (1 : Int32).toInt = 1 := by decide
  have hly_14_5 := htw (u_lay RX12 TX12 5) (jWc_wsX120 _ (u_in_lay (by decide)))
  have hly_14_6 := htw (u_lay RX12 TX12 6) (jWc_wsX120 _ (u_in_lay (by decide)))
  have hly_14_7 := htw (u_lay RX12 TX12 7) (jWc_wsX120 _ (u_in_lay (by decide)))
  have hly_14_10 := htw (u_lay RX12 TX12 10) (jWc_wsX120 _ (u_in_lay (by decide)))
  have hly_16_71 := htw (u_lay RX14 TX14 71) (jWc_wsX140 _ (u_in_lay (by decide)))
  have hly_16_72 := htw (u_lay RX14 TX14 72) (jWc_wsX140 _ (u_in_lay (by decide)))
  have hly_16_73 := htw (u_lay RX14 TX14 73) (jWc_wsX140 _ (u_in_lay (by decide)))
  have hlk_151 := (htw (.fieldLink RX14 151 "ProofServerModel" "told" "LProofServerModel$Document;") (jWr_12 _ (List.mem_of_getElem? (i := 23) rfl)))
  have hlk_587 := (va_Nw.use (A := ([.ref r0, .int a1, .int a2] : List Value).toArray) rfl (hG.2.1 RX14 587 "ProofServerModel$Document" "sentences" "I" "ProofServerModel" (List.mem_of_getElem? (i := 1737) (by decide +kernel))))
  have hlk_596 := (va_Nw.use (A := ([.ref r0, .int a1, .int a2] : List Value).toArray) rfl (hG.2.1 RX14 596 "ProofServerModel$Document" "begin" "[I" "ProofServerModel" (List.mem_of_getElem? (i := 1739) (by decide +kernel))))
  have hlk_594 := (va_Nw.use (A := ([.ref r0, .int a1, .int a2] : List Value).toArray) rfl (hG.2.1 RX14 594 "ProofServerModel$Document" "end" "[I" "ProofServerModel" (List.mem_of_getElem? (i := 1741) (by decide +kernel))))
  have hlk_751 := (va_Nw.use (A := ([.ref r0, .int a1, .int a2] : List Value).toArray) rfl (hG.2.1 RX14 751 "ProofServerModel$Document" "fault" "[I" "ProofServerModel" (List.mem_of_getElem? (i := 1746) (by decide +kernel))))
  have hlk_154 := (htw (.fieldLink RX14 154 "ProofServerModel" "toldGoals" "[I") (jWr_13 _ (List.mem_of_getElem? (i := 0) rfl)))
  have hlk_157 := (htw (.fieldLink RX14 157 "ProofServerModel" "toldFacts" "[I") (jWr_13 _ (List.mem_of_getElem? (i := 1) rfl)))
  have hrg_a1 := jb_rng a1
  have hrg_a2 := jb_rng a2
  refine lv_iload_n hx hb dX14_verdict_0 rfl (lv_at hl 1 rfl) ?_
  refine lv_if_lt (tgt := 15) hx hb dX14_verdict_1 (by decide) (fun c_1 => ?_) (fun c_1 => ?_)
  · skip
    have c_1' : a1.toInt < 0 := jb_lt (rfl) ((by decide)) c_1
    refine lv_iconst (v := (-1)) hx hb dX14_verdict_15 (by decide) ?_
    rw [hQ]
    exact W.iret (v := (-1)) hx hb hr (fun t ht hW => ⟨⟨(-1), (), rfl, trivial, hh.rt (M1 := []) [] rfl ht⟩, by rw [ht]; try exact hh.1.1, fun q h9 hq => by rw [ht]; try exact hh.1.2.1 q h9 hq⟩) hh.1.2.2 dX14_verdict_16
  · skip
    have c_1' : a1.toInt ≥ 0 := jb_lt_n (rfl) ((by decide)) c_1
    refine lv_iload_n hx hb dX14_verdict_4 rfl (lv_at hl 1 rfl) ?_
    refine lv_aload_n hx hb dX14_verdict_5 rfl (lv_at hl 0 rfl) ?_
    refine j7_read hx hb hown hK (C := RX14) (T := TX14) (N := 74) rfl hly_16_71 hlk_151 (hh.at 0 rfl) dX14_verdict_6 ?_
    refine j7_readN hx hb hown hK (C := RX12) (T := TX12) (N := 11) rfl hly_14_5 hlk_587 (hh.at 3 rfl) dX14_verdict_9 ?_
    refine lv_icmp_lt (tgt := 17) hx hb dX14_verdict_12 (by decide) (fun c_2 => ?_) (fun c_2 => ?_)
    · skip
      have c_2' : a1.toInt < ps.toInt := jb_lt (rfl) (rfl) c_2
      refine lv_iload_n hx hb dX14_verdict_17 rfl (lv_at hl 2 rfl) ?_
      rcases (by omega : (a2.toInt < 0 ∨ 5 < a2.toInt) ∨ a2.toInt = 0 ∨ a2.toInt = 1 ∨ a2.toInt = 2 ∨ a2.toInt = 3 ∨ a2.toInt = 4 ∨ a2.toInt = 5) with c_3 | c_3 | c_3 | c_3 | c_3 | c_3 | c_3
      · refine lv_tableOut (tgt := 110) hx hb dX14_verdict_18 c_3 (by decide) ?_
        refine lv_iconst (v := (-1)) hx hb dX14_verdict_110 (by decide) ?_
        rw [hQ]
        exact W.iret (v := (-1)) hx hb hr (fun t ht hW => ⟨⟨(-1), (), rfl, trivial, hh.rt (M1 := []) [] rfl ht⟩, by rw [ht]; try exact hh.1.1, fun q h9 hq => by rw [ht]; try exact hh.1.2.1 q h9 hq⟩) hh.1.2.2 dX14_verdict_111
      · refine lv_tableIn (off := 38) (tgt := 56) hx hb dX14_verdict_18 (by omega) (by omega) (by rw [c_3]; rfl) (by decide) ?_
        refine lv_aload_n hx hb dX14_verdict_56 rfl (lv_at hl 0 rfl) ?_
        refine j7_read hx hb hown hK (C := RX14) (T := TX14) (N := 74) rfl hly_16_71 hlk_151 (hh.at 0 rfl) dX14_verdict_57 ?_
        refine j7_readN hx hb hown hK (C := RX12) (T := TX12) (N := 11) rfl hly_14_6 hlk_596 (hh.at 1 rfl) dX14_verdict_60 ?_
        refine lv_iload_n hx hb dX14_verdict_63 rfl (lv_at hl 1 rfl) ?_
        refine j7_ialdM hx hb hK hh hB190 1 rfl (by decide) hg_yb (x := a1.toInt) (rfl) (by omega) (j := 0) rfl dX14_verdict_64 (fun z_4 ez_4 (hz_4 : 0 ≤ z_4.toInt ∧ z_4.toInt ≤ 1500) => ?_)
        have hqz_4 : z_4.toInt = jSo fb (a1.toInt) := by unfold jSo; rw [ez_4]
        rw [hQ]
        exact W.iret (v := z_4) hx hb hr (fun t ht hW => ⟨⟨z_4, (), rfl, trivial, hh.rt (M1 := []) [] rfl ht⟩, by rw [ht]; try exact hh.1.1, fun q h9 hq => by rw [ht]; try exact hh.1.2.1 q h9 hq⟩) hh.1.2.2 dX14_verdict_65
      · refine lv_tableIn (off := 48) (tgt := 66) hx hb dX14_verdict_18 (by omega) (by omega) (by rw [c_3]; rfl) (by decide) ?_
        refine lv_aload_n hx hb dX14_verdict_66 rfl (lv_at hl 0 rfl) ?_
        refine j7_read hx hb hown hK (C := RX14) (T := TX14) (N := 74) rfl hly_16_71 hlk_151 (hh.at 0 rfl) dX14_verdict_67 ?_
        refine j7_readN hx hb hown hK (C := RX12) (T := TX12) (N := 11) rfl hly_14_7 hlk_594 (hh.at 2 rfl) dX14_verdict_70 ?_
        refine lv_iload_n hx hb dX14_verdict_73 rfl (lv_at hl 1 rfl) ?_
        refine j7_ialdM hx hb hK hh hB191 1 rfl (by decide) hg_ye (x := a1.toInt) (rfl) (by omega) (j := 1) rfl dX14_verdict_74 (fun z_5 ez_5 (hz_5 : 0 ≤ z_5.toInt ∧ z_5.toInt ≤ 1500) => ?_)
        have hqz_5 : z_5.toInt = jSo fe (a1.toInt) := by unfold jSo; rw [ez_5]
        rw [hQ]
        exact W.iret (v := z_5) hx hb hr (fun t ht hW => ⟨⟨z_5, (), rfl, trivial, hh.rt (M1 := []) [] rfl ht⟩, by rw [ht]; try exact hh.1.1, fun q h9 hq => by rw [ht]; try exact hh.1.2.1 q h9 hq⟩) hh.1.2.2 dX14_verdict_75
      · refine lv_tableIn (off := 58) (tgt := 76) hx hb dX14_verdict_18 (by omega) (by omega) (by rw [c_3]; rfl) (by decide) ?_
        refine lv_aload_n hx hb dX14_verdict_76 rfl (lv_at hl 0 rfl) ?_
        refine j7_read hx hb hown hK (C := RX14) (T := TX14) (N := 74) rfl hly_16_71 hlk_151 (hh.at 0 rfl) dX14_verdict_77 ?_
        obtain ⟨v_6, hv_6, hh_7⟩ := hh.pin (C := RX12) (T := TX12) (N := 11) hB14 rfl (by decide) hg_td (i := 10) (by decide) rfl
        clear hh
        obtain ⟨fault_8, rfl, hg_fault_8⟩ := hv_6
        refine j7_readN hx hb hown hK (C := RX12) (T := TX12) (N := 11) rfl hly_14_10 hlk_751 (hh_7.at 0 rfl) dX14_verdict_80 ?_
        refine lv_iload_n hx hb dX14_verdict_83 rfl (lv_at hl 1 rfl) ?_
        refine j7_iald hx hb hK hh_7 hB193 1 rfl (by decide) hg_fault_8 (x := a1.toInt) (rfl) (by omega) dX14_verdict_84 (fun z_9 (hz_9 : True) => ?_)
        rw [hQ]
        exact W.iret (v := z_9) hx hb hr (fun t ht hW => ⟨⟨z_9, (), rfl, trivial, hh_7.rt (M1 := []) [] rfl ht⟩, by rw [ht]; try exact hh_7.1.1, fun q h9 hq => by rw [ht]; try exact hh_7.1.2.1 q h9 hq⟩) hh_7.1.2.2 dX14_verdict_85
      · refine lv_tableIn (off := 68) (tgt := 86) hx hb dX14_verdict_18 (by omega) (by omega) (by rw [c_3]; rfl) (by decide) ?_
        refine lv_aload_n hx hb dX14_verdict_86 rfl (lv_at hl 0 rfl) ?_
        refine lv_aload_n hx hb dX14_verdict_87 rfl (lv_at hl 0 rfl) ?_
        refine j7_read hx hb hown hK (C := RX14) (T := TX14) (N := 74) rfl hly_16_71 hlk_151 (hh.at 0 rfl) dX14_verdict_88 ?_
        refine lv_iload_n hx hb dX14_verdict_91 rfl (lv_at hl 1 rfl) ?_
        refine va_calli (A0 := jA base) (H0 := s.heap) (va_runV (As := [.ref td, .int a1]) (rest := []) ⟨hx, hb, hml, hown, hts⟩ (uX14_costOf l dC dI ca base B hB hAp hB14 hB15 hB16 hB101 hB155 hB156 hB157 hB166 hB167 hB190 hB191 hB192 hB194 G0 s.heap r0 td a1 yb ye ps.toInt fb fe) (cwV 2 hts (jgV (jWr_90 _ (List.mem_of_getElem? (i := 23) rfl)) (jWr_91 _ (List.mem_of_getElem? (i := 0) rfl)) (jWr_91 _ (List.mem_of_getElem? (i := 1) rfl)) (jWr_1 _ (List.mem_of_getElem? (i := 5) rfl)) (jWr_91 _ (List.mem_of_getElem? (i := 2) rfl))) rfl rfl rfl (by decide +kernel) ⟨by rw [← hR]; exact Nat.le_of_ble_eq_true rfl, by rw [← hR]; exact Nat.le_of_ble_eq_true rfl⟩) ⟨fun a U g mk q => by obtain ⟨q0, q1, q2, qK, q10, q11, q12, q13, q14, q15, q16⟩ := q; exact ⟨q0, q1, q2, jG.calling g mk a qK, q10, q11, q12, q13, q14, q15, q16⟩, hh.recv (C := RX14) (T := TX14) (N := 74) hB16 rfl (by decide) hg_r0 hK, fun U hU hW => ⟨rfl, hU, hh.2.1, hG.step hW hU hh.1, hg_td, hg_r0, hg_yb, hg_ye, (hh.2.2.1.sub (L1 := [(td, 14, 6, .ref yb), (td, 14, 7, .ref ye)]) [1, 2] rfl), (hh.2.2.2.2.2.2.2.1.sub (L1 := [(yb, 190, 40, ca 1, fb), (ye, 191, 40, ca 1, fe)]) [0, 1] rfl), ⟨(by first | assumption | exact hp0 | omega), (by first | omega | rfl | assumption | exact hp0), (by first | omega | rfl | assumption | exact hp0), (by first | omega | rfl | assumption | exact hp0)⟩⟩⟩ rfl rfl hl.1 rfl (lv_room (Nat.le_of_ble_eq_true rfl)) dX14_verdict_92 ⟨Nat.zero_le _, Nat.zero_le _⟩) hh.1 (fun q _ h => h) (fun q h => h) (fun r_11 u_10 t_10 H_10 locs_10 ht_10 hvm_10 hr_11 hb_10 hz_10 hk_10 hS_10 => ?_)
        rw [ht_10] at hb_10
        obtain ⟨hb_101, hb_102, hb_103, hb_104, hb_105⟩ := hb_10
        have hh_10 : jSt (dC, dI) B base G0 G0 EX14_verdict s.heap 0 0 [(r0, 16, 71, .ref td), (td, 14, 6, .ref yb), (td, 14, 7, .ref ye), (td, 14, 5, .int ps)] [(yb, 190, 40, ca 1, fb), (ye, 191, 40, ca 1, fe)] [] H_10 locs_10 := ((hh.call hb_101 hb_102 hb_103 hb_104 hS_10 rfl (L1 := [(r0, 16, 71, .ref td), (td, 14, 6, .ref yb), (td, 14, 7, .ref ye), (td, 14, 5, .int ps)]) [0, 1, 2, 3] rfl rfl (M1 := [(yb, 190, 40, ca 1, fb), (ye, 191, 40, ca 1, fe)]) [0, 1] rfl rfl (I1 := []) [] rfl rfl).more hb_105)
        clear hh ht_10 hvm_10 hz_10 hk_10 hS_10 hb_101 hb_102 hb_103 hb_104 hb_105
        rw [hQ]
        exact W.iret (v := r_11) hx hb hr (fun t ht hW => ⟨⟨r_11, (), rfl, trivial, hh_10.rt (M1 := []) [] rfl ht⟩, by rw [ht]; try exact hh_10.1.1, fun q h9 hq => by rw [ht]; try exact hh_10.1.2.1 q h9 hq⟩) hh_10.1.2.2 dX14_verdict_95
      · refine lv_tableIn (off := 78) (tgt := 96) hx hb dX14_verdict_18 (by omega) (by omega) (by rw [c_3]; rfl) (by decide) ?_
        refine lv_aload_n hx hb dX14_verdict_96 rfl (lv_at hl 0 rfl) ?_
        obtain ⟨v_12, hv_12, hh_13⟩ := hh.pin (C := RX14) (T := TX14) (N := 74) hB16 rfl (by decide) hg_r0 (i := 72) (by decide) rfl
        clear hh
        obtain ⟨toldGoals_14, rfl, hg_toldGoals_14⟩ := hv_12
        refine j7_read hx hb hown hK (C := RX14) (T := TX14) (N := 74) rfl hly_16_72 hlk_154 (hh_13.at 0 rfl) dX14_verdict_97 ?_
        refine lv_iload_n hx hb dX14_verdict_100 rfl (lv_at hl 1 rfl) ?_
        refine j7_iald hx hb hK hh_13 hB101 1 rfl (by decide) hg_toldGoals_14 (x := a1.toInt) (rfl) (by omega) dX14_verdict_101 (fun z_15 (hz_15 : True) => ?_)
        rw [hQ]
        exact W.iret (v := z_15) hx hb hr (fun t ht hW => ⟨⟨z_15, (), rfl, trivial, hh_13.rt (M1 := []) [] rfl ht⟩, by rw [ht]; try exact hh_13.1.1, fun q h9 hq => by rw [ht]; try exact hh_13.1.2.1 q h9 hq⟩) hh_13.1.2.2 dX14_verdict_102
      · refine lv_tableIn (off := 85) (tgt := 103) hx hb dX14_verdict_18 (by omega) (by omega) (by rw [c_3]; rfl) (by decide) ?_
        refine lv_aload_n hx hb dX14_verdict_103 rfl (lv_at hl 0 rfl) ?_
        obtain ⟨v_16, hv_16, hh_17⟩ := hh.pin (C := RX14) (T := TX14) (N := 74) hB16 rfl (by decide) hg_r0 (i := 73) (by decide) rfl
        clear hh
        obtain ⟨toldFacts_18, rfl, hg_toldFacts_18⟩ := hv_16
        refine j7_read hx hb hown hK (C := RX14) (T := TX14) (N := 74) rfl hly_16_73 hlk_157 (hh_17.at 0 rfl) dX14_verdict_104 ?_
        refine lv_iload_n hx hb dX14_verdict_107 rfl (lv_at hl 1 rfl) ?_
        refine j7_iald hx hb hK hh_17 hB101 1 rfl (by decide) hg_toldFacts_18 (x := a1.toInt) (rfl) (by omega) dX14_verdict_108 (fun z_19 (hz_19 : True) => ?_)
        rw [hQ]
        exact W.iret (v := z_19) hx hb hr (fun t ht hW => ⟨⟨z_19, (), rfl, trivial, hh_17.rt (M1 := []) [] rfl ht⟩, by rw [ht]; try exact hh_17.1.1, fun q h9 hq => by rw [ht]; try exact hh_17.1.2.1 q h9 hq⟩) hh_17.1.2.2 dX14_verdict_109
    · skip
      have c_2' : a1.toInt ≥ ps.toInt := jb_lt_n (rfl) (rfl) c_2
      refine lv_iconst (v := (-1)) hx hb dX14_verdict_15 (by decide) ?_
      rw [hQ]
      exact W.iret (v := (-1)) hx hb hr (fun t ht hW => ⟨⟨(-1), (), rfl, trivial, hh.rt (M1 := []) [] rfl ht⟩, by rw [ht]; try exact hh.1.1, fun q h9 hq => by rw [ht]; try exact hh.1.2.1 q h9 hq⟩) hh.1.2.2 dX14_verdict_16
end
section
theorem dX14_numberOf_0 : decode cX14_numberOf 0 = .ok (.iconst 0, 1) := by decide +kernel
theorem dX14_numberOf_1 : decode cX14_numberOf 1 = .ok (.istore_n 2, 1) := by decide +kernel
theorem dX14_numberOf_2 : decode cX14_numberOf 2 = .ok (.iload_n 2, 1) := by decide +kernel
theorem dX14_numberOf_3 : decode cX14_numberOf 3 = .ok (.aload_n 0, 1) := by decide +kernel
theorem dX14_numberOf_4 : decode cX14_numberOf 4 = .ok (.getfield 505, 3) := by decide +kernel
theorem dX14_numberOf_7 : decode cX14_numberOf 7 = .ok (.if_icmp .ge 21, 3) := by decide +kernel
theorem dX14_numberOf_10 : decode cX14_numberOf 10 = .ok (.aload_n 0, 1) := by decide +kernel
theorem dX14_numberOf_11 : decode cX14_numberOf 11 = .ok (.getfield 74, 3) := by decide +kernel
theorem dX14_numberOf_14 : decode cX14_numberOf 14 = .ok (.iload_n 2, 1) := by decide +kernel
theorem dX14_numberOf_15 : decode cX14_numberOf 15 = .ok (.aaload, 1) := by decide +kernel
theorem dX14_numberOf_16 : decode cX14_numberOf 16 = .ok (.aload_n 1, 1) := by decide +kernel
theorem dX14_numberOf_17 : decode cX14_numberOf 17 = .ok (.if_acmp .ne 5, 3) := by decide +kernel
theorem dX14_numberOf_20 : decode cX14_numberOf 20 = .ok (.iload_n 2, 1) := by decide +kernel
theorem dX14_numberOf_21 : decode cX14_numberOf 21 = .ok (.ireturn, 1) := by decide +kernel
theorem dX14_numberOf_22 : decode cX14_numberOf 22 = .ok (.iinc 2 1, 3) := by decide +kernel
theorem dX14_numberOf_25 : decode cX14_numberOf 25 = .ok (.goto (-23), 3) := by decide +kernel
theorem dX14_numberOf_28 : decode cX14_numberOf 28 = .ok (.iconst (-1), 1) := by decide +kernel
theorem dX14_numberOf_29 : decode cX14_numberOf 29 = .ok (.ireturn, 1) := by decide +kernel
theorem dX14_state_0 : decode cX14_state 0 = .ok (.iload_n 1, 1) := by decide +kernel
theorem dX14_state_1 : decode cX14_state 1 = .ok (.tableswitch 152 0 12 #[67, 80, 85, 90, 95, 100, 105, 110, 115, 120, 125, 130, 141], 67) := by decide +kernel
theorem dX14_state_68 : decode cX14_state 68 = .ok (.aload_n 0, 1) := by decide +kernel
theorem dX14_state_69 : decode cX14_state 69 = .ok (.getfield 202, 3) := by decide +kernel
theorem dX14_state_72 : decode cX14_state 72 = .ok (.ifCond .eq 7, 3) := by decide +kernel
theorem dX14_state_75 : decode cX14_state 75 = .ok (.iconst 1, 1) := by decide +kernel
theorem dX14_state_76 : decode cX14_state 76 = .ok (.goto 4, 3) := by decide +kernel
theorem dX14_state_79 : decode cX14_state 79 = .ok (.iconst 0, 1) := by decide +kernel
theorem dX14_state_80 : decode cX14_state 80 = .ok (.ireturn, 1) := by decide +kernel
theorem dX14_state_81 : decode cX14_state 81 = .ok (.aload_n 0, 1) := by decide +kernel
theorem dX14_state_82 : decode cX14_state 82 = .ok (.getfield 258, 3) := by decide +kernel
theorem dX14_state_85 : decode cX14_state 85 = .ok (.ireturn, 1) := by decide +kernel
theorem dX14_state_86 : decode cX14_state 86 = .ok (.aload_n 0, 1) := by decide +kernel
theorem dX14_state_87 : decode cX14_state 87 = .ok (.getfield 264, 3) := by decide +kernel
theorem dX14_state_90 : decode cX14_state 90 = .ok (.ireturn, 1) := by decide +kernel
theorem dX14_state_91 : decode cX14_state 91 = .ok (.aload_n 0, 1) := by decide +kernel
theorem dX14_state_92 : decode cX14_state 92 = .ok (.getfield 505, 3) := by decide +kernel
theorem dX14_state_95 : decode cX14_state 95 = .ok (.ireturn, 1) := by decide +kernel
theorem dX14_state_96 : decode cX14_state 96 = .ok (.aload_n 0, 1) := by decide +kernel
theorem dX14_state_97 : decode cX14_state 97 = .ok (.getfield 711, 3) := by decide +kernel
theorem dX14_state_100 : decode cX14_state 100 = .ok (.ireturn, 1) := by decide +kernel
theorem dX14_state_101 : decode cX14_state 101 = .ok (.aload_n 0, 1) := by decide +kernel
theorem dX14_state_102 : decode cX14_state 102 = .ok (.getfield 769, 3) := by decide +kernel
theorem dX14_state_105 : decode cX14_state 105 = .ok (.ireturn, 1) := by decide +kernel
theorem dX14_state_106 : decode cX14_state 106 = .ok (.aload_n 0, 1) := by decide +kernel
theorem dX14_state_107 : decode cX14_state 107 = .ok (.getfield 799, 3) := by decide +kernel
theorem dX14_state_110 : decode cX14_state 110 = .ok (.ireturn, 1) := by decide +kernel
theorem dX14_state_111 : decode cX14_state 111 = .ok (.aload_n 0, 1) := by decide +kernel
theorem dX14_state_112 : decode cX14_state 112 = .ok (.getfield 796, 3) := by decide +kernel
theorem dX14_state_115 : decode cX14_state 115 = .ok (.ireturn, 1) := by decide +kernel
theorem dX14_state_116 : decode cX14_state 116 = .ok (.aload_n 0, 1) := by decide +kernel
theorem dX14_state_117 : decode cX14_state 117 = .ok (.getfield 214, 3) := by decide +kernel
theorem dX14_state_120 : decode cX14_state 120 = .ok (.ireturn, 1) := by decide +kernel
theorem dX14_state_121 : decode cX14_state 121 = .ok (.aload_n 0, 1) := by decide +kernel
theorem dX14_state_122 : decode cX14_state 122 = .ok (.getfield 217, 3) := by decide +kernel
theorem dX14_state_125 : decode cX14_state 125 = .ok (.ireturn, 1) := by decide +kernel
theorem dX14_state_126 : decode cX14_state 126 = .ok (.aload_n 0, 1) := by decide +kernel
theorem dX14_state_127 : decode cX14_state 127 = .ok (.getfield 211, 3) := by decide +kernel
theorem dX14_state_130 : decode cX14_state 130 = .ok (.ireturn, 1) := by decide +kernel
theorem dX14_state_131 : decode cX14_state 131 = .ok (.aload_n 0, 1) := by decide +kernel
theorem dX14_state_132 : decode cX14_state 132 = .ok (.aload_n 0, 1) := by decide +kernel
theorem dX14_state_133 : decode cX14_state 133 = .ok (.getfield 129, 3) := by decide +kernel
theorem dX14_state_136 : decode cX14_state 136 = .ok (.iconst 0, 1) := by decide +kernel
theorem dX14_state_137 : decode cX14_state 137 = .ok (.aaload, 1) := by decide +kernel
theorem dX14_state_138 : decode cX14_state 138 = .ok (.invokevirtual 811, 3) := by decide +kernel
theorem dX14_state_141 : decode cX14_state 141 = .ok (.ireturn, 1) := by decide +kernel
theorem dX14_state_142 : decode cX14_state 142 = .ok (.aload_n 0, 1) := by decide +kernel
theorem dX14_state_143 : decode cX14_state 143 = .ok (.aload_n 0, 1) := by decide +kernel
theorem dX14_state_144 : decode cX14_state 144 = .ok (.getfield 129, 3) := by decide +kernel
theorem dX14_state_147 : decode cX14_state 147 = .ok (.iconst 1, 1) := by decide +kernel
theorem dX14_state_148 : decode cX14_state 148 = .ok (.aaload, 1) := by decide +kernel
theorem dX14_state_149 : decode cX14_state 149 = .ok (.invokevirtual 811, 3) := by decide +kernel
theorem dX14_state_152 : decode cX14_state 152 = .ok (.ireturn, 1) := by decide +kernel
theorem dX14_state_153 : decode cX14_state 153 = .ok (.iconst (-1), 1) := by decide +kernel
theorem dX14_state_154 : decode cX14_state 154 = .ok (.ireturn, 1) := by decide +kernel
def EX14_numberOf : List (Nat × Nat) := []
def EX14_numberOfZ : List (Nat × Nat) := []
def EX14_state : List (Nat × Nat) := []
set_option maxHeartbeats 4000000 in
set_option maxRecDepth 20000 in
theorem uX14_numberOf (l : Launch) (dC : Nat → ClassId) (dI : Nat → Nat → Nat) (ca : Nat → ClassId) (base : Nat) (B : jF) (hB : jBok B) (hAp : jAp (dC, dI)) (hB14 : ∀ n G a H, B 14 n G a H ↔ jOb (dC, dI) 14 11 (F14 n G) a H) (hB16 : ∀ n G a H, B 16 n G a H ↔ jOb (dC, dI) 16 74 (F16 n G) a H) (hB201 : ∀ n G a H, B 201 n G a H ↔ jAq (dC, dI) (ca 4) (jQs 14 0) n G a H) (G0 : jT) (H0 : Heap) (r0 : Nat) (r1 : Nat) : Met l yX14_numberOf (jw yX14_numberOf cX14_numberOf 3 (some .int)) ({ frames := 0, cells := 0, slots := 0, locals := 0 }) (va_Pc [.ref r0, .ref r1] (fun U => U.heap = H0 ∧ jX B base G0 [] H0 ∧ jG dC dI ca base U ∧ jK2 dC dI ca U ∧ G0 r1 = some (14, 0) ∧ G0 r0 = some (16, 0) ∧ jP (dC, dI) G0 H0 [] ∧ True)) (va_Qi (S := Unit) (fun r u => (-1 ≤ r.toInt ∧ r.toInt ≤ 2)) (fun u t => jRt (dC, dI) B base G0 EX14_numberOf H0 [] t.heap) (jA base)) 0 0 (jA base) := by
  refine Met.ofW (cc := cX14_numberOf) (maxL := 3) (ret := (some .int)) (by decide) rfl ?_
  intro p e s m args below meth c s₁ Bd hml hv
  obtain ⟨rfl, hH0, hX, hG, hK2, hg_r1, hg_r0, hP0, hp0⟩ := hv
  have hK := hG.1
  have hx := Bd.exec
  have hb := Bd.bytes
  have hr := Bd.returns
  have hts := atoms_spec (ws := (jw yX14_numberOf cX14_numberOf 3 (some .int))) Bd.pre
  have htw : ∀ w ∈ jWl, w.before _ s = true := fun w h => hts w (List.mem_cons_of_mem _ h)
  have hown : s.vm.findClass RX14 = some m.cls := findClass_of_methodNamed Bd.named
  have hlocks := Bd.notSynchronized
  obtain ⟨Q, hQ⟩ : ∃ Q, Q = MQ below (va_Qi (S := Unit) (fun r u => (-1 ≤ r.toInt ∧ r.toInt ≤ 2)) (fun u t => jRt (dC, dI) B base G0 EX14_numberOf H0 [] t.heap) (jA base)) ([.ref r0, .ref r1] : List Value).toArray s 0 0 (jA base) := ⟨_, rfl⟩
  rw [← hQ]
  have hl := lv_entry ([.ref r0, .ref r1]) (n := 3) (Nat.le_of_ble_eq_true rfl)
  rw [lg_entry_eq]
  generalize (lg_sl ([.ref r0, .ref r1]) ++ List.replicate (3 - (lg_sl ([.ref r0, .ref r1])).length) Slot.unset).toArray = ls at hl ⊢
  have hl : lv_has ls 3 [(0, .ref r0), (1, .ref r1)] := hl
  generalize hR : (headSpec (jw yX14_numberOf cX14_numberOf 3 (some .int)) ({ frames := 0, cells := 0, slots := 0, locals := 0 })).room = R
  subst hH0
  have hh : jSt (dC, dI) B base G0 G0 EX14_numberOf s.heap 0 0 [] [] [] s.heap [] := jSt.start hX hP0 jMc.nil jIs.nil
  clear hX hP0
  have hkm1 : ((-1) : Int32).toInt = (-1) := by decide
  have hk0 : (0 : Int32).toInt = 0 := by decide
  have hk1 : (1 : Int32).toInt = 1 := by decide
  have hly_16_41 := htw (u_lay RX14 TX14 41) (jWc_wsX140 _ (u_in_lay (by decide)))
  have hly_16_42 := htw (u_lay RX14 TX14 42) (jWc_wsX140 _ (u_in_lay (by decide)))
  have hlk_505 := (htw (.fieldLink RX14 505 "ProofServerModel" "documentCount" "I") (jWr_57 _ (List.mem_of_getElem? (i := 5) rfl)))
  have hlk_74 := (htw (.fieldLink RX14 74 "ProofServerModel" "documents" "[LProofServerModel$Document;") (jWr_11 _ (List.mem_of_getElem? (i := 19) rfl)))
  refine lv_iconst (v := 0) hx hb dX14_numberOf_0 (by decide) ?_
  refine lv_istore_n (lv' := [(2, .int 0), (0, .ref r0), (1, .ref r1)]) hx hb dX14_numberOf_1 rfl hl (by decide) rfl (fun ls hl => ?_)
  obtain ⟨v_1, hv_1, hh_2⟩ := hh.pin (C := RX14) (T := TX14) (N := 74) hB16 rfl (by decide) hg_r0 (i := 42) (by decide) rfl
  obtain ⟨documentCount_3, rfl, hlodocumentCount_3, hhidocumentCount_3⟩ := hv_1
  have L2 : ∀ (N : Nat) (v2_4 : Int32) (H_4 : Heap) (locs_4 : List Loc), jSt (dC, dI) B base G0 G0 EX14_numberOf s.heap 0 0 [(r0, 16, 42, .int documentCount_3)] [] [] H_4 locs_4 → (0 ≤ v2_4.toInt ∧ v2_4.toInt ≤ documentCount_3.toInt) → (documentCount_3.toInt - v2_4.toInt : Int) < N → ∀ ls : Array Slot, lv_has ls 3 [(0, .ref r0), (1, .ref r1), (2, .int v2_4)] → W p l e R s m ([.ref r0, .ref r1] : List Value).toArray below meth c H_4 locs_4 0 0 Q (F0 m 2 ls []) := by
    intro N
    induction N with
    | zero => intro v2_4 H_4 locs_4 hh_4  hi_4 hm; exact absurd hm (by omega)
    | succ N L2 =>
      intro v2_4 H_4 locs_4 hh_4  hi_4 hm_4 ls hl
      obtain ⟨hi_4_0, hi_4_1⟩ := hi_4
      refine lv_iload_n hx hb dX14_numberOf_2 rfl (lv_at hl 2 rfl) ?_
      refine lv_aload_n hx hb dX14_numberOf_3 rfl (lv_at hl 0 rfl) ?_
      refine j7_read hx hb hown hK (C := RX14) (T := TX14) (N := 74) rfl hly_16_42 hlk_505 (hh_4.at 0 rfl) dX14_numberOf_4 ?_
      refine lv_icmp_ge (tgt := 28) hx hb dX14_numberOf_7 (by decide) (fun c_5 => ?_) (fun c_5 => ?_)
      · skip
        have c_5' : v2_4.toInt ≥ documentCount_3.toInt := jb_ge (rfl) (rfl) c_5
        refine lv_iconst (v := (-1)) hx hb dX14_numberOf_28 (by decide) ?_
        rw [hQ]
        exact W.iret (v := (-1)) hx hb hr (fun t ht hW => ⟨⟨(-1), (), rfl, by first | omega | (refine ⟨?_, ?_⟩ <;> (first | omega | rfl | assumption | decide | exact Or.inl rfl | exact Or.inr rfl | (simp only; omega))), hh_4.rt (M1 := []) [] rfl ht⟩, by rw [ht]; try exact hh_4.1.1, fun q h9 hq => by rw [ht]; try exact hh_4.1.2.1 q h9 hq⟩) hh_4.1.2.2 dX14_numberOf_29
      · skip
        have c_5' : v2_4.toInt < documentCount_3.toInt := jb_ge_n (rfl) (rfl) c_5
        refine lv_aload_n hx hb dX14_numberOf_10 rfl (lv_at hl 0 rfl) ?_
        obtain ⟨v_6, hv_6, hh_7⟩ := hh_4.pin (C := RX14) (T := TX14) (N := 74) hB16 rfl (by decide) hg_r0 (i := 41) (by decide) rfl
        clear hh_4
        obtain ⟨documents_8, rfl, hg_documents_8⟩ := hv_6
        refine j7_read hx hb hown hK (C := RX14) (T := TX14) (N := 74) rfl hly_16_41 hlk_74 (hh_7.at 0 rfl) dX14_numberOf_11 ?_
        refine lv_iload_n hx hb dX14_numberOf_14 rfl (lv_at hl 2 rfl) ?_
        refine j7_qald hx hb hK2 hh_7 hB201 0 rfl (by decide) hg_documents_8 (x := v2_4.toInt) (rfl) (by omega) dX14_numberOf_15 (fun o_9 ho_9 => ?_)
        obtain ⟨el_10, rfl, hg_el_10⟩ := ho_9
        simp only [va_rf]
        refine lv_aload_n hx hb dX14_numberOf_16 rfl (lv_at hl 1 rfl) ?_
        refine lv_acmp_ne (rx := (some el_10)) (ry := (some r1)) (tgt := 22) hx hb dX14_numberOf_17 (by decide) (fun c_11 => ?_) (fun c_11 => ?_)
        · skip
          obtain ⟨z_12, ez_12⟩ : ∃ y : Int32, y = v2_4 + 1 := ⟨_, rfl⟩
          refine lv_iinc (v := z_12) (lv' := [(2, .int z_12), (0, .ref r0), (1, .ref r1)]) hx hb dX14_numberOf_22 hl (k := 2) rfl (by rw [ez_12]; rfl) (by decide) rfl (fun ls hl => ?_)
          have hz_12 : z_12.toInt = v2_4.toInt + 1 := by rw [ez_12]; exact jb_iadd2 (rfl) (by decide) (by omega)
          refine lv_goto (tgt := 2) hx hb dX14_numberOf_25 (by decide) ?_
          exact L2 z_12 _ _ (hh_7.sub (L1 := [(r0, 16, 42, .int documentCount_3)]) [1] rfl (M1 := []) [] rfl (I1 := []) [] rfl) (by first | omega | (refine ⟨?_, ?_⟩ <;> (first | omega | rfl | assumption | decide | exact Or.inl rfl | exact Or.inr rfl | (simp only; omega)))) (by omega) _ (lv_sub hl [1, 2, 0] rfl)
        · skip
          refine lv_iload_n hx hb dX14_numberOf_20 rfl (lv_at hl 2 rfl) ?_
          rw [hQ]
          exact W.iret (v := v2_4) hx hb hr (fun t ht hW => ⟨⟨v2_4, (), rfl, by first | omega | (refine ⟨?_, ?_⟩ <;> (first | omega | rfl | assumption | decide | exact Or.inl rfl | exact Or.inr rfl | (simp only; omega))), hh_7.rt (M1 := []) [] rfl ht⟩, by rw [ht]; try exact hh_7.1.1, fun q h9 hq => by rw [ht]; try exact hh_7.1.2.1 q h9 hq⟩) hh_7.1.2.2 dX14_numberOf_21
  exact L2 (documentCount_3.toInt - (0 : Int32).toInt : Int).toNat.succ 0 _ _ hh_2 (by first | omega | (refine ⟨?_, ?_⟩ <;> (first | omega | rfl | assumption | decide | exact Or.inl rfl | exact Or.inr rfl | (simp only; omega)))) (by omega) _ (lv_sub hl [1, 2, 0] rfl)
set_option maxHeartbeats 4000000 in
set_option maxRecDepth 20000 in
theorem uX14_numberOfZ (l : Launch) (dC : Nat → ClassId) (dI : Nat → Nat → Nat) (ca : Nat → ClassId) (base : Nat) (B : jF) (hB : jBok B) (hAp : jAp (dC, dI)) (hB14 : ∀ n G a H, B 14 n G a H ↔ jOb (dC, dI) 14 11 (F14 n G) a H) (hB16 : ∀ n G a H, B 16 n G a H ↔ jOb (dC, dI) 16 74 (F16 n G) a H) (hB201 : ∀ n G a H, B 201 n G a H ↔ jAq (dC, dI) (ca 4) (jQs 14 0) n G a H) (G0 : jT) (H0 : Heap) (r0 : Nat) : Met l yX14_numberOf (jw yX14_numberOf cX14_numberOf 3 (some .int)) ({ frames := 0, cells := 0, slots := 0, locals := 0 }) (va_Pc [.ref r0, .null] (fun U => U.heap = H0 ∧ jX B base G0 [] H0 ∧ jG dC dI ca base U ∧ jK2 dC dI ca U ∧ G0 r0 = some (16, 0) ∧ jP (dC, dI) G0 H0 [] ∧ True)) (va_Qi (S := Unit) (fun r u => (-1 ≤ r.toInt ∧ r.toInt ≤ 2)) (fun u t => jRt (dC, dI) B base G0 EX14_numberOfZ H0 [] t.heap) (jA base)) 0 0 (jA base) := by
  refine Met.ofW (cc := cX14_numberOf) (maxL := 3) (ret := (some .int)) (by decide) rfl ?_
  intro p e s m args below meth c s₁ Bd hml hv
  obtain ⟨rfl, hH0, hX, hG, hK2, hg_r0, hP0, hp0⟩ := hv
  have hK := hG.1
  have hx := Bd.exec
  have hb := Bd.bytes
  have hr := Bd.returns
  have hts := atoms_spec (ws := (jw yX14_numberOf cX14_numberOf 3 (some .int))) Bd.pre
  have htw : ∀ w ∈ jWl, w.before _ s = true := fun w h => hts w (List.mem_cons_of_mem _ h)
  have hown : s.vm.findClass RX14 = some m.cls := findClass_of_methodNamed Bd.named
  have hlocks := Bd.notSynchronized
  obtain ⟨Q, hQ⟩ : ∃ Q, Q = MQ below (va_Qi (S := Unit) (fun r u => (-1 ≤ r.toInt ∧ r.toInt ≤ 2)) (fun u t => jRt (dC, dI) B base G0 EX14_numberOfZ H0 [] t.heap) (jA base)) ([.ref r0, .null] : List Value).toArray s 0 0 (jA base) := ⟨_, rfl⟩
  rw [← hQ]
  have hl := lv_entry ([.ref r0, .null]) (n := 3) (Nat.le_of_ble_eq_true rfl)
  rw [lg_entry_eq]
  generalize (lg_sl ([.ref r0, .null]) ++ List.replicate (3 - (lg_sl ([.ref r0, .null])).length) Slot.unset).toArray = ls at hl ⊢
  have hl : lv_has ls 3 [(0, .ref r0), (1, .null)] := hl
  generalize hR : (headSpec (jw yX14_numberOf cX14_numberOf 3 (some .int)) ({ frames := 0, cells := 0, slots := 0, locals := 0 })).room = R
  subst hH0
  have hh : jSt (dC, dI) B base G0 G0 EX14_numberOfZ s.heap 0 0 [] [] [] s.heap [] := jSt.start hX hP0 jMc.nil jIs.nil
  clear hX hP0
  have hkm1 : ((-1) : Int32).toInt = (-1) := by decide
  have hk0 : (0 : Int32).toInt = 0 := by decide
  have hk1 : (1 : Int32).toInt = 1 := by decide
  have hly_16_41 := htw (u_lay RX14 TX14 41) (jWc_wsX140 _ (u_in_lay (by decide)))
  have hly_16_42 := htw (u_lay RX14 TX14 42) (jWc_wsX140 _ (u_in_lay (by decide)))
  have hlk_505 := (htw (.fieldLink RX14 505 "ProofServerModel" "documentCount" "I") (jWr_57 _ (List.mem_of_getElem? (i := 5) rfl)))
  have hlk_74 := (htw (.fieldLink RX14 74 "ProofServerModel" "documents" "[LProofServerModel$Document;") (jWr_11 _ (List.mem_of_getElem? (i := 19) rfl)))
  refine lv_iconst (v := 0) hx hb dX14_numberOf_0 (by decide) ?_
  refine lv_istore_n (lv' := [(2, .int 0), (0, .ref r0), (1, .null)]) hx hb dX14_numberOf_1 rfl hl (by decide) rfl (fun ls hl => ?_)
  obtain ⟨v_1, hv_1, hh_2⟩ := hh.pin (C := RX14) (T := TX14) (N := 74) hB16 rfl (by decide) hg_r0 (i := 42) (by decide) rfl
  obtain ⟨documentCount_3, rfl, hlodocumentCount_3, hhidocumentCount_3⟩ := hv_1
  have L2 : ∀ (N : Nat) (v2_4 : Int32) (H_4 : Heap) (locs_4 : List Loc), jSt (dC, dI) B base G0 G0 EX14_numberOfZ s.heap 0 0 [(r0, 16, 42, .int documentCount_3)] [] [] H_4 locs_4 → (0 ≤ v2_4.toInt ∧ v2_4.toInt ≤ documentCount_3.toInt) → (documentCount_3.toInt - v2_4.toInt : Int) < N → ∀ ls : Array Slot, lv_has ls 3 [(0, .ref r0), (1, .null), (2, .int v2_4)] → W p l e R s m ([.ref r0, .null] : List Value).toArray below meth c H_4 locs_4 0 0 Q (F0 m 2 ls []) := by
    intro N
    induction N with
    | zero => intro v2_4 H_4 locs_4 hh_4  hi_4 hm; exact absurd hm (by omega)
    | succ N L2 =>
      intro v2_4 H_4 locs_4 hh_4  hi_4 hm_4 ls hl
      obtain ⟨hi_4_0, hi_4_1⟩ := hi_4
      refine lv_iload_n hx hb dX14_numberOf_2 rfl (lv_at hl 2 rfl) ?_
      refine lv_aload_n hx hb dX14_numberOf_3 rfl (lv_at hl 0 rfl) ?_
      refine j7_read hx hb hown hK (C := RX14) (T := TX14) (N := 74) rfl hly_16_42 hlk_505 (hh_4.at 0 rfl) dX14_numberOf_4 ?_
      refine lv_icmp_ge (tgt := 28) hx hb dX14_numberOf_7 (by decide) (fun c_5 => ?_) (fun c_5 => ?_)
      · skip
        have c_5' : v2_4.toInt ≥ documentCount_3.toInt := jb_ge (rfl) (rfl) c_5
        refine lv_iconst (v := (-1)) hx hb dX14_numberOf_28 (by decide) ?_
        rw [hQ]
        exact W.iret (v := (-1)) hx hb hr (fun t ht hW => ⟨⟨(-1), (), rfl, by first | omega | (refine ⟨?_, ?_⟩ <;> (first | omega | rfl | assumption | decide | exact Or.inl rfl | exact Or.inr rfl | (simp only; omega))), hh_4.rt (M1 := []) [] rfl ht⟩, by rw [ht]; try exact hh_4.1.1, fun q h9 hq => by rw [ht]; try exact hh_4.1.2.1 q h9 hq⟩) hh_4.1.2.2 dX14_numberOf_29
      · skip
        have c_5' : v2_4.toInt < documentCount_3.toInt := jb_ge_n (rfl) (rfl) c_5
        refine lv_aload_n hx hb dX14_numberOf_10 rfl (lv_at hl 0 rfl) ?_
        obtain ⟨v_6, hv_6, hh_7⟩ := hh_4.pin (C := RX14) (T := TX14) (N := 74) hB16 rfl (by decide) hg_r0 (i := 41) (by decide) rfl
        clear hh_4
        obtain ⟨documents_8, rfl, hg_documents_8⟩ := hv_6
        refine j7_read hx hb hown hK (C := RX14) (T := TX14) (N := 74) rfl hly_16_41 hlk_74 (hh_7.at 0 rfl) dX14_numberOf_11 ?_
        refine lv_iload_n hx hb dX14_numberOf_14 rfl (lv_at hl 2 rfl) ?_
        refine j7_qald hx hb hK2 hh_7 hB201 0 rfl (by decide) hg_documents_8 (x := v2_4.toInt) (rfl) (by omega) dX14_numberOf_15 (fun o_9 ho_9 => ?_)
        obtain ⟨el_10, rfl, hg_el_10⟩ := ho_9
        simp only [va_rf]
        refine j7_nld_n hx hb dX14_numberOf_16 rfl (lv_at hl 1 rfl) ?_
        refine lv_acmp_ne (rx := (some el_10)) (ry := none) (tgt := 22) hx hb dX14_numberOf_17 (by decide) (fun c_11 => ?_) (fun c_11 => ?_)
        · skip
          obtain ⟨z_12, ez_12⟩ : ∃ y : Int32, y = v2_4 + 1 := ⟨_, rfl⟩
          refine lv_iinc (v := z_12) (lv' := [(2, .int z_12), (0, .ref r0), (1, .null)]) hx hb dX14_numberOf_22 hl (k := 2) rfl (by rw [ez_12]; rfl) (by decide) rfl (fun ls hl => ?_)
          have hz_12 : z_12.toInt = v2_4.toInt + 1 := by rw [ez_12]; exact jb_iadd2 (rfl) (by decide) (by omega)
          refine lv_goto (tgt := 2) hx hb dX14_numberOf_25 (by decide) ?_
          exact L2 z_12 _ _ (hh_7.sub (L1 := [(r0, 16, 42, .int documentCount_3)]) [1] rfl (M1 := []) [] rfl (I1 := []) [] rfl) (by first | omega | (refine ⟨?_, ?_⟩ <;> (first | omega | rfl | assumption | decide | exact Or.inl rfl | exact Or.inr rfl | (simp only; omega)))) (by omega) _ (lv_sub hl [1, 2, 0] rfl)
        · skip
          cases c_11
  exact L2 (documentCount_3.toInt - (0 : Int32).toInt : Int).toNat.succ 0 _ _ hh_2 (by first | omega | (refine ⟨?_, ?_⟩ <;> (first | omega | rfl | assumption | decide | exact Or.inl rfl | exact Or.inr rfl | (simp only; omega)))) (by omega) _ (lv_sub hl [1, 2, 0] rfl)
set_option maxHeartbeats 4000000 in
set_option maxRecDepth 20000 in
theorem uX14_state (l : Launch) (dC : Nat → ClassId) (dI : Nat → Nat → Nat) (ca : Nat → ClassId) (base : Nat) (B : jF) (hB : jBok B) (hAp : jAp (dC, dI)) (hB14 : ∀ n G a H, B 14 n G a H ↔ jOb (dC, dI) 14 11 (F14 n G) a H) (hB16 : ∀ n G a H, B 16 n G a H ↔ jOb (dC, dI) 16 74 (F16 n G) a H) (hB201 : ∀ n G a H, B 201 n G a H ↔ jAq (dC, dI) (ca 4) (jQs 14 0) n G a H) (hB208 : ∀ n G a H, B 208 n G a H ↔ jAq (dC, dI) (ca 4) (jQn 14 0) n G a H) (G0 : jT) (H0 : Heap) (r0 : Nat) (a1 : Int32) : Met l yX14_state (jw yX14_state cX14_state 2 (some .int)) ({ frames := 1, cells := 0, slots := 0, locals := 22 }) (va_Pc [.ref r0, .int a1] (fun U => U.heap = H0 ∧ jX B base G0 [] H0 ∧ jG dC dI ca base U ∧ jK2 dC dI ca U ∧ G0 r0 = some (16, 0) ∧ jP (dC, dI) G0 H0 [] ∧ True)) (va_Qi (S := Unit) (fun r u => (True)) (fun u t => jRt (dC, dI) B base G0 EX14_state H0 [] t.heap) (jA base)) 0 0 (jA base) := by
  refine Met.ofW (cc := cX14_state) (maxL := 2) (ret := (some .int)) (by decide) rfl ?_
  intro p e s m args below meth c s₁ Bd hml hv
  obtain ⟨rfl, hH0, hX, hG, hK2, hg_r0, hP0, hp0⟩ := hv
  have hK := hG.1
  have hx := Bd.exec
  have hb := Bd.bytes
  have hr := Bd.returns
  have hts := atoms_spec (ws := (jw yX14_state cX14_state 2 (some .int))) Bd.pre
  have htw : ∀ w ∈ jWl, w.before _ s = true := fun w h => hts w (List.mem_cons_of_mem _ h)
  have hown : s.vm.findClass RX14 = some m.cls := findClass_of_methodNamed Bd.named
  have hlocks := Bd.notSynchronized
  obtain ⟨Q, hQ⟩ : ∃ Q, Q = MQ below (va_Qi (S := Unit) (fun r u => (True)) (fun u t => jRt (dC, dI) B base G0 EX14_state H0 [] t.heap) (jA base)) ([.ref r0, .int a1] : List Value).toArray s 0 0 (jA base) := ⟨_, rfl⟩
  rw [← hQ]
  have hl := lv_entry ([.ref r0, .int a1]) (n := 2) (Nat.le_of_ble_eq_true rfl)
  rw [lg_entry_eq]
  generalize (lg_sl ([.ref r0, .int a1]) ++ List.replicate (2 - (lg_sl ([.ref r0, .int a1])).length) Slot.unset).toArray = ls at hl ⊢
  have hl : lv_has ls 2 [(0, .ref r0), (1, .int a1)] := hl
  generalize hR : (headSpec (jw yX14_state cX14_state 2 (some .int)) ({ frames := 1, cells := 0, slots := 0, locals := 22 })).room = R
  subst hH0
  have hh : jSt (dC, dI) B base G0 G0 EX14_state s.heap 0 0 [] [] [] s.heap [] := jSt.start hX hP0 jMc.nil jIs.nil
  clear hX hP0
  have hkm1 : ((-1) : Int32).toInt = (-1) := by decide
  have hk0 : (0 : Int32).toInt = 0 := by decide
  have hk1 : (1 : Int32).toInt = 1 := by decide
  have hly_16_1 := htw (u_lay RX14 TX14 1) (jWc_wsX140 _ (u_in_lay (by decide)))
  have hly_16_3 := htw (u_lay RX14 TX14 3) (jWc_wsX140 _ (u_in_lay (by decide)))
  have hly_16_4 := htw (u_lay RX14 TX14 4) (jWc_wsX140 _ (u_in_lay (by decide)))
  have hly_16_7 := htw (u_lay RX14 TX14 7) (jWc_wsX140 _ (u_in_lay (by decide)))
  have hly_16_8 := htw (u_lay RX14 TX14 8) (jWc_wsX140 _ (u_in_lay (by decide)))
  have hly_16_10 := htw (u_lay RX14 TX14 10) (jWc_wsX140 _ (u_in_lay (by decide)))
  have hly_16_42 := htw (u_lay RX14 TX14 42) (jWc_wsX140 _ (u_in_lay (by decide)))
  have hly_16_48 := htw (u_lay RX14 TX14 48) (jWc_wsX140 _ (u_in_lay (by decide)))
  have hly_16_60 := htw (u_lay RX14 TX14 60) (jWc_wsX140 _ (u_in_lay (by decide)))
  have hly_16_64 := htw (u_lay RX14 TX14 64) (jWc_wsX140 _ (u_in_lay (by decide)))
  have hly_16_65 := htw (u_lay RX14 TX14 65) (jWc_wsX140 _ (u_in_lay (by decide)))
  have hly_16_66 := htw (u_lay RX14 TX14 66) (jWc_wsX140 _ (u_in_lay (by decide)))
  have hlk_202 := (htw (.fieldLink RX14 202 "ProofServerModel" "broken" "Z") (jWr_44 _ (List.mem_of_getElem? (i := 9) rfl)))
  have hlk_258 := (htw (.fieldLink RX14 258 "ProofServerModel" "keptBytes" "I") (jWr_44 _ (List.mem_of_getElem? (i := 16) rfl)))
  have hlk_264 := (htw (.fieldLink RX14 264 "ProofServerModel" "messages" "I") (jWr_44 _ (List.mem_of_getElem? (i := 19) rfl)))
  have hlk_505 := (htw (.fieldLink RX14 505 "ProofServerModel" "documentCount" "I") (jWr_57 _ (List.mem_of_getElem? (i := 5) rfl)))
  have hlk_711 := (htw (.fieldLink RX14 711 "ProofServerModel" "waits" "I") (jWr_58 _ (List.mem_of_getElem? (i := 11) rfl)))
  have hlk_769 := (htw (.fieldLink RX14 769 "ProofServerModel" "cached" "I") (jWr_90 _ (List.mem_of_getElem? (i := 22) rfl)))
  have hlk_799 := (htw (.fieldLink RX14 799 "ProofServerModel" "steps" "I") (jWr_90 _ (List.mem_of_getElem? (i := 8) rfl)))
  have hlk_796 := (htw (.fieldLink RX14 796 "ProofServerModel" "cachedChecks" "I") (jWr_91 _ (List.mem_of_getElem? (i := 11) rfl)))
  have hlk_214 := (htw (.fieldLink RX14 214 "ProofServerModel" "lost" "I") (jWr_55 _ (List.mem_of_getElem? (i := 14) rfl)))
  have hlk_217 := (htw (.fieldLink RX14 217 "ProofServerModel" "taped" "I") (jWr_17 _ (List.mem_of_getElem? (i := 2) rfl)))
  have hlk_211 := (htw (.fieldLink RX14 211 "ProofServerModel" "outs" "I") (jWr_44 _ (List.mem_of_getElem? (i := 10) rfl)))
  have hlk_129 := (htw (.fieldLink RX14 129 "ProofServerModel" "checkOf" "[LProofServerModel$Document;") (jWr_12 _ (List.mem_of_getElem? (i := 15) rfl)))
  have hrg_a1 := jb_rng a1
  refine lv_iload_n hx hb dX14_state_0 rfl (lv_at hl 1 rfl) ?_
  rcases (by omega : (a1.toInt < 0 ∨ 12 < a1.toInt) ∨ a1.toInt = 0 ∨ a1.toInt = 1 ∨ a1.toInt = 2 ∨ a1.toInt = 3 ∨ a1.toInt = 4 ∨ a1.toInt = 5 ∨ a1.toInt = 6 ∨ a1.toInt = 7 ∨ a1.toInt = 8 ∨ a1.toInt = 9 ∨ a1.toInt = 10 ∨ a1.toInt = 11 ∨ a1.toInt = 12) with c_1 | c_1 | c_1 | c_1 | c_1 | c_1 | c_1 | c_1 | c_1 | c_1 | c_1 | c_1 | c_1 | c_1
  · refine lv_tableOut (tgt := 153) hx hb dX14_state_1 c_1 (by decide) ?_
    refine lv_iconst (v := (-1)) hx hb dX14_state_153 (by decide) ?_
    rw [hQ]
    exact W.iret (v := (-1)) hx hb hr (fun t ht hW => ⟨⟨(-1), (), rfl, trivial, hh.rt (M1 := []) [] rfl ht⟩, by rw [ht]; try exact hh.1.1, fun q h9 hq => by rw [ht]; try exact hh.1.2.1 q h9 hq⟩) hh.1.2.2 dX14_state_154
  · refine lv_tableIn (off := 67) (tgt := 68) hx hb dX14_state_1 (by omega) (by omega) (by rw [c_1]; rfl) (by decide) ?_
    refine lv_aload_n hx hb dX14_state_68 rfl (lv_at hl 0 rfl) ?_
    obtain ⟨v_2, hv_2, hh_3⟩ := hh.pin (C := RX14) (T := TX14) (N := 74) hB16 rfl (by decide) hg_r0 (i := 7) (by decide) rfl
    clear hh
    obtain ⟨broken_4, rfl, hzbroken_4⟩ := hv_2
    have hzbroken_4' := jb_01 hzbroken_4
    refine j7_read hx hb hown hK (C := RX14) (T := TX14) (N := 74) rfl hly_16_7 hlk_202 (hh_3.at 0 rfl) dX14_state_69 ?_
    refine lv_if_eq (tgt := 79) hx hb dX14_state_72 (by decide) (fun c_5 => ?_) (fun c_5 => ?_)
    · skip
      have c_5' : broken_4.toInt = 0 := jb_eq (rfl) ((by decide)) c_5
      refine lv_iconst (v := 0) hx hb dX14_state_79 (by decide) ?_
      rw [hQ]
      exact W.iret (v := 0) hx hb hr (fun t ht hW => ⟨⟨0, (), rfl, trivial, hh_3.rt (M1 := []) [] rfl ht⟩, by rw [ht]; try exact hh_3.1.1, fun q h9 hq => by rw [ht]; try exact hh_3.1.2.1 q h9 hq⟩) hh_3.1.2.2 dX14_state_80
    · skip
      have c_5' : broken_4.toInt ≠ 0 := jb_eq_n (rfl) ((by decide)) c_5
      refine lv_iconst (v := 1) hx hb dX14_state_75 (by decide) ?_
      refine lv_goto (tgt := 80) hx hb dX14_state_76 (by decide) ?_
      rw [hQ]
      exact W.iret (v := 1) hx hb hr (fun t ht hW => ⟨⟨1, (), rfl, trivial, hh_3.rt (M1 := []) [] rfl ht⟩, by rw [ht]; try exact hh_3.1.1, fun q h9 hq => by rw [ht]; try exact hh_3.1.2.1 q h9 hq⟩) hh_3.1.2.2 dX14_state_80
  · refine lv_tableIn (off := 80) (tgt := 81) hx hb dX14_state_1 (by omega) (by omega) (by rw [c_1]; rfl) (by decide) ?_
    refine lv_aload_n hx hb dX14_state_81 rfl (lv_at hl 0 rfl) ?_
    obtain ⟨v_6, hv_6, hh_7⟩ := hh.pin (C := RX14) (T := TX14) (N := 74) hB16 rfl (by decide) hg_r0 (i := 10) (by decide) rfl
    clear hh
    obtain ⟨keptBytes_8, rfl⟩ := hv_6
    refine j7_read hx hb hown hK (C := RX14) (T := TX14) (N := 74) rfl hly_16_10 hlk_258 (hh_7.at 0 rfl) dX14_state_82 ?_
    rw [hQ]
    exact W.iret (v := keptBytes_8) hx hb hr (fun t ht hW => ⟨⟨keptBytes_8, (), rfl, trivial, hh_7.rt (M1 := []) [] rfl ht⟩, by rw [ht]; try exact hh_7.1.1, fun q h9 hq => by rw [ht]; try exact hh_7.1.2.1 q h9 hq⟩) hh_7.1.2.2 dX14_state_85
  · refine lv_tableIn (off := 85) (tgt := 86) hx hb dX14_state_1 (by omega) (by omega) (by rw [c_1]; rfl) (by decide) ?_
    refine lv_aload_n hx hb dX14_state_86 rfl (lv_at hl 0 rfl) ?_
    obtain ⟨v_9, hv_9, hh_10⟩ := hh.pin (C := RX14) (T := TX14) (N := 74) hB16 rfl (by decide) hg_r0 (i := 8) (by decide) rfl
    clear hh
    obtain ⟨messages_11, rfl⟩ := hv_9
    refine j7_read hx hb hown hK (C := RX14) (T := TX14) (N := 74) rfl hly_16_8 hlk_264 (hh_10.at 0 rfl) dX14_state_87 ?_
    rw [hQ]
    exact W.iret (v := messages_11) hx hb hr (fun t ht hW => ⟨⟨messages_11, (), rfl, trivial, hh_10.rt (M1 := []) [] rfl ht⟩, by rw [ht]; try exact hh_10.1.1, fun q h9 hq => by rw [ht]; try exact hh_10.1.2.1 q h9 hq⟩) hh_10.1.2.2 dX14_state_90
  · refine lv_tableIn (off := 90) (tgt := 91) hx hb dX14_state_1 (by omega) (by omega) (by rw [c_1]; rfl) (by decide) ?_
    refine lv_aload_n hx hb dX14_state_91 rfl (lv_at hl 0 rfl) ?_
    obtain ⟨v_12, hv_12, hh_13⟩ := hh.pin (C := RX14) (T := TX14) (N := 74) hB16 rfl (by decide) hg_r0 (i := 42) (by decide) rfl
    clear hh
    obtain ⟨documentCount_14, rfl, hlodocumentCount_14, hhidocumentCount_14⟩ := hv_12
    refine j7_read hx hb hown hK (C := RX14) (T := TX14) (N := 74) rfl hly_16_42 hlk_505 (hh_13.at 0 rfl) dX14_state_92 ?_
    rw [hQ]
    exact W.iret (v := documentCount_14) hx hb hr (fun t ht hW => ⟨⟨documentCount_14, (), rfl, trivial, hh_13.rt (M1 := []) [] rfl ht⟩, by rw [ht]; try exact hh_13.1.1, fun q h9 hq => by rw [ht]; try exact hh_13.1.2.1 q h9 hq⟩) hh_13.1.2.2 dX14_state_95
  · refine lv_tableIn (off := 95) (tgt := 96) hx hb dX14_state_1 (by omega) (by omega) (by rw [c_1]; rfl) (by decide) ?_
    refine lv_aload_n hx hb dX14_state_96 rfl (lv_at hl 0 rfl) ?_
    obtain ⟨v_15, hv_15, hh_16⟩ := hh.pin (C := RX14) (T := TX14) (N := 74) hB16 rfl (by decide) hg_r0 (i := 48) (by decide) rfl
    clear hh
    obtain ⟨waits_17, rfl, hlowaits_17, hhiwaits_17⟩ := hv_15
    refine j7_read hx hb hown hK (C := RX14) (T := TX14) (N := 74) rfl hly_16_48 hlk_711 (hh_16.at 0 rfl) dX14_state_97 ?_
    rw [hQ]
    exact W.iret (v := waits_17) hx hb hr (fun t ht hW => ⟨⟨waits_17, (), rfl, trivial, hh_16.rt (M1 := []) [] rfl ht⟩, by rw [ht]; try exact hh_16.1.1, fun q h9 hq => by rw [ht]; try exact hh_16.1.2.1 q h9 hq⟩) hh_16.1.2.2 dX14_state_100
  · refine lv_tableIn (off := 100) (tgt := 101) hx hb dX14_state_1 (by omega) (by omega) (by rw [c_1]; rfl) (by decide) ?_
    refine lv_aload_n hx hb dX14_state_101 rfl (lv_at hl 0 rfl) ?_
    obtain ⟨v_18, hv_18, hh_19⟩ := hh.pin (C := RX14) (T := TX14) (N := 74) hB16 rfl (by decide) hg_r0 (i := 66) (by decide) rfl
    clear hh
    obtain ⟨cached_20, rfl, hlocached_20, hhicached_20⟩ := hv_18
    refine j7_read hx hb hown hK (C := RX14) (T := TX14) (N := 74) rfl hly_16_66 hlk_769 (hh_19.at 0 rfl) dX14_state_102 ?_
    rw [hQ]
    exact W.iret (v := cached_20) hx hb hr (fun t ht hW => ⟨⟨cached_20, (), rfl, trivial, hh_19.rt (M1 := []) [] rfl ht⟩, by rw [ht]; try exact hh_19.1.1, fun q h9 hq => by rw [ht]; try exact hh_19.1.2.1 q h9 hq⟩) hh_19.1.2.2 dX14_state_105
  · refine lv_tableIn (off := 105) (tgt := 106) hx hb dX14_state_1 (by omega) (by omega) (by rw [c_1]; rfl) (by decide) ?_
    refine lv_aload_n hx hb dX14_state_106 rfl (lv_at hl 0 rfl) ?_
    obtain ⟨v_21, hv_21, hh_22⟩ := hh.pin (C := RX14) (T := TX14) (N := 74) hB16 rfl (by decide) hg_r0 (i := 64) (by decide) rfl
    clear hh
    obtain ⟨steps_23, rfl⟩ := hv_21
    refine j7_read hx hb hown hK (C := RX14) (T := TX14) (N := 74) rfl hly_16_64 hlk_799 (hh_22.at 0 rfl) dX14_state_107 ?_
    rw [hQ]
    exact W.iret (v := steps_23) hx hb hr (fun t ht hW => ⟨⟨steps_23, (), rfl, trivial, hh_22.rt (M1 := []) [] rfl ht⟩, by rw [ht]; try exact hh_22.1.1, fun q h9 hq => by rw [ht]; try exact hh_22.1.2.1 q h9 hq⟩) hh_22.1.2.2 dX14_state_110
  · refine lv_tableIn (off := 110) (tgt := 111) hx hb dX14_state_1 (by omega) (by omega) (by rw [c_1]; rfl) (by decide) ?_
    refine lv_aload_n hx hb dX14_state_111 rfl (lv_at hl 0 rfl) ?_
    obtain ⟨v_24, hv_24, hh_25⟩ := hh.pin (C := RX14) (T := TX14) (N := 74) hB16 rfl (by decide) hg_r0 (i := 65) (by decide) rfl
    clear hh
    obtain ⟨cachedChecks_26, rfl⟩ := hv_24
    refine j7_read hx hb hown hK (C := RX14) (T := TX14) (N := 74) rfl hly_16_65 hlk_796 (hh_25.at 0 rfl) dX14_state_112 ?_
    rw [hQ]
    exact W.iret (v := cachedChecks_26) hx hb hr (fun t ht hW => ⟨⟨cachedChecks_26, (), rfl, trivial, hh_25.rt (M1 := []) [] rfl ht⟩, by rw [ht]; try exact hh_25.1.1, fun q h9 hq => by rw [ht]; try exact hh_25.1.2.1 q h9 hq⟩) hh_25.1.2.2 dX14_state_115
  · refine lv_tableIn (off := 115) (tgt := 116) hx hb dX14_state_1 (by omega) (by omega) (by rw [c_1]; rfl) (by decide) ?_
    refine lv_aload_n hx hb dX14_state_116 rfl (lv_at hl 0 rfl) ?_
    obtain ⟨v_27, hv_27, hh_28⟩ := hh.pin (C := RX14) (T := TX14) (N := 74) hB16 rfl (by decide) hg_r0 (i := 4) (by decide) rfl
    clear hh
    obtain ⟨lost_29, rfl⟩ := hv_27
    refine j7_read hx hb hown hK (C := RX14) (T := TX14) (N := 74) rfl hly_16_4 hlk_214 (hh_28.at 0 rfl) dX14_state_117 ?_
    rw [hQ]
    exact W.iret (v := lost_29) hx hb hr (fun t ht hW => ⟨⟨lost_29, (), rfl, trivial, hh_28.rt (M1 := []) [] rfl ht⟩, by rw [ht]; try exact hh_28.1.1, fun q h9 hq => by rw [ht]; try exact hh_28.1.2.1 q h9 hq⟩) hh_28.1.2.2 dX14_state_120
  · refine lv_tableIn (off := 120) (tgt := 121) hx hb dX14_state_1 (by omega) (by omega) (by rw [c_1]; rfl) (by decide) ?_
    refine lv_aload_n hx hb dX14_state_121 rfl (lv_at hl 0 rfl) ?_
    obtain ⟨v_30, hv_30, hh_31⟩ := hh.pin (C := RX14) (T := TX14) (N := 74) hB16 rfl (by decide) hg_r0 (i := 1) (by decide) rfl
    clear hh
    obtain ⟨taped_32, rfl, hlotaped_32, hhitaped_32⟩ := hv_30
    refine j7_read hx hb hown hK (C := RX14) (T := TX14) (N := 74) rfl hly_16_1 hlk_217 (hh_31.at 0 rfl) dX14_state_122 ?_
    rw [hQ]
    exact W.iret (v := taped_32) hx hb hr (fun t ht hW => ⟨⟨taped_32, (), rfl, trivial, hh_31.rt (M1 := []) [] rfl ht⟩, by rw [ht]; try exact hh_31.1.1, fun q h9 hq => by rw [ht]; try exact hh_31.1.2.1 q h9 hq⟩) hh_31.1.2.2 dX14_state_125
  · refine lv_tableIn (off := 125) (tgt := 126) hx hb dX14_state_1 (by omega) (by omega) (by rw [c_1]; rfl) (by decide) ?_
    refine lv_aload_n hx hb dX14_state_126 rfl (lv_at hl 0 rfl) ?_
    obtain ⟨v_33, hv_33, hh_34⟩ := hh.pin (C := RX14) (T := TX14) (N := 74) hB16 rfl (by decide) hg_r0 (i := 3) (by decide) rfl
    clear hh
    obtain ⟨outs_35, rfl, hloouts_35, hhiouts_35⟩ := hv_33
    refine j7_read hx hb hown hK (C := RX14) (T := TX14) (N := 74) rfl hly_16_3 hlk_211 (hh_34.at 0 rfl) dX14_state_127 ?_
    rw [hQ]
    exact W.iret (v := outs_35) hx hb hr (fun t ht hW => ⟨⟨outs_35, (), rfl, trivial, hh_34.rt (M1 := []) [] rfl ht⟩, by rw [ht]; try exact hh_34.1.1, fun q h9 hq => by rw [ht]; try exact hh_34.1.2.1 q h9 hq⟩) hh_34.1.2.2 dX14_state_130
  · refine lv_tableIn (off := 130) (tgt := 131) hx hb dX14_state_1 (by omega) (by omega) (by rw [c_1]; rfl) (by decide) ?_
    refine lv_aload_n hx hb dX14_state_131 rfl (lv_at hl 0 rfl) ?_
    refine lv_aload_n hx hb dX14_state_132 rfl (lv_at hl 0 rfl) ?_
    obtain ⟨v_36, hv_36, hh_37⟩ := hh.pin (C := RX14) (T := TX14) (N := 74) hB16 rfl (by decide) hg_r0 (i := 60) (by decide) rfl
    clear hh
    obtain ⟨checkOf_38, rfl, hg_checkOf_38⟩ := hv_36
    refine j7_read hx hb hown hK (C := RX14) (T := TX14) (N := 74) rfl hly_16_60 hlk_129 (hh_37.at 0 rfl) dX14_state_133 ?_
    refine lv_iconst (v := 0) hx hb dX14_state_136 (by decide) ?_
    refine j7_qald hx hb hK2 hh_37 hB208 0 rfl (by decide) hg_checkOf_38 (x := 0) ((by decide)) (by omega) dX14_state_137 (fun o_39 ho_39 => ?_)
    rcases ho_39 with rfl | ⟨el_40, rfl, hg_el_40⟩
    · simp only [va_rf]
      refine va_calli (A0 := jA base) (H0 := s.heap) (va_runV (As := [.null]) (rest := []) ⟨hx, hb, hml, hown, hts⟩ (uX14_numberOfZ l dC dI ca base B hB hAp hB14 hB16 hB201 G0 s.heap r0) (cwV 1 hts (jgV (jWr_92 _ (List.mem_of_getElem? (i := 2) rfl)) (jWr_92 _ (List.mem_of_getElem? (i := 3) rfl)) (jWr_92 _ (List.mem_of_getElem? (i := 4) rfl)) (jWr_1 _ (List.mem_of_getElem? (i := 5) rfl)) (jWr_92 _ (List.mem_of_getElem? (i := 5) rfl))) rfl rfl rfl (by decide +kernel) ⟨by rw [← hR]; exact Nat.le_of_ble_eq_true rfl, by rw [← hR]; exact Nat.le_of_ble_eq_true rfl⟩) ⟨fun a U g mk q => by obtain ⟨q0, q1, q2, qK, q10, q11, q12, q13⟩ := q; exact ⟨q0, q1, q2, jG.calling g mk a qK, (va_K.moved (Vm.Alike.refl U.vm) q10), q11, q12, q13⟩, hh_37.recv (C := RX14) (T := TX14) (N := 74) hB16 rfl (by decide) hg_r0 hK, fun U hU hW => ⟨rfl, hU, hh_37.2.1, hG.step hW hU hh_37.1, va_K.moved hW.alike hK2, hg_r0, jP.nil, trivial⟩⟩ rfl rfl hl.1 rfl (lv_room (Nat.le_of_ble_eq_true rfl)) dX14_state_138 ⟨Nat.zero_le _, Nat.zero_le _⟩) hh_37.1 (fun q _ h => h) (fun q h => h) (fun r_42 u_41 t_41 H_41 locs_41 ht_41 hvm_41 hr_42 hb_41 hz_41 hk_41 hS_41 => ?_)
      rw [ht_41] at hb_41
      obtain ⟨hb_411, hb_412, hb_413, hb_414, hb_415⟩ := hb_41
      have hh_41 : jSt (dC, dI) B base G0 G0 EX14_state s.heap 0 0 [(r0, 16, 60, .ref checkOf_38)] [] [] H_41 locs_41 := ((hh_37.call hb_411 hb_412 hb_413 hb_414 hS_41 rfl (L1 := [(r0, 16, 60, .ref checkOf_38)]) [0] rfl rfl (M1 := []) [] rfl rfl (I1 := []) [] rfl rfl).more hb_415)
      clear hh_37 ht_41 hvm_41 hz_41 hk_41 hS_41 hb_411 hb_412 hb_413 hb_414 hb_415
      obtain ⟨hr_42_0, hr_42_1⟩ := hr_42
      rw [hQ]
      exact W.iret (v := r_42) hx hb hr (fun t ht hW => ⟨⟨r_42, (), rfl, trivial, hh_41.rt (M1 := []) [] rfl ht⟩, by rw [ht]; try exact hh_41.1.1, fun q h9 hq => by rw [ht]; try exact hh_41.1.2.1 q h9 hq⟩) hh_41.1.2.2 dX14_state_141
    · simp only [va_rf]
      refine va_calli (A0 := jA base) (H0 := s.heap) (va_runV (As := [.ref el_40]) (rest := []) ⟨hx, hb, hml, hown, hts⟩ (uX14_numberOf l dC dI ca base B hB hAp hB14 hB16 hB201 G0 s.heap r0 el_40) (cwV 1 hts (jgV (jWr_92 _ (List.mem_of_getElem? (i := 2) rfl)) (jWr_92 _ (List.mem_of_getElem? (i := 3) rfl)) (jWr_92 _ (List.mem_of_getElem? (i := 4) rfl)) (jWr_1 _ (List.mem_of_getElem? (i := 5) rfl)) (jWr_92 _ (List.mem_of_getElem? (i := 5) rfl))) rfl rfl rfl (by decide +kernel) ⟨by rw [← hR]; exact Nat.le_of_ble_eq_true rfl, by rw [← hR]; exact Nat.le_of_ble_eq_true rfl⟩) ⟨fun a U g mk q => by obtain ⟨q0, q1, q2, qK, q10, q11, q12, q13, q14⟩ := q; exact ⟨q0, q1, q2, jG.calling g mk a qK, (va_K.moved (Vm.Alike.refl U.vm) q10), q11, q12, q13, q14⟩, hh_37.recv (C := RX14) (T := TX14) (N := 74) hB16 rfl (by decide) hg_r0 hK, fun U hU hW => ⟨rfl, hU, hh_37.2.1, hG.step hW hU hh_37.1, va_K.moved hW.alike hK2, hg_el_40, hg_r0, jP.nil, trivial⟩⟩ rfl rfl hl.1 rfl (lv_room (Nat.le_of_ble_eq_true rfl)) dX14_state_138 ⟨Nat.zero_le _, Nat.zero_le _⟩) hh_37.1 (fun q _ h => h) (fun q h => h) (fun r_44 u_43 t_43 H_43 locs_43 ht_43 hvm_43 hr_44 hb_43 hz_43 hk_43 hS_43 => ?_)
      rw [ht_43] at hb_43
      obtain ⟨hb_431, hb_432, hb_433, hb_434, hb_435⟩ := hb_43
      have hh_43 : jSt (dC, dI) B base G0 G0 EX14_state s.heap 0 0 [(r0, 16, 60, .ref checkOf_38)] [] [] H_43 locs_43 := ((hh_37.call hb_431 hb_432 hb_433 hb_434 hS_43 rfl (L1 := [(r0, 16, 60, .ref checkOf_38)]) [0] rfl rfl (M1 := []) [] rfl rfl (I1 := []) [] rfl rfl).more hb_435)
      clear hh_37 ht_43 hvm_43 hz_43 hk_43 hS_43 hb_431 hb_432 hb_433 hb_434 hb_435
      obtain ⟨hr_44_0, hr_44_1⟩ := hr_44
      rw [hQ]
      exact W.iret (v := r_44) hx hb hr (fun t ht hW => ⟨⟨r_44, (), rfl, trivial, hh_43.rt (M1 := []) [] rfl ht⟩, by rw [ht]; try exact hh_43.1.1, fun q h9 hq => by rw [ht]; try exact hh_43.1.2.1 q h9 hq⟩) hh_43.1.2.2 dX14_state_141
  · refine lv_tableIn (off := 141) (tgt := 142) hx hb dX14_state_1 (by omega) (by omega) (by rw [c_1]; rfl) (by decide) ?_
    refine lv_aload_n hx hb dX14_state_142 rfl (lv_at hl 0 rfl) ?_
    refine lv_aload_n hx hb dX14_state_143 rfl (lv_at hl 0 rfl) ?_
    obtain ⟨v_45, hv_45, hh_46⟩ := hh.pin (C := RX14) (T := TX14) (N := 74) hB16 rfl (by decide) hg_r0 (i := 60) (by decide) rfl
    clear hh
    obtain ⟨checkOf_47, rfl, hg_checkOf_47⟩ := hv_45
    refine j7_read hx hb hown hK (C := RX14) (T := TX14) (N := 74) rfl hly_16_60 hlk_129 (hh_46.at 0 rfl) dX14_state_144 ?_
    refine lv_iconst (v := 1) hx hb dX14_state_147 (by decide) ?_
    refine j7_qald hx hb hK2 hh_46 hB208 0 rfl (by decide) hg_checkOf_47 (x := 1) ((by decide)) (by omega) dX14_state_148 (fun o_48 ho_48 => ?_)
    rcases ho_48 with rfl | ⟨el_49, rfl, hg_el_49⟩
    · simp only [va_rf]
      refine va_calli (A0 := jA base) (H0 := s.heap) (va_runV (As := [.null]) (rest := []) ⟨hx, hb, hml, hown, hts⟩ (uX14_numberOfZ l dC dI ca base B hB hAp hB14 hB16 hB201 G0 s.heap r0) (cwV 1 hts (jgV (jWr_92 _ (List.mem_of_getElem? (i := 2) rfl)) (jWr_92 _ (List.mem_of_getElem? (i := 3) rfl)) (jWr_92 _ (List.mem_of_getElem? (i := 4) rfl)) (jWr_1 _ (List.mem_of_getElem? (i := 5) rfl)) (jWr_92 _ (List.mem_of_getElem? (i := 5) rfl))) rfl rfl rfl (by decide +kernel) ⟨by rw [← hR]; exact Nat.le_of_ble_eq_true rfl, by rw [← hR]; exact Nat.le_of_ble_eq_true rfl⟩) ⟨fun a U g mk q => by obtain ⟨q0, q1, q2, qK, q10, q11, q12, q13⟩ := q; exact ⟨q0, q1, q2, jG.calling g mk a qK, (va_K.moved (Vm.Alike.refl U.vm) q10), q11, q12, q13⟩, hh_46.recv (C := RX14) (T := TX14) (N := 74) hB16 rfl (by decide) hg_r0 hK, fun U hU hW => ⟨rfl, hU, hh_46.2.1, hG.step hW hU hh_46.1, va_K.moved hW.alike hK2, hg_r0, jP.nil, trivial⟩⟩ rfl rfl hl.1 rfl (lv_room (Nat.le_of_ble_eq_true rfl)) dX14_state_149 ⟨Nat.zero_le _, Nat.zero_le _⟩) hh_46.1 (fun q _ h => h) (fun q h => h) (fun r_51 u_50 t_50 H_50 locs_50 ht_50 hvm_50 hr_51 hb_50 hz_50 hk_50 hS_50 => ?_)
      rw [ht_50] at hb_50
      obtain ⟨hb_501, hb_502, hb_503, hb_504, hb_505⟩ := hb_50
      have hh_50 : jSt (dC, dI) B base G0 G0 EX14_state s.heap 0 0 [(r0, 16, 60, .ref checkOf_47)] [] [] H_50 locs_50 := ((hh_46.call hb_501 hb_502 hb_503 hb_504 hS_50 rfl (L1 := [(r0, 16, 60, .ref checkOf_47)]) [0] rfl rfl (M1 := []) [] rfl rfl (I1 := []) [] rfl rfl).more hb_505)
      clear hh_46 ht_50 hvm_50 hz_50 hk_50 hS_50 hb_501 hb_502 hb_503 hb_504 hb_505
      obtain ⟨hr_51_0, hr_51_1⟩ := hr_51
      rw [hQ]
      exact W.iret (v := r_51) hx hb hr (fun t ht hW => ⟨⟨r_51, (), rfl, trivial, hh_50.rt (M1 := []) [] rfl ht⟩, by rw [ht]; try exact hh_50.1.1, fun q h9 hq => by rw [ht]; try exact hh_50.1.2.1 q h9 hq⟩) hh_50.1.2.2 dX14_state_152
    · simp only [va_rf]
      refine va_calli (A0 := jA base) (H0 := s.heap) (va_runV (As := [.ref el_49]) (rest := []) ⟨hx, hb, hml, hown, hts⟩ (uX14_numberOf l dC dI ca base B hB hAp hB14 hB16 hB201 G0 s.heap r0 el_49) (cwV 1 hts (jgV (jWr_92 _ (List.mem_of_getElem? (i := 2) rfl)) (jWr_92 _ (List.mem_of_getElem? (i := 3) rfl)) (jWr_92 _ (List.mem_of_getElem? (i := 4) rfl)) (jWr_1 _ (List.mem_of_getElem? (i := 5) rfl)) (jWr_92 _ (List.mem_of_getElem? (i := 5) rfl))) rfl rfl rfl (by decide +kernel) ⟨by rw [← hR]; exact Nat.le_of_ble_eq_true rfl, by rw [← hR]; exact Nat.le_of_ble_eq_true rfl⟩) ⟨fun a U g mk q => by obtain ⟨q0, q1, q2, qK, q10, q11, q12, q13, q14⟩ := q; exact ⟨q0, q1, q2, jG.calling g mk a qK, (va_K.moved (Vm.Alike.refl U.vm) q10), q11, q12, q13, q14⟩, hh_46.recv (C := RX14) (T := TX14) (N := 74) hB16 rfl (by decide) hg_r0 hK, fun U hU hW => ⟨rfl, hU, hh_46.2.1, hG.step hW hU hh_46.1, va_K.moved hW.alike hK2, hg_el_49, hg_r0, jP.nil, trivial⟩⟩ rfl rfl hl.1 rfl (lv_room (Nat.le_of_ble_eq_true rfl)) dX14_state_149 ⟨Nat.zero_le _, Nat.zero_le _⟩) hh_46.1 (fun q _ h => h) (fun q h => h) (fun r_53 u_52 t_52 H_52 locs_52 ht_52 hvm_52 hr_53 hb_52 hz_52 hk_52 hS_52 => ?_)
      rw [ht_52] at hb_52
      obtain ⟨hb_521, hb_522, hb_523, hb_524, hb_525⟩ := hb_52
      have hh_52 : jSt (dC, dI) B base G0 G0 EX14_state s.heap 0 0 [(r0, 16, 60, .ref checkOf_47)] [] [] H_52 locs_52 := ((hh_46.call hb_521 hb_522 hb_523 hb_524 hS_52 rfl (L1 := [(r0, 16, 60, .ref checkOf_47)]) [0] rfl rfl (M1 := []) [] rfl rfl (I1 := []) [] rfl rfl).more hb_525)
      clear hh_46 ht_52 hvm_52 hz_52 hk_52 hS_52 hb_521 hb_522 hb_523 hb_524 hb_525
      obtain ⟨hr_53_0, hr_53_1⟩ := hr_53
      rw [hQ]
      exact W.iret (v := r_53) hx hb hr (fun t ht hW => ⟨⟨r_53, (), rfl, trivial, hh_52.rt (M1 := []) [] rfl ht⟩, by rw [ht]; try exact hh_52.1.1, fun q h9 hq => by rw [ht]; try exact hh_52.1.2.1 q h9 hq⟩) hh_52.1.2.2 dX14_state_152
end
section
theorem dX14_sentence_0 : decode cX14_sentence 0 = .ok (.iload_n 1, 1) := by decide +kernel
theorem dX14_sentence_1 : decode cX14_sentence 1 = .ok (.ifCond .lt 28, 3) := by decide +kernel
theorem dX14_sentence_4 : decode cX14_sentence 4 = .ok (.iload_n 1, 1) := by decide +kernel
theorem dX14_sentence_5 : decode cX14_sentence 5 = .ok (.aload_n 0, 1) := by decide +kernel
theorem dX14_sentence_6 : decode cX14_sentence 6 = .ok (.getfield 505, 3) := by decide +kernel
theorem dX14_sentence_9 : decode cX14_sentence 9 = .ok (.if_icmp .ge 20, 3) := by decide +kernel
theorem dX14_sentence_12 : decode cX14_sentence 12 = .ok (.iload_n 2, 1) := by decide +kernel
theorem dX14_sentence_13 : decode cX14_sentence 13 = .ok (.ifCond .lt 16, 3) := by decide +kernel
theorem dX14_sentence_16 : decode cX14_sentence 16 = .ok (.iload_n 2, 1) := by decide +kernel
theorem dX14_sentence_17 : decode cX14_sentence 17 = .ok (.aload_n 0, 1) := by decide +kernel
theorem dX14_sentence_18 : decode cX14_sentence 18 = .ok (.getfield 74, 3) := by decide +kernel
theorem dX14_sentence_21 : decode cX14_sentence 21 = .ok (.iload_n 1, 1) := by decide +kernel
theorem dX14_sentence_22 : decode cX14_sentence 22 = .ok (.aaload, 1) := by decide +kernel
theorem dX14_sentence_23 : decode cX14_sentence 23 = .ok (.getfield 587, 3) := by decide +kernel
theorem dX14_sentence_26 : decode cX14_sentence 26 = .ok (.if_icmp .lt 5, 3) := by decide +kernel
theorem dX14_sentence_29 : decode cX14_sentence 29 = .ok (.iconst (-1), 1) := by decide +kernel
theorem dX14_sentence_30 : decode cX14_sentence 30 = .ok (.ireturn, 1) := by decide +kernel
theorem dX14_sentence_31 : decode cX14_sentence 31 = .ok (.aload_n 0, 1) := by decide +kernel
theorem dX14_sentence_32 : decode cX14_sentence 32 = .ok (.getfield 74, 3) := by decide +kernel
theorem dX14_sentence_35 : decode cX14_sentence 35 = .ok (.iload_n 1, 1) := by decide +kernel
theorem dX14_sentence_36 : decode cX14_sentence 36 = .ok (.aaload, 1) := by decide +kernel
theorem dX14_sentence_37 : decode cX14_sentence 37 = .ok (.astore 4, 2) := by decide +kernel
theorem dX14_sentence_39 : decode cX14_sentence 39 = .ok (.iload_n 3, 1) := by decide +kernel
theorem dX14_sentence_40 : decode cX14_sentence 40 = .ok (.tableswitch 96 0 4 #[36, 44, 52, 67, 88], 36) := by decide +kernel
theorem dX14_sentence_76 : decode cX14_sentence 76 = .ok (.aload 4, 2) := by decide +kernel
theorem dX14_sentence_78 : decode cX14_sentence 78 = .ok (.getfield 596, 3) := by decide +kernel
theorem dX14_sentence_81 : decode cX14_sentence 81 = .ok (.iload_n 2, 1) := by decide +kernel
theorem dX14_sentence_82 : decode cX14_sentence 82 = .ok (.iaload, 1) := by decide +kernel
theorem dX14_sentence_83 : decode cX14_sentence 83 = .ok (.ireturn, 1) := by decide +kernel
theorem dX14_sentence_84 : decode cX14_sentence 84 = .ok (.aload 4, 2) := by decide +kernel
theorem dX14_sentence_86 : decode cX14_sentence 86 = .ok (.getfield 594, 3) := by decide +kernel
theorem dX14_sentence_89 : decode cX14_sentence 89 = .ok (.iload_n 2, 1) := by decide +kernel
theorem dX14_sentence_90 : decode cX14_sentence 90 = .ok (.iaload, 1) := by decide +kernel
theorem dX14_sentence_91 : decode cX14_sentence 91 = .ok (.ireturn, 1) := by decide +kernel
theorem dX14_sentence_92 : decode cX14_sentence 92 = .ok (.iload_n 2, 1) := by decide +kernel
theorem dX14_sentence_93 : decode cX14_sentence 93 = .ok (.aload 4, 2) := by decide +kernel
theorem dX14_sentence_95 : decode cX14_sentence 95 = .ok (.getfield 531, 3) := by decide +kernel
theorem dX14_sentence_98 : decode cX14_sentence 98 = .ok (.if_icmp .ge 7, 3) := by decide +kernel
theorem dX14_sentence_101 : decode cX14_sentence 101 = .ok (.iconst 1, 1) := by decide +kernel
theorem dX14_sentence_102 : decode cX14_sentence 102 = .ok (.goto 4, 3) := by decide +kernel
theorem dX14_sentence_105 : decode cX14_sentence 105 = .ok (.iconst 0, 1) := by decide +kernel
theorem dX14_sentence_106 : decode cX14_sentence 106 = .ok (.ireturn, 1) := by decide +kernel
theorem dX14_sentence_107 : decode cX14_sentence 107 = .ok (.iload_n 2, 1) := by decide +kernel
theorem dX14_sentence_108 : decode cX14_sentence 108 = .ok (.aload 4, 2) := by decide +kernel
theorem dX14_sentence_110 : decode cX14_sentence 110 = .ok (.getfield 531, 3) := by decide +kernel
theorem dX14_sentence_113 : decode cX14_sentence 113 = .ok (.if_icmp .ge 13, 3) := by decide +kernel
theorem dX14_sentence_116 : decode cX14_sentence 116 = .ok (.aload 4, 2) := by decide +kernel
theorem dX14_sentence_118 : decode cX14_sentence 118 = .ok (.getfield 751, 3) := by decide +kernel
theorem dX14_sentence_121 : decode cX14_sentence 121 = .ok (.iload_n 2, 1) := by decide +kernel
theorem dX14_sentence_122 : decode cX14_sentence 122 = .ok (.iaload, 1) := by decide +kernel
theorem dX14_sentence_123 : decode cX14_sentence 123 = .ok (.goto 4, 3) := by decide +kernel
theorem dX14_sentence_126 : decode cX14_sentence 126 = .ok (.iconst (-1), 1) := by decide +kernel
theorem dX14_sentence_127 : decode cX14_sentence 127 = .ok (.ireturn, 1) := by decide +kernel
theorem dX14_sentence_128 : decode cX14_sentence 128 = .ok (.aload_n 0, 1) := by decide +kernel
theorem dX14_sentence_129 : decode cX14_sentence 129 = .ok (.aload 4, 2) := by decide +kernel
theorem dX14_sentence_131 : decode cX14_sentence 131 = .ok (.iload_n 2, 1) := by decide +kernel
theorem dX14_sentence_132 : decode cX14_sentence 132 = .ok (.invokevirtual 789, 3) := by decide +kernel
theorem dX14_sentence_135 : decode cX14_sentence 135 = .ok (.ireturn, 1) := by decide +kernel
theorem dX14_sentence_136 : decode cX14_sentence 136 = .ok (.iconst (-1), 1) := by decide +kernel
theorem dX14_sentence_137 : decode cX14_sentence 137 = .ok (.ireturn, 1) := by decide +kernel
def EX14_sentence : List (Nat × Nat) := [(15, 5), (15, 7), (15, 10), (15, 11), (15, 15), (15, 18), (15, 21), (15, 30), (15, 31), (155, 0), (156, 0), (157, 0), (166, 0), (167, 0)]
set_option maxHeartbeats 4000000 in
set_option maxRecDepth 20000 in
theorem uX14_sentence (l : Launch) (dC : Nat → ClassId) (dI : Nat → Nat → Nat) (ca : Nat → ClassId) (base : Nat) (B : jF) (hB : jBok B) (hAp : jAp (dC, dI)) (hB14 : ∀ n G a H, B 14 n G a H ↔ jOb (dC, dI) 14 11 (F14 n G) a H) (hB15 : ∀ n G a H, B 15 n G a H ↔ jOb (dC, dI) 15 50 (F15 n G) a H) (hB16 : ∀ n G a H, B 16 n G a H ↔ jOb (dC, dI) 16 74 (F16 n G) a H) (hB101 : ∀ n G a H, B 101 n G a H ↔ jAr (dC, dI) (ca 1) (fun j z => True) n a H) (hB155 : ∀ n G a H, B 155 n G a H ↔ jAr (dC, dI) (ca 1) (fun j z => 0 ≤ z.toInt ∧ z.toInt ≤ 11990) n a H) (hB156 : ∀ n G a H, B 156 n G a H ↔ jAr (dC, dI) (ca 1) (fun j z => 0 ≤ z.toInt ∧ z.toInt ≤ 10) n a H) (hB157 : ∀ n G a H, B 157 n G a H ↔ jAr (dC, dI) (ca 1) (fun j z => 0 ≤ z.toInt ∧ z.toInt ≤ 1599) n a H) (hB166 : ∀ n G a H, B 166 n G a H ↔ jAr (dC, dI) (ca 1) (fun j z => True) n a H) (hB167 : ∀ n G a H, B 167 n G a H ↔ jAr (dC, dI) (ca 1) (fun j z => True) n a H) (hB190 : ∀ n G a H, B 190 n G a H ↔ jAr (dC, dI) (ca 1) (fun j z => 0 ≤ z.toInt ∧ z.toInt ≤ 1500) n a H) (hB191 : ∀ n G a H, B 191 n G a H ↔ jAr (dC, dI) (ca 1) (fun j z => 0 ≤ z.toInt ∧ z.toInt ≤ 1500) n a H) (hB192 : ∀ n G a H, B 192 n G a H ↔ jAr (dC, dI) (ca 1) (fun j z => 0 ≤ z.toInt ∧ z.toInt ≤ 2) n a H) (hB193 : ∀ n G a H, B 193 n G a H ↔ jAr (dC, dI) (ca 1) (fun j z => True) n a H) (hB194 : ∀ n G a H, B 194 n G a H ↔ jAr (dC, dI) (ca 1) (fun j z => True) n a H) (hB201 : ∀ n G a H, B 201 n G a H ↔ jAq (dC, dI) (ca 4) (jQs 14 0) n G a H) (G0 : jT) (H0 : Heap) (r0 : Nat) (a1 : Int32) (a2 : Int32) (a3 : Int32) (dd : Nat) (dc : Int32) (co : Nat) (cs : Nat) (ol : Nat) (nw : Nat) (td : Nat) (sn ck : Nat → Int32) (fd fo : Nat → Option Nat) (fs : Nat → Int32) : Met l yX14_sentence (jw yX14_sentence cX14_sentence 5 (some .int)) ({ frames := 6, cells := 0, slots := 0, locals := 136 }) (va_Pc [.ref r0, .int a1, .int a2, .int a3] (fun U => U.heap = H0 ∧ jX B base G0 [] H0 ∧ jG dC dI ca base U ∧ jK2 dC dI ca U ∧ G0 r0 = some (16, 0) ∧ G0 dd = some (201, 3) ∧ G0 co = some (208, 2) ∧ G0 cs = some (207, 2) ∧ G0 ol = some (14, 0) ∧ G0 nw = some (14, 0) ∧ G0 td = some (14, 0) ∧ jP (dC, dI) G0 H0 [(r0, 16, 41, .ref dd), (r0, 16, 42, .int dc), (r0, 16, 60, .ref co), (r0, 16, 61, .ref cs), (r0, 16, 46, .ref ol), (r0, 16, 47, .ref nw), (r0, 16, 71, .ref td)] ∧ jMc (dC, dI) G0 H0 [(cs, 207, 2, ca 1, fs)] ∧ jIs (dC, dI) G0 H0 [(jFs, jDY dC dI ca G0 none sn), (jF9, jVl dC dI G0 9 ck), ([(201, 0)], jQc dC dI (ca 4) dd 3 fd), ([(208, 0)], jQc dC dI (ca 4) co 2 fo)] ∧ jPu sn ck fd fo fs dc.toInt ol nw td)) (va_Qi (S := Unit) (fun r u => (True)) (fun u t => jRt (dC, dI) B base G0 EX14_sentence H0 [] t.heap) (jA base)) 0 0 (jA base) := by
  refine Met.ofW (cc := cX14_sentence) (maxL := 5) (ret := (some .int)) (by decide) rfl ?_
  intro p e s m args below meth c s₁ Bd hml hv
  obtain ⟨rfl, hH0, hX, hG, hK2, hg_r0, hg_dd, hg_co, hg_cs, hg_ol, hg_nw, hg_td, hP0, hM0, hI0, hp0⟩ := hv
  have hK := hG.1
  have hx := Bd.exec
  have hb := Bd.bytes
  have hr := Bd.returns
  have hts := atoms_spec (ws := (jw yX14_sentence cX14_sentence 5 (some .int))) Bd.pre
  have htw : ∀ w ∈ jWl, w.before _ s = true := fun w h => hts w (List.mem_cons_of_mem _ h)
  have hown : s.vm.findClass RX14 = some m.cls := findClass_of_methodNamed Bd.named
  have hlocks := Bd.notSynchronized
  obtain ⟨Q, hQ⟩ : ∃ Q, Q = MQ below (va_Qi (S := Unit) (fun r u => (True)) (fun u t => jRt (dC, dI) B base G0 EX14_sentence H0 [] t.heap) (jA base)) ([.ref r0, .int a1, .int a2, .int a3] : List Value).toArray s 0 0 (jA base) := ⟨_, rfl⟩
  rw [← hQ]
  have hl := lv_entry ([.ref r0, .int a1, .int a2, .int a3]) (n := 5) (Nat.le_of_ble_eq_true rfl)
  rw [lg_entry_eq]
  generalize (lg_sl ([.ref r0, .int a1, .int a2, .int a3]) ++ List.replicate (5 - (lg_sl ([.ref r0, .int a1, .int a2, .int a3])).length) Slot.unset).toArray = ls at hl ⊢
  have hl : lv_has ls 5 [(0, .ref r0), (1, .int a1), (2, .int a2), (3, .int a3)] := hl
  generalize hR : (headSpec (jw yX14_sentence cX14_sentence 5 (some .int)) ({ frames := 6, cells := 0, slots := 0, locals := 136 })).room = R
  subst hH0
  have hh : jSt (dC, dI) B base G0 G0 EX14_sentence s.heap 0 0 [(r0, 16, 41, .ref dd), (r0, 16, 42, .int dc), (r0, 16, 60, .ref co), (r0, 16, 61, .ref cs), (r0, 16, 46, .ref ol), (r0, 16, 47, .ref nw), (r0, 16, 71, .ref td)] [(cs, 207, 2, ca 1, fs)] [(jFs, jDY dC dI ca G0 none sn), (jF9, jVl dC dI G0 9 ck), ([(201, 0)], jQc dC dI (ca 4) dd 3 fd), ([(208, 0)], jQc dC dI (ca 4) co 2 fo)] s.heap [] := jSt.start hX hP0 hM0 hI0
  clear hX hP0
  have hkm1 : ((-1) : Int32).toInt = (-1) := by decide
  have hk0 : (0 : Int32).toInt = 0 := by decide
  have hk1 : (1 : Int32).toInt = 1 := by decide
  have hly_14_5 := htw (u_lay RX12 TX12 5) (jWc_wsX120 _ (u_in_lay (by decide)))
  have hly_14_6 := htw (u_lay RX12 TX12 6) (jWc_wsX120 _ (u_in_lay (by decide)))
  have hly_14_7 := htw (u_lay RX12 TX12 7) (jWc_wsX120 _ (u_in_lay (by decide)))
  have hly_14_9 := htw (u_lay RX12 TX12 9) (jWc_wsX120 _ (u_in_lay (by decide)))
  have hly_14_10 := htw (u_lay RX12 TX12 10) (jWc_wsX120 _ (u_in_lay (by decide)))
  have hly_16_41 := htw (u_lay RX14 TX14 41) (jWc_wsX140 _ (u_in_lay (by decide)))
  have hly_16_42 := htw (u_lay RX14 TX14 42) (jWc_wsX140 _ (u_in_lay (by decide)))
  have hlk_505 := (htw (.fieldLink RX14 505 "ProofServerModel" "documentCount" "I") (jWr_57 _ (List.mem_of_getElem? (i := 5) rfl)))
  have hlk_74 := (htw (.fieldLink RX14 74 "ProofServerModel" "documents" "[LProofServerModel$Document;") (jWr_11 _ (List.mem_of_getElem? (i := 19) rfl)))
  have hlk_587 := (va_Nw.use (A := ([.ref r0, .int a1, .int a2, .int a3] : List Value).toArray) rfl (hG.2.1 RX14 587 "ProofServerModel$Document" "sentences" "I" "ProofServerModel" (List.mem_of_getElem? (i := 1737) (by decide +kernel))))
  have hlk_596 := (va_Nw.use (A := ([.ref r0, .int a1, .int a2, .int a3] : List Value).toArray) rfl (hG.2.1 RX14 596 "ProofServerModel$Document" "begin" "[I" "ProofServerModel" (List.mem_of_getElem? (i := 1739) (by decide +kernel))))
  have hlk_594 := (va_Nw.use (A := ([.ref r0, .int a1, .int a2, .int a3] : List Value).toArray) rfl (hG.2.1 RX14 594 "ProofServerModel$Document" "end" "[I" "ProofServerModel" (List.mem_of_getElem? (i := 1741) (by decide +kernel))))
  have hlk_531 := (va_Nw.use (A := ([.ref r0, .int a1, .int a2, .int a3] : List Value).toArray) rfl (hG.2.1 RX14 531 "ProofServerModel$Document" "checked" "I" "ProofServerModel" (List.mem_of_getElem? (i := 1744) (by decide +kernel))))
  have hlk_751 := (va_Nw.use (A := ([.ref r0, .int a1, .int a2, .int a3] : List Value).toArray) rfl (hG.2.1 RX14 751 "ProofServerModel$Document" "fault" "[I" "ProofServerModel" (List.mem_of_getElem? (i := 1746) (by decide +kernel))))
  have hrg_a1 := jb_rng a1
  have hrg_a2 := jb_rng a2
  have hrg_a3 := jb_rng a3
  obtain ⟨sx_1, esx_1, hsx_1⟩ := hh.sat (C := RX14) (T := TX14) (N := 74) hB16 rfl (by decide) hg_r0 (i := 42) (by decide) rfl 1 rfl
  cases esx_1
  refine lv_iload_n hx hb dX14_sentence_0 rfl (lv_at hl 1 rfl) ?_
  refine lv_if_lt (tgt := 29) hx hb dX14_sentence_1 (by decide) (fun c_2 => ?_) (fun c_2 => ?_)
  · skip
    have c_2' : a1.toInt < 0 := jb_lt (rfl) ((by decide)) c_2
    refine lv_iconst (v := (-1)) hx hb dX14_sentence_29 (by decide) ?_
    rw [hQ]
    exact W.iret (v := (-1)) hx hb hr (fun t ht hW => ⟨⟨(-1), (), rfl, trivial, hh.rt (M1 := []) [] rfl ht⟩, by rw [ht]; try exact hh.1.1, fun q h9 hq => by rw [ht]; try exact hh.1.2.1 q h9 hq⟩) hh.1.2.2 dX14_sentence_30
  · skip
    have c_2' : a1.toInt ≥ 0 := jb_lt_n (rfl) ((by decide)) c_2
    refine lv_iload_n hx hb dX14_sentence_4 rfl (lv_at hl 1 rfl) ?_
    refine lv_aload_n hx hb dX14_sentence_5 rfl (lv_at hl 0 rfl) ?_
    refine j7_read hx hb hown hK (C := RX14) (T := TX14) (N := 74) rfl hly_16_42 hlk_505 (hh.at 1 rfl) dX14_sentence_6 ?_
    refine lv_icmp_ge (tgt := 29) hx hb dX14_sentence_9 (by decide) (fun c_3 => ?_) (fun c_3 => ?_)
    · skip
      have c_3' : a1.toInt ≥ dc.toInt := jb_ge (rfl) (rfl) c_3
      refine lv_iconst (v := (-1)) hx hb dX14_sentence_29 (by decide) ?_
      rw [hQ]
      exact W.iret (v := (-1)) hx hb hr (fun t ht hW => ⟨⟨(-1), (), rfl, trivial, hh.rt (M1 := []) [] rfl ht⟩, by rw [ht]; try exact hh.1.1, fun q h9 hq => by rw [ht]; try exact hh.1.2.1 q h9 hq⟩) hh.1.2.2 dX14_sentence_30
    · skip
      have c_3' : a1.toInt < dc.toInt := jb_ge_n (rfl) (rfl) c_3
      refine lv_iload_n hx hb dX14_sentence_12 rfl (lv_at hl 2 rfl) ?_
      refine lv_if_lt (tgt := 29) hx hb dX14_sentence_13 (by decide) (fun c_4 => ?_) (fun c_4 => ?_)
      · skip
        have c_4' : a2.toInt < 0 := jb_lt (rfl) ((by decide)) c_4
        refine lv_iconst (v := (-1)) hx hb dX14_sentence_29 (by decide) ?_
        rw [hQ]
        exact W.iret (v := (-1)) hx hb hr (fun t ht hW => ⟨⟨(-1), (), rfl, trivial, hh.rt (M1 := []) [] rfl ht⟩, by rw [ht]; try exact hh.1.1, fun q h9 hq => by rw [ht]; try exact hh.1.2.1 q h9 hq⟩) hh.1.2.2 dX14_sentence_30
      · skip
        have c_4' : a2.toInt ≥ 0 := jb_lt_n (rfl) ((by decide)) c_4
        refine lv_iload_n hx hb dX14_sentence_16 rfl (lv_at hl 2 rfl) ?_
        refine lv_aload_n hx hb dX14_sentence_17 rfl (lv_at hl 0 rfl) ?_
        refine j7_read hx hb hown hK (C := RX14) (T := TX14) (N := 74) rfl hly_16_41 hlk_74 (hh.at 0 rfl) dX14_sentence_18 ?_
        refine lv_iload_n hx hb dX14_sentence_21 rfl (lv_at hl 1 rfl) ?_
        refine j7_qaldI hx hb hK2 hh hB201 0 rfl (by decide) hg_dd (x := a1.toInt) (rfl) (by omega) (hh.iv 2 rfl) dX14_sentence_22 (fun o_5 ho_5 heo_5 => ?_)
        obtain ⟨el_6, rfl, hg_el_6⟩ := ho_5
        simp only [va_rf]
        obtain ⟨yb_7, ye_7, fb_7, fe_7, hg_yb_7, hg_ye_7, hP_7, hM_7, hs_7, h0_7, h4_7⟩ := jDY.at (hh.iv 0 rfl) hg_el_6 (fun q => by cases q)
        have hh_8 := (hh.more hP_7).moreM hM_7
        clear hh hP_7 hM_7
        have hh_9 := hh_8.more (jVl.at (hh_8.iv 1 rfl) hg_el_6)
        clear hh_8
        refine j7_readN hx hb hown hK (C := RX12) (T := TX12) (N := 11) rfl hly_14_5 hlk_587 (hh_9.at 3 rfl) dX14_sentence_23 ?_
        refine lv_icmp_lt (tgt := 31) hx hb dX14_sentence_26 (by decide) (fun c_10 => ?_) (fun c_10 => ?_)
        · skip
          have c_10' : a2.toInt < (sn el_6).toInt := jb_lt (rfl) (rfl) c_10
          refine lv_aload_n hx hb dX14_sentence_31 rfl (lv_at hl 0 rfl) ?_
          refine j7_read hx hb hown hK (C := RX14) (T := TX14) (N := 74) rfl hly_16_41 hlk_74 (hh_9.at 4 rfl) dX14_sentence_32 ?_
          refine lv_iload_n hx hb dX14_sentence_35 rfl (lv_at hl 1 rfl) ?_
          refine j7_qaldI hx hb hK2 hh_9 hB201 0 rfl (by decide) hg_dd (x := a1.toInt) (rfl) (by omega) (hh_9.iv 2 rfl) dX14_sentence_36 (fun o_11 ho_11 heo_11 => ?_)
          obtain ⟨el_12, rfl, hg_el_12⟩ := ho_11
          simp only [va_rf]
          obtain rfl : el_6 = el_12 := (Option.some.inj (heo_11.trans heo_5.symm)).symm
          refine lv_astore (lv' := [(4, .ref el_6), (0, .ref r0), (1, .int a1), (2, .int a2), (3, .int a3)]) hx hb dX14_sentence_37 hl (by decide) rfl (fun ls hl => ?_)
          refine lv_iload_n hx hb dX14_sentence_39 rfl (lv_at hl 4 rfl) ?_
          rcases (by omega : (a3.toInt < 0 ∨ 4 < a3.toInt) ∨ a3.toInt = 0 ∨ a3.toInt = 1 ∨ a3.toInt = 2 ∨ a3.toInt = 3 ∨ a3.toInt = 4) with c_13 | c_13 | c_13 | c_13 | c_13 | c_13
          · refine lv_tableOut (tgt := 136) hx hb dX14_sentence_40 c_13 (by decide) ?_
            refine lv_iconst (v := (-1)) hx hb dX14_sentence_136 (by decide) ?_
            rw [hQ]
            exact W.iret (v := (-1)) hx hb hr (fun t ht hW => ⟨⟨(-1), (), rfl, trivial, hh_9.rt (M1 := []) [] rfl ht⟩, by rw [ht]; try exact hh_9.1.1, fun q h9 hq => by rw [ht]; try exact hh_9.1.2.1 q h9 hq⟩) hh_9.1.2.2 dX14_sentence_137
          · refine lv_tableIn (off := 36) (tgt := 76) hx hb dX14_sentence_40 (by omega) (by omega) (by rw [c_13]; rfl) (by decide) ?_
            refine lv_aload hx hb dX14_sentence_76 (lv_at hl 0 rfl) ?_
            refine j7_readN hx hb hown hK (C := RX12) (T := TX12) (N := 11) rfl hly_14_6 hlk_596 (hh_9.at 1 rfl) dX14_sentence_78 ?_
            refine lv_iload_n hx hb dX14_sentence_81 rfl (lv_at hl 3 rfl) ?_
            refine j7_ialdM hx hb hK hh_9 hB190 1 rfl (by decide) hg_yb_7 (x := a2.toInt) (rfl) (by omega) (j := 0) rfl dX14_sentence_82 (fun z_14 ez_14 (hz_14 : 0 ≤ z_14.toInt ∧ z_14.toInt ≤ 1500) => ?_)
            have hqz_14 : z_14.toInt = jSo fb_7 (a2.toInt) := by unfold jSo; rw [ez_14]
            rw [hQ]
            exact W.iret (v := z_14) hx hb hr (fun t ht hW => ⟨⟨z_14, (), rfl, trivial, hh_9.rt (M1 := []) [] rfl ht⟩, by rw [ht]; try exact hh_9.1.1, fun q h9 hq => by rw [ht]; try exact hh_9.1.2.1 q h9 hq⟩) hh_9.1.2.2 dX14_sentence_83
          · refine lv_tableIn (off := 44) (tgt := 84) hx hb dX14_sentence_40 (by omega) (by omega) (by rw [c_13]; rfl) (by decide) ?_
            refine lv_aload hx hb dX14_sentence_84 (lv_at hl 0 rfl) ?_
            refine j7_readN hx hb hown hK (C := RX12) (T := TX12) (N := 11) rfl hly_14_7 hlk_594 (hh_9.at 2 rfl) dX14_sentence_86 ?_
            refine lv_iload_n hx hb dX14_sentence_89 rfl (lv_at hl 3 rfl) ?_
            refine j7_ialdM hx hb hK hh_9 hB191 1 rfl (by decide) hg_ye_7 (x := a2.toInt) (rfl) (by omega) (j := 1) rfl dX14_sentence_90 (fun z_15 ez_15 (hz_15 : 0 ≤ z_15.toInt ∧ z_15.toInt ≤ 1500) => ?_)
            have hqz_15 : z_15.toInt = jSo fe_7 (a2.toInt) := by unfold jSo; rw [ez_15]
            rw [hQ]
            exact W.iret (v := z_15) hx hb hr (fun t ht hW => ⟨⟨z_15, (), rfl, trivial, hh_9.rt (M1 := []) [] rfl ht⟩, by rw [ht]; try exact hh_9.1.1, fun q h9 hq => by rw [ht]; try exact hh_9.1.2.1 q h9 hq⟩) hh_9.1.2.2 dX14_sentence_91
          · refine lv_tableIn (off := 52) (tgt := 92) hx hb dX14_sentence_40 (by omega) (by omega) (by rw [c_13]; rfl) (by decide) ?_
            refine lv_iload_n hx hb dX14_sentence_92 rfl (lv_at hl 3 rfl) ?_
            refine lv_aload hx hb dX14_sentence_93 (lv_at hl 0 rfl) ?_
            refine j7_readN hx hb hown hK (C := RX12) (T := TX12) (N := 11) rfl hly_14_9 hlk_531 (hh_9.at 0 rfl) dX14_sentence_95 ?_
            refine lv_icmp_ge (tgt := 105) hx hb dX14_sentence_98 (by decide) (fun c_16 => ?_) (fun c_16 => ?_)
            · skip
              have c_16' : a2.toInt ≥ (ck el_6).toInt := jb_ge (rfl) (rfl) c_16
              refine lv_iconst (v := 0) hx hb dX14_sentence_105 (by decide) ?_
              rw [hQ]
              exact W.iret (v := 0) hx hb hr (fun t ht hW => ⟨⟨0, (), rfl, trivial, hh_9.rt (M1 := []) [] rfl ht⟩, by rw [ht]; try exact hh_9.1.1, fun q h9 hq => by rw [ht]; try exact hh_9.1.2.1 q h9 hq⟩) hh_9.1.2.2 dX14_sentence_106
            · skip
              have c_16' : a2.toInt < (ck el_6).toInt := jb_ge_n (rfl) (rfl) c_16
              refine lv_iconst (v := 1) hx hb dX14_sentence_101 (by decide) ?_
              refine lv_goto (tgt := 106) hx hb dX14_sentence_102 (by decide) ?_
              rw [hQ]
              exact W.iret (v := 1) hx hb hr (fun t ht hW => ⟨⟨1, (), rfl, trivial, hh_9.rt (M1 := []) [] rfl ht⟩, by rw [ht]; try exact hh_9.1.1, fun q h9 hq => by rw [ht]; try exact hh_9.1.2.1 q h9 hq⟩) hh_9.1.2.2 dX14_sentence_106
          · refine lv_tableIn (off := 67) (tgt := 107) hx hb dX14_sentence_40 (by omega) (by omega) (by rw [c_13]; rfl) (by decide) ?_
            refine lv_iload_n hx hb dX14_sentence_107 rfl (lv_at hl 3 rfl) ?_
            refine lv_aload hx hb dX14_sentence_108 (lv_at hl 0 rfl) ?_
            refine j7_readN hx hb hown hK (C := RX12) (T := TX12) (N := 11) rfl hly_14_9 hlk_531 (hh_9.at 0 rfl) dX14_sentence_110 ?_
            refine lv_icmp_ge (tgt := 126) hx hb dX14_sentence_113 (by decide) (fun c_17 => ?_) (fun c_17 => ?_)
            · skip
              have c_17' : a2.toInt ≥ (ck el_6).toInt := jb_ge (rfl) (rfl) c_17
              refine lv_iconst (v := (-1)) hx hb dX14_sentence_126 (by decide) ?_
              rw [hQ]
              exact W.iret (v := (-1)) hx hb hr (fun t ht hW => ⟨⟨(-1), (), rfl, trivial, hh_9.rt (M1 := []) [] rfl ht⟩, by rw [ht]; try exact hh_9.1.1, fun q h9 hq => by rw [ht]; try exact hh_9.1.2.1 q h9 hq⟩) hh_9.1.2.2 dX14_sentence_127
            · skip
              have c_17' : a2.toInt < (ck el_6).toInt := jb_ge_n (rfl) (rfl) c_17
              refine lv_aload hx hb dX14_sentence_116 (lv_at hl 0 rfl) ?_
              obtain ⟨v_18, hv_18, hh_19⟩ := hh_9.pin (C := RX12) (T := TX12) (N := 11) hB14 rfl (by decide) hg_el_6 (i := 10) (by decide) rfl
              clear hh_9
              obtain ⟨fault_20, rfl, hg_fault_20⟩ := hv_18
              refine j7_readN hx hb hown hK (C := RX12) (T := TX12) (N := 11) rfl hly_14_10 hlk_751 (hh_19.at 0 rfl) dX14_sentence_118 ?_
              refine lv_iload_n hx hb dX14_sentence_121 rfl (lv_at hl 3 rfl) ?_
              refine j7_iald hx hb hK hh_19 hB193 1 rfl (by decide) hg_fault_20 (x := a2.toInt) (rfl) (by omega) dX14_sentence_122 (fun z_21 (hz_21 : True) => ?_)
              refine lv_goto (tgt := 127) hx hb dX14_sentence_123 (by decide) ?_
              rw [hQ]
              exact W.iret (v := z_21) hx hb hr (fun t ht hW => ⟨⟨z_21, (), rfl, trivial, hh_19.rt (M1 := []) [] rfl ht⟩, by rw [ht]; try exact hh_19.1.1, fun q h9 hq => by rw [ht]; try exact hh_19.1.2.1 q h9 hq⟩) hh_19.1.2.2 dX14_sentence_127
          · refine lv_tableIn (off := 88) (tgt := 128) hx hb dX14_sentence_40 (by omega) (by omega) (by rw [c_13]; rfl) (by decide) ?_
            refine lv_aload_n hx hb dX14_sentence_128 rfl (lv_at hl 1 rfl) ?_
            refine lv_aload hx hb dX14_sentence_129 (lv_at hl 0 rfl) ?_
            refine lv_iload_n hx hb dX14_sentence_131 rfl (lv_at hl 3 rfl) ?_
            refine va_calli (A0 := jA base) (H0 := s.heap) (va_runV (As := [.ref el_6, .int a2]) (rest := []) ⟨hx, hb, hml, hown, hts⟩ (uX14_costOf l dC dI ca base B hB hAp hB14 hB15 hB16 hB101 hB155 hB156 hB157 hB166 hB167 hB190 hB191 hB192 hB194 G0 s.heap r0 el_6 a2 yb_7 ye_7 (sn el_6).toInt fb_7 fe_7) (cwV 2 hts (jgV (jWr_90 _ (List.mem_of_getElem? (i := 23) rfl)) (jWr_91 _ (List.mem_of_getElem? (i := 0) rfl)) (jWr_91 _ (List.mem_of_getElem? (i := 1) rfl)) (jWr_1 _ (List.mem_of_getElem? (i := 5) rfl)) (jWr_91 _ (List.mem_of_getElem? (i := 2) rfl))) rfl rfl rfl (by decide +kernel) ⟨by rw [← hR]; exact Nat.le_of_ble_eq_true rfl, by rw [← hR]; exact Nat.le_of_ble_eq_true rfl⟩) ⟨fun a U g mk q => by obtain ⟨q0, q1, q2, qK, q10, q11, q12, q13, q14, q15, q16⟩ := q; exact ⟨q0, q1, q2, jG.calling g mk a qK, q10, q11, q12, q13, q14, q15, q16⟩, hh_9.recv (C := RX14) (T := TX14) (N := 74) hB16 rfl (by decide) hg_r0 hK, fun U hU hW => ⟨rfl, hU, hh_9.2.1, hG.step hW hU hh_9.1, hg_el_6, hg_r0, hg_yb_7, hg_ye_7, (hh_9.2.2.1.sub (L1 := [(el_6, 14, 6, .ref yb_7), (el_6, 14, 7, .ref ye_7)]) [1, 2] rfl), (hh_9.2.2.2.2.2.2.2.1.sub (L1 := [(yb_7, 190, 40, ca 1, fb_7), (ye_7, 191, 40, ca 1, fe_7)]) [0, 1] rfl), by first | omega | (refine ⟨?_, ?_, ?_, ?_⟩ <;> (first | omega | rfl | assumption | decide | exact Or.inl rfl | exact Or.inr rfl | (simp only; omega)))⟩⟩ rfl rfl hl.1 rfl (lv_room (Nat.le_of_ble_eq_true rfl)) dX14_sentence_132 ⟨Nat.zero_le _, Nat.zero_le _⟩) hh_9.1 (fun q _ h => h) (fun q h => h) (fun r_23 u_22 t_22 H_22 locs_22 ht_22 hvm_22 hr_23 hb_22 hz_22 hk_22 hS_22 => ?_)
            rw [ht_22] at hb_22
            obtain ⟨hb_221, hb_222, hb_223, hb_224, hb_225⟩ := hb_22
            have hh_22 : jSt (dC, dI) B base G0 G0 EX14_sentence s.heap 0 0 [(el_6, 14, 9, .int (ck el_6)), (el_6, 14, 6, .ref yb_7), (el_6, 14, 7, .ref ye_7), (el_6, 14, 5, .int (sn el_6)), (r0, 16, 41, .ref dd), (r0, 16, 42, .int dc), (r0, 16, 60, .ref co), (r0, 16, 61, .ref cs), (r0, 16, 46, .ref ol), (r0, 16, 47, .ref nw), (r0, 16, 71, .ref td)] [(yb_7, 190, 40, ca 1, fb_7), (ye_7, 191, 40, ca 1, fe_7), (cs, 207, 2, ca 1, fs)] [(jFs, jDY dC dI ca G0 none sn), (jF9, jVl dC dI G0 9 ck), ([(201, 0)], jQc dC dI (ca 4) dd 3 fd), ([(208, 0)], jQc dC dI (ca 4) co 2 fo)] H_22 locs_22 := ((hh_9.call hb_221 hb_222 hb_223 hb_224 hS_22 rfl (L1 := [(el_6, 14, 9, .int (ck el_6)), (el_6, 14, 6, .ref yb_7), (el_6, 14, 7, .ref ye_7), (el_6, 14, 5, .int (sn el_6)), (r0, 16, 41, .ref dd), (r0, 16, 42, .int dc), (r0, 16, 60, .ref co), (r0, 16, 61, .ref cs), (r0, 16, 46, .ref ol), (r0, 16, 47, .ref nw), (r0, 16, 71, .ref td)]) [0, 1, 2, 3, 4, 5, 6, 7, 8, 9, 10] rfl rfl (M1 := [(yb_7, 190, 40, ca 1, fb_7), (ye_7, 191, 40, ca 1, fe_7), (cs, 207, 2, ca 1, fs)]) [0, 1, 2] rfl rfl (I1 := [(jFs, jDY dC dI ca G0 none sn), (jF9, jVl dC dI G0 9 ck), ([(201, 0)], jQc dC dI (ca 4) dd 3 fd), ([(208, 0)], jQc dC dI (ca 4) co 2 fo)]) [0, 1, 2, 3] rfl rfl).more hb_225)
            clear hh_9 ht_22 hvm_22 hz_22 hk_22 hS_22 hb_221 hb_222 hb_223 hb_224 hb_225
            rw [hQ]
            exact W.iret (v := r_23) hx hb hr (fun t ht hW => ⟨⟨r_23, (), rfl, trivial, hh_22.rt (M1 := []) [] rfl ht⟩, by rw [ht]; try exact hh_22.1.1, fun q h9 hq => by rw [ht]; try exact hh_22.1.2.1 q h9 hq⟩) hh_22.1.2.2 dX14_sentence_135
        · skip
          have c_10' : a2.toInt ≥ (sn el_6).toInt := jb_lt_n (rfl) (rfl) c_10
          refine lv_iconst (v := (-1)) hx hb dX14_sentence_29 (by decide) ?_
          rw [hQ]
          exact W.iret (v := (-1)) hx hb hr (fun t ht hW => ⟨⟨(-1), (), rfl, trivial, hh_9.rt (M1 := []) [] rfl ht⟩, by rw [ht]; try exact hh_9.1.1, fun q h9 hq => by rw [ht]; try exact hh_9.1.2.1 q h9 hq⟩) hh_9.1.2.2 dX14_sentence_30
end
section
theorem jBr.k7 {G : jT} {v : Value} (h : jBr 4000 G v) : ∃ x : Nat, v = .ref x ∧ G x = some (197, 4000) := by
  obtain ⟨x, m, e, h1, -, -, -, h2⟩ := h
  rw [jBkd, if_pos rfl] at h1
  have h3 : m = 4000 := by omega
  subst h3
  exact ⟨x, e, h1⟩
end
