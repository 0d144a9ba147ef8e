section
theorem jWr_76 : ∀ w ∈ wsL_law_r76, w ∈ jWl := fun w h => jT76 w (List.mem_append_left _ h)
end
section
theorem dX1_earlyFault_0 : decode cX1_earlyFault 0 = .ok (.aload_n 0, 1) := by decide +kernel
theorem dX1_earlyFault_1 : decode cX1_earlyFault 1 = .ok (.getfield 72, 3) := by decide +kernel
theorem dX1_earlyFault_4 : decode cX1_earlyFault 4 = .ok (.aload_n 0, 1) := by decide +kernel
theorem dX1_earlyFault_5 : decode cX1_earlyFault 5 = .ok (.getfield 69, 3) := by decide +kernel
theorem dX1_earlyFault_8 : decode cX1_earlyFault 8 = .ok (.if_icmp .ge 15, 3) := by decide +kernel
theorem dX1_earlyFault_11 : decode cX1_earlyFault 11 = .ok (.aload_n 0, 1) := by decide +kernel
theorem dX1_earlyFault_12 : decode cX1_earlyFault 12 = .ok (.getfield 27, 3) := by decide +kernel
theorem dX1_earlyFault_15 : decode cX1_earlyFault 15 = .ok (.aload_n 0, 1) := by decide +kernel
theorem dX1_earlyFault_16 : decode cX1_earlyFault 16 = .ok (.getfield 72, 3) := by decide +kernel
theorem dX1_earlyFault_19 : decode cX1_earlyFault 19 = .ok (.iaload, 1) := by decide +kernel
theorem dX1_earlyFault_20 : decode cX1_earlyFault 20 = .ok (.goto 4, 3) := by decide +kernel
theorem dX1_earlyFault_23 : decode cX1_earlyFault 23 = .ok (.iconst 0, 1) := by decide +kernel
theorem dX1_earlyFault_24 : decode cX1_earlyFault 24 = .ok (.ireturn, 1) := by decide +kernel
def EX1_earlyFault : List (Nat × Nat) := []
set_option maxHeartbeats 4000000 in
set_option maxRecDepth 20000 in
theorem uX1_earlyFault (l : Launch) (dC : Nat → ClassId) (dI : Nat → Nat → Nat) (ca : Nat → ClassId) (base : Nat) (B : jF) (hB : jBok B) (hAp : jAp (dC, dI)) (hB3 : ∀ n G a H, B 3 n G a H ↔ jOb (dC, dI) 3 17 (F3 n G) a H) (hB101 : ∀ n G a H, B 101 n G a H ↔ jAr (dC, dI) (ca 1) (fun j z => True) n a H) (G0 : jT) (H0 : Heap) (r0 : Nat) : Met l yX1_earlyFault (jw yX1_earlyFault cX1_earlyFault 1 (some .int)) ({ frames := 0, cells := 0, slots := 0, locals := 0 }) (va_Pc [.ref r0] (fun U => U.heap = H0 ∧ jX B base G0 [] H0 ∧ jG dC dI ca base U ∧ G0 r0 = some (3, 0) ∧ jP (dC, dI) G0 H0 [] ∧ True)) (va_Qi (S := Unit) (fun r u => (True)) (fun u t => jRt (dC, dI) B base G0 EX1_earlyFault H0 [] t.heap) (jA base)) 0 0 (jA base) := by
  refine Met.ofW (cc := cX1_earlyFault) (maxL := 1) (ret := (some .int)) (by decide) rfl ?_
  intro p e s m args below meth c s₁ Bd hml hv
  obtain ⟨rfl, hH0, hX, hG, hg_r0, hP0, hp0⟩ := hv
  have hK := hG.1
  have hx := Bd.exec
  have hb := Bd.bytes
  have hr := Bd.returns
  have hts := atoms_spec (ws := (jw yX1_earlyFault cX1_earlyFault 1 (some .int))) Bd.pre
  have htw : ∀ w ∈ jWl, w.before _ s = true := fun w h => hts w (List.mem_cons_of_mem _ h)
  have hown : s.vm.findClass RX1 = some m.cls := findClass_of_methodNamed Bd.named
  have hlocks := Bd.notSynchronized
  obtain ⟨Q, hQ⟩ : ∃ Q, Q = MQ below (va_Qi (S := Unit) (fun r u => (True)) (fun u t => jRt (dC, dI) B base G0 EX1_earlyFault H0 [] t.heap) (jA base)) ([.ref r0] : List Value).toArray s 0 0 (jA base) := ⟨_, rfl⟩
  rw [← hQ]
  have hl := lv_entry ([.ref r0]) (n := 1) (Nat.le_of_ble_eq_true rfl)
  rw [lg_entry_eq]
  generalize (lg_sl ([.ref r0]) ++ List.replicate (1 - (lg_sl ([.ref r0])).length) Slot.unset).toArray = ls at hl ⊢
  have hl : lv_has ls 1 [(0, .ref r0)] := hl
  generalize hR : (headSpec (jw yX1_earlyFault cX1_earlyFault 1 (some .int)) ({ frames := 0, cells := 0, slots := 0, locals := 0 })).room = R
  subst hH0
  have hh : jSt (dC, dI) B base G0 G0 EX1_earlyFault s.heap 0 0 [] [] [] s.heap [] := jSt.start hX hP0 jMc.nil jIs.nil
  clear hX hP0
  have hk0 : (0 : Int32).toInt = 0 := by decide
  have hk1 : (1 : Int32).toInt = 1 := by decide
  have hly_3_4 := htw (u_lay RX1 TX1 4) (jWc_wsX10 _ (u_in_lay (by decide)))
  have hly_3_8 := htw (u_lay RX1 TX1 8) (jWc_wsX10 _ (u_in_lay (by decide)))
  have hly_3_10 := htw (u_lay RX1 TX1 10) (jWc_wsX10 _ (u_in_lay (by decide)))
  have hlk_72 := (htw (.fieldLink RX1 72 "ProofServer$Document" "checked" "I") (jWr_42 _ (List.mem_of_getElem? (i := 20) rfl)))
  have hlk_69 := (htw (.fieldLink RX1 69 "ProofServer$Document" "sentences" "I") (jWr_29 _ (List.mem_of_getElem? (i := 14) rfl)))
  have hlk_27 := (htw (.fieldLink RX1 27 "ProofServer$Document" "early" "[I") (jWr_10 _ (List.mem_of_getElem? (i := 10) rfl)))
  refine lv_aload_n hx hb dX1_earlyFault_0 rfl (lv_at hl 0 rfl) ?_
  obtain ⟨v_1, hv_1, hh_2⟩ := hh.pin (C := RX1) (T := TX1) (N := 17) hB3 rfl (by decide) hg_r0 (i := 10) (by decide) rfl
  clear hh
  obtain ⟨checked_3, rfl, hlochecked_3, hhichecked_3⟩ := hv_1
  refine j7_read hx hb hown hK (C := RX1) (T := TX1) (N := 17) rfl hly_3_10 hlk_72 (hh_2.at 0 rfl) dX1_earlyFault_1 ?_
  refine lv_aload_n hx hb dX1_earlyFault_4 rfl (lv_at hl 0 rfl) ?_
  obtain ⟨v_4, hv_4, hh_5⟩ := hh_2.pin (C := RX1) (T := TX1) (N := 17) hB3 rfl (by decide) hg_r0 (i := 4) (by decide) rfl
  clear hh_2
  obtain ⟨sentences_6, rfl, hlosentences_6, hhisentences_6⟩ := hv_4
  refine j7_read hx hb hown hK (C := RX1) (T := TX1) (N := 17) rfl hly_3_4 hlk_69 (hh_5.at 0 rfl) dX1_earlyFault_5 ?_
  refine lv_icmp_ge (tgt := 23) hx hb dX1_earlyFault_8 (by decide) (fun c_7 => ?_) (fun c_7 => ?_)
  · skip
    have c_7' : checked_3.toInt ≥ sentences_6.toInt := jb_ge (rfl) (rfl) c_7
    refine lv_iconst (v := 0) hx hb dX1_earlyFault_23 (by decide) ?_
    rw [hQ]
    exact W.iret (v := 0) hx hb hr (fun t ht hW => ⟨⟨0, (), rfl, trivial, hh_5.rt (M1 := []) [] rfl ht⟩, by rw [ht]; try exact hh_5.1.1, fun q h9 hq => by rw [ht]; try exact hh_5.1.2.1 q h9 hq⟩) hh_5.1.2.2 dX1_earlyFault_24
  · skip
    have c_7' : checked_3.toInt < sentences_6.toInt := jb_ge_n (rfl) (rfl) c_7
    refine lv_aload_n hx hb dX1_earlyFault_11 rfl (lv_at hl 0 rfl) ?_
    obtain ⟨v_8, hv_8, hh_9⟩ := hh_5.pin (C := RX1) (T := TX1) (N := 17) hB3 rfl (by decide) hg_r0 (i := 8) (by decide) rfl
    clear hh_5
    obtain ⟨early_10, rfl, hg_early_10⟩ := hv_8
    refine j7_read hx hb hown hK (C := RX1) (T := TX1) (N := 17) rfl hly_3_8 hlk_27 (hh_9.at 0 rfl) dX1_earlyFault_12 ?_
    refine lv_aload_n hx hb dX1_earlyFault_15 rfl (lv_at hl 0 rfl) ?_
    refine j7_read hx hb hown hK (C := RX1) (T := TX1) (N := 17) rfl hly_3_10 hlk_72 (hh_9.at 2 rfl) dX1_earlyFault_16 ?_
    refine j7_iald hx hb hK hh_9 hB101 1 rfl (by decide) hg_early_10 (x := checked_3.toInt) (rfl) (by omega) dX1_earlyFault_19 (fun z_11 (hz_11 : True) => ?_)
    refine lv_goto (tgt := 24) hx hb dX1_earlyFault_20 (by decide) ?_
    rw [hQ]
    exact W.iret (v := z_11) hx hb hr (fun t ht hW => ⟨⟨z_11, (), rfl, trivial, hh_9.rt (M1 := []) [] rfl ht⟩, by rw [ht]; try exact hh_9.1.1, fun q h9 hq => by rw [ht]; try exact hh_9.1.2.1 q h9 hq⟩) hh_9.1.2.2 dX1_earlyFault_24
end
section
def EX1_isSentence : List (Nat × Nat) := []
set_option maxHeartbeats 4000000 in
set_option maxRecDepth 20000 in
theorem uX1_isSentence (l : Launch) (dC : Nat → ClassId) (dI : Nat → Nat → Nat) (ca : Nat → ClassId) (base : Nat) (B : jF) (hB : jBok B) (hAp : jAp (dC, dI)) (hB3 : ∀ n G a H, B 3 n G a H ↔ jOb (dC, dI) 3 17 (F3 n G) a H) (hB101 : ∀ n G a H, B 101 n G a H ↔ jAr (dC, dI) (ca 1) (fun j z => True) n a H) (hB171 : ∀ n G a H, B 171 n G a H ↔ jAr (dC, dI) (ca 1) (fun j z => 0 ≤ z.toInt ∧ z.toInt ≤ 1500) n a H) (hB172 : ∀ n G a H, B 172 n G a H ↔ jAr (dC, dI) (ca 1) (fun j z => 0 ≤ z.toInt ∧ z.toInt ≤ 1500) n a H) (hB173 : ∀ n G a H, B 173 n G a H ↔ jAr (dC, dI) (ca 1) (fun j z => True) n a H) (G0 : jT) (H0 : Heap) (r0 : Nat) (a1 : Int32) (r2 : Nat) (n2 : Nat) : Met l yX1_isSentence (jw yX1_isSentence cX1_isSentence 4 (some .boolean)) ({ frames := 0, cells := 0, slots := 0, locals := 0 }) (va_Pc [.ref r0, .int a1, .ref r2] (fun U => U.heap = H0 ∧ jX B base G0 [] H0 ∧ jG dC dI ca base U ∧ G0 r2 = some (101, n2) ∧ G0 r0 = some (3, 0) ∧ jP (dC, dI) G0 H0 [] ∧ n2 ≤ 3000)) (va_Qi (S := Unit) (fun r u => (r = 0 ∨ r = 1) ∧ (True)) (fun u t => jRt (dC, dI) B base G0 EX1_isSentence H0 [] t.heap) (jA base)) 0 0 (jA base) := by
  refine Met.ofW (cc := cX1_isSentence) (maxL := 4) (ret := (some .boolean)) (by decide) rfl ?_
  intro p e s m args below meth c s₁ Bd hml hv
  obtain ⟨rfl, hH0, hX, hG, hg_r2, hg_r0, hP0, hp0⟩ := hv
  have hK := hG.1
  have hx := Bd.exec
  have hb := Bd.bytes
  have hr := Bd.returns
  have hts := atoms_spec (ws := (jw yX1_isSentence cX1_isSentence 4 (some .boolean))) Bd.pre
  have htw : ∀ w ∈ jWl, w.before _ s = true := fun w h => hts w (List.mem_cons_of_mem _ h)
  have hown : s.vm.findClass RX1 = some m.cls := findClass_of_methodNamed Bd.named
  have hlocks := Bd.notSynchronized
  obtain ⟨Q, hQ⟩ : ∃ Q, Q = MQ below (va_Qi (S := Unit) (fun r u => (r = 0 ∨ r = 1) ∧ (True)) (fun u t => jRt (dC, dI) B base G0 EX1_isSentence H0 [] t.heap) (jA base)) ([.ref r0, .int a1, .ref r2] : List Value).toArray s 0 0 (jA base) := ⟨_, rfl⟩
  rw [← hQ]
  have hl := lv_entry ([.ref r0, .int a1, .ref r2]) (n := 4) (Nat.le_of_ble_eq_true rfl)
  rw [lg_entry_eq]
  generalize (lg_sl ([.ref r0, .int a1, .ref r2]) ++ List.replicate (4 - (lg_sl ([.ref r0, .int a1, .ref r2])).length) Slot.unset).toArray = ls at hl ⊢
  have hl : lv_has ls 4 [(0, .ref r0), (1, .int a1), (2, .ref r2)] := hl
  generalize hR : (headSpec (jw yX1_isSentence cX1_isSentence 4 (some .boolean)) ({ frames := 0, cells := 0, slots := 0, locals := 0 })).room = R
  subst hH0
  have hh : jSt (dC, dI) B base G0 G0 EX1_isSentence s.heap 0 0 [] [] [] s.heap [] := jSt.start hX hP0 jMc.nil jIs.nil
  clear hX hP0
  have hk0 : (0 : Int32).toInt = 0 := by decide
  have hk1 : (1 : Int32).toInt = 1 := by decide
  have hly_3_2 := htw (u_lay RX1 TX1 2) (jWc_wsX10 _ (u_in_lay (by decide)))
  have hly_3_4 := htw (u_lay RX1 TX1 4) (jWc_wsX10 _ (u_in_lay (by decide)))
  have hly_3_5 := htw (u_lay RX1 TX1 5) (jWc_wsX10 _ (u_in_lay (by decide)))
  have hly_3_6 := htw (u_lay RX1 TX1 6) (jWc_wsX10 _ (u_in_lay (by decide)))
  have hlk_69 := (htw (.fieldLink RX1 69 "ProofServer$Document" "sentences" "I") (jWr_29 _ (List.mem_of_getElem? (i := 14) rfl)))
  have hlk_21 := (htw (.fieldLink RX1 21 "ProofServer$Document" "ends" "[I") (jWr_10 _ (List.mem_of_getElem? (i := 8) rfl)))
  have hlk_18 := (htw (.fieldLink RX1 18 "ProofServer$Document" "starts" "[I") (jWr_10 _ (List.mem_of_getElem? (i := 7) rfl)))
  have hlk_15 := (htw (.fieldLink RX1 15 "ProofServer$Document" "text" "[I") (jWr_10 _ (List.mem_of_getElem? (i := 6) rfl)))
  have hrg_a1 := jb_rng a1
  refine lv_iload_n hx hb dX1_isSentence_0 rfl (lv_at hl 1 rfl) ?_
  refine lv_if_lt (tgt := 30) hx hb dX1_isSentence_1 (by decide) (fun c_1 => ?_) (fun c_1 => ?_)
  · skip
    have c_1' : a1.toInt < 0 := jb_lt (rfl) ((by decide)) c_1
    refine lv_iconst (v := 0) hx hb dX1_isSentence_30 (by decide) ?_
    rw [hQ]
    exact W.zret (v := 0) hx hb hr (jb_nz (Or.inl rfl)) (fun t ht hW => ⟨⟨0, (), rfl, ⟨(Or.inl rfl), trivial⟩, hh.rt (M1 := []) [] rfl ht⟩, by rw [ht]; try exact hh.1.1, fun q h9 hq => by rw [ht]; try exact hh.1.2.1 q h9 hq⟩) hh.1.2.2 dX1_isSentence_31
  · skip
    have c_1' : a1.toInt ≥ 0 := jb_lt_n (rfl) ((by decide)) c_1
    refine lv_iload_n hx hb dX1_isSentence_4 rfl (lv_at hl 1 rfl) ?_
    refine lv_aload_n hx hb dX1_isSentence_5 rfl (lv_at hl 0 rfl) ?_
    obtain ⟨v_2, hv_2, hh_3⟩ := hh.pin (C := RX1) (T := TX1) (N := 17) hB3 rfl (by decide) hg_r0 (i := 4) (by decide) rfl
    clear hh
    obtain ⟨sentences_4, rfl, hlosentences_4, hhisentences_4⟩ := hv_2
    refine j7_read hx hb hown hK (C := RX1) (T := TX1) (N := 17) rfl hly_3_4 hlk_69 (hh_3.at 0 rfl) dX1_isSentence_6 ?_
    refine lv_icmp_ge (tgt := 30) hx hb dX1_isSentence_9 (by decide) (fun c_5 => ?_) (fun c_5 => ?_)
    · skip
      have c_5' : a1.toInt ≥ sentences_4.toInt := jb_ge (rfl) (rfl) c_5
      refine lv_iconst (v := 0) hx hb dX1_isSentence_30 (by decide) ?_
      rw [hQ]
      exact W.zret (v := 0) hx hb hr (jb_nz (Or.inl rfl)) (fun t ht hW => ⟨⟨0, (), rfl, ⟨(Or.inl rfl), trivial⟩, hh_3.rt (M1 := []) [] rfl ht⟩, by rw [ht]; try exact hh_3.1.1, fun q h9 hq => by rw [ht]; try exact hh_3.1.2.1 q h9 hq⟩) hh_3.1.2.2 dX1_isSentence_31
    · skip
      have c_5' : a1.toInt < sentences_4.toInt := jb_ge_n (rfl) (rfl) c_5
      obtain ⟨v_6, hv_6, hh_7⟩ := hh_3.pin (C := RX1) (T := TX1) (N := 17) hB3 rfl (by decide) hg_r0 (i := 5) (by decide) rfl
      obtain ⟨starts_8, rfl, hg_starts_8⟩ := hv_6
      obtain ⟨f_starts_9, hh_9⟩ := hh_7.cpin hB171 (by decide) (by decide) hg_starts_8
      clear hh_7
      obtain ⟨v_10, hv_10, hh_11⟩ := hh_9.pin (C := RX1) (T := TX1) (N := 17) hB3 rfl (by decide) hg_r0 (i := 6) (by decide) rfl
      obtain ⟨ends_12, rfl, hg_ends_12⟩ := hv_10
      obtain ⟨f_ends_13, hh_13⟩ := hh_11.cpin hB172 (by decide) (by decide) hg_ends_12
      clear hh_11
      refine lv_aload_n hx hb dX1_isSentence_12 rfl (lv_at hl 0 rfl) ?_
      refine j7_read hx hb hown hK (C := RX1) (T := TX1) (N := 17) rfl hly_3_6 hlk_21 (hh_13.at 0 rfl) dX1_isSentence_13 ?_
      refine lv_iload_n hx hb dX1_isSentence_16 rfl (lv_at hl 1 rfl) ?_
      refine j7_ialdM hx hb hK hh_13 hB172 1 rfl (by decide) hg_ends_12 (x := a1.toInt) (rfl) (by omega) (j := 0) rfl dX1_isSentence_17 (fun z_14 ez_14 (hz_14 : 0 ≤ z_14.toInt ∧ z_14.toInt ≤ 1500) => ?_)
      have hqz_14 : z_14.toInt = jSo f_ends_13 (a1.toInt) := by unfold jSo; rw [ez_14]
      refine lv_aload_n hx hb dX1_isSentence_18 rfl (lv_at hl 0 rfl) ?_
      refine j7_read hx hb hown hK (C := RX1) (T := TX1) (N := 17) rfl hly_3_5 hlk_18 (hh_13.at 1 rfl) dX1_isSentence_19 ?_
      refine lv_iload_n hx hb dX1_isSentence_22 rfl (lv_at hl 1 rfl) ?_
      refine j7_ialdM hx hb hK hh_13 hB171 1 rfl (by decide) hg_starts_8 (x := a1.toInt) (rfl) (by omega) (j := 1) rfl dX1_isSentence_23 (fun z_15 ez_15 (hz_15 : 0 ≤ z_15.toInt ∧ z_15.toInt ≤ 1500) => ?_)
      have hqz_15 : z_15.toInt = jSo f_starts_9 (a1.toInt) := by unfold jSo; rw [ez_15]
      refine lv_isub hx hb dX1_isSentence_24 ?_
      refine lv_topi (fun z_16 ez_16 => ?_)
      have hz_16 : z_16.toInt = z_14.toInt - z_15.toInt := by rw [ez_16]; exact jb_isub2 (rfl) (rfl) (by omega)
      refine lv_aload_n hx hb dX1_isSentence_25 rfl (lv_at hl 2 rfl) ?_
      refine j7_len hx hb hK hh_13 hB101 1 rfl (by decide) hg_r2 (by omega) dX1_isSentence_26 (fun z_17 hz_17 => ?_)
      refine lv_icmp_eq (tgt := 32) hx hb dX1_isSentence_27 (by decide) (fun c_18 => ?_) (fun c_18 => ?_)
      · skip
        have c_18' : z_16.toInt = z_17.toInt := jb_eq (rfl) (rfl) c_18
        refine lv_iconst (v := 0) hx hb dX1_isSentence_32 (by decide) ?_
        refine lv_istore_n (lv' := [(3, .int 0), (0, .ref r0), (1, .int a1), (2, .ref r2)]) hx hb dX1_isSentence_33 rfl hl (by decide) rfl (fun ls hl => ?_)
        have L34 : ∀ (N : Nat) (v3_19 : Int32) (H_19 : Heap) (locs_19 : List Loc), jSt (dC, dI) B base G0 G0 EX1_isSentence s.heap 0 0 [(r0, 3, 6, .ref ends_12), (r0, 3, 5, .ref starts_8), (r0, 3, 4, .int sentences_4)] [(ends_12, 172, 40, ca 1, f_ends_13), (starts_8, 171, 40, ca 1, f_starts_9)] [] H_19 locs_19 → (0 ≤ v3_19.toInt ∧ v3_19.toInt ≤ n2) → (n2 - v3_19.toInt : Int) < N → ∀ ls : Array Slot, lv_has ls 4 [(0, .ref r0), (1, .int a1), (2, .ref r2), (3, .int v3_19)] → W p l e R s m ([.ref r0, .int a1, .ref r2] : List Value).toArray below meth c H_19 locs_19 0 0 Q (F0 m 34 ls []) := by
          intro N
          induction N with
          | zero => intro v3_19 H_19 locs_19 hh_19  hi_19 hm; exact absurd hm (by omega)
          | succ N L34 =>
            intro v3_19 H_19 locs_19 hh_19  hi_19 hm_19 ls hl
            obtain ⟨hi_19_0, hi_19_1⟩ := hi_19
            refine lv_iload_n hx hb dX1_isSentence_34 rfl (lv_at hl 3 rfl) ?_
            refine lv_aload_n hx hb dX1_isSentence_35 rfl (lv_at hl 2 rfl) ?_
            refine j7_len hx hb hK hh_19 hB101 1 rfl (by decide) hg_r2 (by omega) dX1_isSentence_36 (fun z_20 hz_20 => ?_)
            refine lv_icmp_ge (tgt := 67) hx hb dX1_isSentence_37 (by decide) (fun c_21 => ?_) (fun c_21 => ?_)
            · skip
              have c_21' : v3_19.toInt ≥ z_20.toInt := jb_ge (rfl) (rfl) c_21
              refine lv_iconst (v := 1) hx hb dX1_isSentence_67 (by decide) ?_
              rw [hQ]
              exact W.zret (v := 1) hx hb hr (jb_nz (Or.inr rfl)) (fun t ht hW => ⟨⟨1, (), rfl, ⟨(Or.inr rfl), trivial⟩, hh_19.rt (M1 := []) [] rfl ht⟩, by rw [ht]; try exact hh_19.1.1, fun q h9 hq => by rw [ht]; try exact hh_19.1.2.1 q h9 hq⟩) hh_19.1.2.2 dX1_isSentence_68
            · skip
              have c_21' : v3_19.toInt < z_20.toInt := jb_ge_n (rfl) (rfl) c_21
              refine lv_aload_n hx hb dX1_isSentence_40 rfl (lv_at hl 0 rfl) ?_
              obtain ⟨v_22, hv_22, hh_23⟩ := hh_19.pin (C := RX1) (T := TX1) (N := 17) hB3 rfl (by decide) hg_r0 (i := 2) (by decide) rfl
              clear hh_19
              obtain ⟨text_24, rfl, hg_text_24⟩ := hv_22
              refine j7_read hx hb hown hK (C := RX1) (T := TX1) (N := 17) rfl hly_3_2 hlk_15 (hh_23.at 0 rfl) dX1_isSentence_41 ?_
              refine lv_aload_n hx hb dX1_isSentence_44 rfl (lv_at hl 0 rfl) ?_
              refine j7_read hx hb hown hK (C := RX1) (T := TX1) (N := 17) rfl hly_3_5 hlk_18 (hh_23.at 2 rfl) dX1_isSentence_45 ?_
              refine lv_iload_n hx hb dX1_isSentence_48 rfl (lv_at hl 1 rfl) ?_
              refine j7_ialdM hx hb hK hh_23 hB171 1 rfl (by decide) hg_starts_8 (x := a1.toInt) (rfl) (by omega) (j := 1) rfl dX1_isSentence_49 (fun z_25 ez_25 (hz_25 : 0 ≤ z_25.toInt ∧ z_25.toInt ≤ 1500) => ?_)
              have hqz_25 : z_25.toInt = jSo f_starts_9 (a1.toInt) := by unfold jSo; rw [ez_25]
              refine lv_iload_n hx hb dX1_isSentence_50 rfl (lv_at hl 3 rfl) ?_
              refine lv_iadd hx hb dX1_isSentence_51 ?_
              refine lv_topi (fun z_26 ez_26 => ?_)
              have hz_26 : z_26.toInt = z_25.toInt + v3_19.toInt := by rw [ez_26]; exact jb_iadd2 (rfl) (rfl) (by omega)
              refine j7_iald hx hb hK hh_23 hB173 1 rfl (by decide) hg_text_24 (x := z_26.toInt) (rfl) (by omega) dX1_isSentence_52 (fun z_27 (hz_27 : True) => ?_)
              refine lv_aload_n hx hb dX1_isSentence_53 rfl (lv_at hl 2 rfl) ?_
              refine lv_iload_n hx hb dX1_isSentence_54 rfl (lv_at hl 3 rfl) ?_
              refine j7_iald hx hb hK hh_23 hB101 1 rfl (by decide) hg_r2 (x := v3_19.toInt) (rfl) (by omega) dX1_isSentence_55 (fun z_28 (hz_28 : True) => ?_)
              refine lv_icmp_eq (tgt := 61) hx hb dX1_isSentence_56 (by decide) (fun c_29 => ?_) (fun c_29 => ?_)
              · skip
                have c_29' : z_27.toInt = z_28.toInt := jb_eq (rfl) (rfl) c_29
                obtain ⟨z_30, ez_30⟩ : ∃ y : Int32, y = v3_19 + 1 := ⟨_, rfl⟩
                refine lv_iinc (v := z_30) (lv' := [(3, .int z_30), (0, .ref r0), (1, .int a1), (2, .ref r2)]) hx hb dX1_isSentence_61 hl (k := 3) rfl (by rw [ez_30]; rfl) (by decide) rfl (fun ls hl => ?_)
                have hz_30 : z_30.toInt = v3_19.toInt + 1 := by rw [ez_30]; exact jb_iadd2 (rfl) (by decide) (by omega)
                refine lv_goto (tgt := 34) hx hb dX1_isSentence_64 (by decide) ?_
                exact L34 z_30 _ _ (hh_23.sub (L1 := [(r0, 3, 6, .ref ends_12), (r0, 3, 5, .ref starts_8), (r0, 3, 4, .int sentences_4)]) [1, 2, 3] rfl (M1 := [(ends_12, 172, 40, ca 1, f_ends_13), (starts_8, 171, 40, ca 1, f_starts_9)]) [0, 1] rfl (I1 := []) [] rfl) (by first | omega | (refine ⟨?_, ?_⟩ <;> (first | omega | rfl | assumption | decide | exact Or.inl rfl | exact Or.inr rfl | (simp only; omega)))) (by omega) _ (lv_sub hl [1, 2, 3, 0] rfl)
              · skip
                have c_29' : z_27.toInt ≠ z_28.toInt := jb_eq_n (rfl) (rfl) c_29
                refine lv_iconst (v := 0) hx hb dX1_isSentence_59 (by decide) ?_
                rw [hQ]
                exact W.zret (v := 0) hx hb hr (jb_nz (Or.inl rfl)) (fun t ht hW => ⟨⟨0, (), rfl, ⟨(Or.inl rfl), trivial⟩, hh_23.rt (M1 := []) [] rfl ht⟩, by rw [ht]; try exact hh_23.1.1, fun q h9 hq => by rw [ht]; try exact hh_23.1.2.1 q h9 hq⟩) hh_23.1.2.2 dX1_isSentence_60
        exact L34 (n2 - (0 : Int32).toInt : Int).toNat.succ 0 _ _ hh_13 (by first | omega | (refine ⟨?_, ?_⟩ <;> (first | omega | rfl | assumption | decide | exact Or.inl rfl | exact Or.inr rfl | (simp only; omega)))) (by omega) _ (lv_sub hl [1, 2, 3, 0] rfl)
      · skip
        have c_18' : z_16.toInt ≠ z_17.toInt := jb_eq_n (rfl) (rfl) c_18
        refine lv_iconst (v := 0) hx hb dX1_isSentence_30 (by decide) ?_
        rw [hQ]
        exact W.zret (v := 0) hx hb hr (jb_nz (Or.inl rfl)) (fun t ht hW => ⟨⟨0, (), rfl, ⟨(Or.inl rfl), trivial⟩, hh_13.rt (M1 := []) [] rfl ht⟩, by rw [ht]; try exact hh_13.1.1, fun q h9 hq => by rw [ht]; try exact hh_13.1.2.1 q h9 hq⟩) hh_13.1.2.2 dX1_isSentence_31
end
section
theorem dX1_addChecked_0 : decode cX1_addChecked 0 = .ok (.aload_n 0, 1) := by decide +kernel
theorem dX1_addChecked_1 : decode cX1_addChecked 1 = .ok (.getfield 72, 3) := by decide +kernel
theorem dX1_addChecked_4 : decode cX1_addChecked 4 = .ok (.aload_n 0, 1) := by decide +kernel
theorem dX1_addChecked_5 : decode cX1_addChecked 5 = .ok (.getfield 69, 3) := by decide +kernel
theorem dX1_addChecked_8 : decode cX1_addChecked 8 = .ok (.if_icmp .ge 23, 3) := by decide +kernel
theorem dX1_addChecked_11 : decode cX1_addChecked 11 = .ok (.aload_n 0, 1) := by decide +kernel
theorem dX1_addChecked_12 : decode cX1_addChecked 12 = .ok (.getfield 32, 3) := by decide +kernel
theorem dX1_addChecked_15 : decode cX1_addChecked 15 = .ok (.aload_n 0, 1) := by decide +kernel
theorem dX1_addChecked_16 : decode cX1_addChecked 16 = .ok (.getfield 72, 3) := by decide +kernel
theorem dX1_addChecked_19 : decode cX1_addChecked 19 = .ok (.aload_n 1, 1) := by decide +kernel
theorem dX1_addChecked_20 : decode cX1_addChecked 20 = .ok (.aastore, 1) := by decide +kernel
theorem dX1_addChecked_21 : decode cX1_addChecked 21 = .ok (.aload_n 0, 1) := by decide +kernel
theorem dX1_addChecked_22 : decode cX1_addChecked 22 = .ok (.dup, 1) := by decide +kernel
theorem dX1_addChecked_23 : decode cX1_addChecked 23 = .ok (.getfield 72, 3) := by decide +kernel
theorem dX1_addChecked_26 : decode cX1_addChecked 26 = .ok (.iconst 1, 1) := by decide +kernel
theorem dX1_addChecked_27 : decode cX1_addChecked 27 = .ok (.iadd, 1) := by decide +kernel
theorem dX1_addChecked_28 : decode cX1_addChecked 28 = .ok (.putfield 72, 3) := by decide +kernel
theorem dX1_addChecked_31 : decode cX1_addChecked 31 = .ok (.return_, 1) := by decide +kernel
theorem dX9_isSameRow_0 : decode cX9_isSameRow 0 = .ok (.aload_n 0, 1) := by decide +kernel
theorem dX9_isSameRow_1 : decode cX9_isSameRow 1 = .ok (.astore_n 2, 1) := by decide +kernel
theorem dX9_isSameRow_2 : decode cX9_isSameRow 2 = .ok (.aload_n 1, 1) := by decide +kernel
theorem dX9_isSameRow_3 : decode cX9_isSameRow 3 = .ok (.astore_n 3, 1) := by decide +kernel
theorem dX9_isSameRow_4 : decode cX9_isSameRow 4 = .ok (.iconst 0, 1) := by decide +kernel
theorem dX9_isSameRow_5 : decode cX9_isSameRow 5 = .ok (.istore 4, 2) := by decide +kernel
theorem dX9_isSameRow_7 : decode cX9_isSameRow 7 = .ok (.iload 4, 2) := by decide +kernel
theorem dX9_isSameRow_9 : decode cX9_isSameRow 9 = .ok (.bipush 41, 2) := by decide +kernel
theorem dX9_isSameRow_11 : decode cX9_isSameRow 11 = .ok (.if_icmp .gt 87, 3) := by decide +kernel
theorem dX9_isSameRow_14 : decode cX9_isSameRow 14 = .ok (.aload_n 2, 1) := by decide +kernel
theorem dX9_isSameRow_15 : decode cX9_isSameRow 15 = .ok (.aload_n 3, 1) := by decide +kernel
theorem dX9_isSameRow_16 : decode cX9_isSameRow 16 = .ok (.if_acmp .ne 5, 3) := by decide +kernel
theorem dX9_isSameRow_19 : decode cX9_isSameRow 19 = .ok (.iconst 1, 1) := by decide +kernel
theorem dX9_isSameRow_20 : decode cX9_isSameRow 20 = .ok (.ireturn, 1) := by decide +kernel
theorem dX9_isSameRow_21 : decode cX9_isSameRow 21 = .ok (.aload_n 2, 1) := by decide +kernel
theorem dX9_isSameRow_22 : decode cX9_isSameRow 22 = .ok (.ifnull 20, 3) := by decide +kernel
theorem dX9_isSameRow_25 : decode cX9_isSameRow 25 = .ok (.aload_n 3, 1) := by decide +kernel
theorem dX9_isSameRow_26 : decode cX9_isSameRow 26 = .ok (.ifnull 16, 3) := by decide +kernel
theorem dX9_isSameRow_29 : decode cX9_isSameRow 29 = .ok (.aload_n 2, 1) := by decide +kernel
theorem dX9_isSameRow_30 : decode cX9_isSameRow 30 = .ok (.getfield 40, 3) := by decide +kernel
theorem dX9_isSameRow_33 : decode cX9_isSameRow 33 = .ok (.arraylength, 1) := by decide +kernel
theorem dX9_isSameRow_34 : decode cX9_isSameRow 34 = .ok (.aload_n 3, 1) := by decide +kernel
theorem dX9_isSameRow_35 : decode cX9_isSameRow 35 = .ok (.getfield 40, 3) := by decide +kernel
theorem dX9_isSameRow_38 : decode cX9_isSameRow 38 = .ok (.arraylength, 1) := by decide +kernel
theorem dX9_isSameRow_39 : decode cX9_isSameRow 39 = .ok (.if_icmp .eq 5, 3) := by decide +kernel
theorem dX9_isSameRow_42 : decode cX9_isSameRow 42 = .ok (.iconst 0, 1) := by decide +kernel
theorem dX9_isSameRow_43 : decode cX9_isSameRow 43 = .ok (.ireturn, 1) := by decide +kernel
theorem dX9_isSameRow_44 : decode cX9_isSameRow 44 = .ok (.iconst 0, 1) := by decide +kernel
theorem dX9_isSameRow_45 : decode cX9_isSameRow 45 = .ok (.istore 5, 2) := by decide +kernel
theorem dX9_isSameRow_47 : decode cX9_isSameRow 47 = .ok (.iload 5, 2) := by decide +kernel
theorem dX9_isSameRow_49 : decode cX9_isSameRow 49 = .ok (.aload_n 2, 1) := by decide +kernel
theorem dX9_isSameRow_50 : decode cX9_isSameRow 50 = .ok (.getfield 40, 3) := by decide +kernel
theorem dX9_isSameRow_53 : decode cX9_isSameRow 53 = .ok (.arraylength, 1) := by decide +kernel
theorem dX9_isSameRow_54 : decode cX9_isSameRow 54 = .ok (.if_icmp .ge 28, 3) := by decide +kernel
theorem dX9_isSameRow_57 : decode cX9_isSameRow 57 = .ok (.aload_n 2, 1) := by decide +kernel
theorem dX9_isSameRow_58 : decode cX9_isSameRow 58 = .ok (.getfield 40, 3) := by decide +kernel
theorem dX9_isSameRow_61 : decode cX9_isSameRow 61 = .ok (.iload 5, 2) := by decide +kernel
theorem dX9_isSameRow_63 : decode cX9_isSameRow 63 = .ok (.iaload, 1) := by decide +kernel
theorem dX9_isSameRow_64 : decode cX9_isSameRow 64 = .ok (.aload_n 3, 1) := by decide +kernel
theorem dX9_isSameRow_65 : decode cX9_isSameRow 65 = .ok (.getfield 40, 3) := by decide +kernel
theorem dX9_isSameRow_68 : decode cX9_isSameRow 68 = .ok (.iload 5, 2) := by decide +kernel
theorem dX9_isSameRow_70 : decode cX9_isSameRow 70 = .ok (.iaload, 1) := by decide +kernel
theorem dX9_isSameRow_71 : decode cX9_isSameRow 71 = .ok (.if_icmp .eq 5, 3) := by decide +kernel
theorem dX9_isSameRow_74 : decode cX9_isSameRow 74 = .ok (.iconst 0, 1) := by decide +kernel
theorem dX9_isSameRow_75 : decode cX9_isSameRow 75 = .ok (.ireturn, 1) := by decide +kernel
theorem dX9_isSameRow_76 : decode cX9_isSameRow 76 = .ok (.iinc 5 1, 3) := by decide +kernel
theorem dX9_isSameRow_79 : decode cX9_isSameRow 79 = .ok (.goto (-32), 3) := by decide +kernel
theorem dX9_isSameRow_82 : decode cX9_isSameRow 82 = .ok (.aload_n 2, 1) := by decide +kernel
theorem dX9_isSameRow_83 : decode cX9_isSameRow 83 = .ok (.getfield 36, 3) := by decide +kernel
theorem dX9_isSameRow_86 : decode cX9_isSameRow 86 = .ok (.astore_n 2, 1) := by decide +kernel
theorem dX9_isSameRow_87 : decode cX9_isSameRow 87 = .ok (.aload_n 3, 1) := by decide +kernel
theorem dX9_isSameRow_88 : decode cX9_isSameRow 88 = .ok (.getfield 36, 3) := by decide +kernel
theorem dX9_isSameRow_91 : decode cX9_isSameRow 91 = .ok (.astore_n 3, 1) := by decide +kernel
theorem dX9_isSameRow_92 : decode cX9_isSameRow 92 = .ok (.iinc 4 1, 3) := by decide +kernel
theorem dX9_isSameRow_95 : decode cX9_isSameRow 95 = .ok (.goto (-88), 3) := by decide +kernel
theorem dX9_isSameRow_98 : decode cX9_isSameRow 98 = .ok (.iconst 0, 1) := by decide +kernel
theorem dX9_isSameRow_99 : decode cX9_isSameRow 99 = .ok (.ireturn, 1) := by decide +kernel
def EX9_isSameRow : List (Nat × Nat) := []
def EX9_isSameRowZ : List (Nat × Nat) := []
set_option maxHeartbeats 4000000 in
set_option maxRecDepth 20000 in
theorem uX9_isSameRow (l : Launch) (dC : Nat → ClassId) (dI : Nat → Nat → Nat) (ca : Nat → ClassId) (base : Nat) (B : jF) (hB : jBok B) (hAp : jAp (dC, dI)) (hB11 : ∀ n G a H, B 11 n G a H ↔ jOb (dC, dI) 11 9 (F11 n G) a H) (hB101 : ∀ n G a H, B 101 n G a H ↔ jAr (dC, dI) (ca 1) (fun j z => True) n a H) (G0 : jT) (H0 : Heap) (r0 : Nat) (r1 : Nat) : Met l yX9_isSameRow (jw yX9_isSameRow cX9_isSameRow 6 (some .boolean)) ({ frames := 0, cells := 0, slots := 0, locals := 0 }) (va_Pc [.ref r0, .ref r1] (fun U => U.heap = H0 ∧ jX B base G0 [] H0 ∧ jG dC dI ca base U ∧ G0 r0 = some (11, 0) ∧ G0 r1 = some (11, 0) ∧ jP (dC, dI) G0 H0 [] ∧ True)) (va_Qi (S := Unit) (fun r u => (r = 0 ∨ r = 1) ∧ (True)) (fun u t => jRt (dC, dI) B base G0 EX9_isSameRow H0 [] t.heap) (jA base)) 0 0 (jA base) := by
  refine Met.ofW (cc := cX9_isSameRow) (maxL := 6) (ret := (some .boolean)) (by decide) rfl ?_
  intro p e s m args below meth c s₁ Bd hml hv
  obtain ⟨rfl, hH0, hX, hG, hg_r0, hg_r1, hP0, hp0⟩ := hv
  have hK := hG.1
  have hx := Bd.exec
  have hb := Bd.bytes
  have hr := Bd.returns
  have hts := atoms_spec (ws := (jw yX9_isSameRow cX9_isSameRow 6 (some .boolean))) Bd.pre
  have htw : ∀ w ∈ jWl, w.before _ s = true := fun w h => hts w (List.mem_cons_of_mem _ h)
  have hown : s.vm.findClass RX9 = some m.cls := findClass_of_methodNamed Bd.named
  have hlocks := Bd.notSynchronized
  obtain ⟨Q, hQ⟩ : ∃ Q, Q = MQ below (va_Qi (S := Unit) (fun r u => (r = 0 ∨ r = 1) ∧ (True)) (fun u t => jRt (dC, dI) B base G0 EX9_isSameRow H0 [] t.heap) (jA base)) ([.ref r0, .ref r1] : List Value).toArray s 0 0 (jA base) := ⟨_, rfl⟩
  rw [← hQ]
  have hl := lv_entry ([.ref r0, .ref r1]) (n := 6) (Nat.le_of_ble_eq_true rfl)
  rw [lg_entry_eq]
  generalize (lg_sl ([.ref r0, .ref r1]) ++ List.replicate (6 - (lg_sl ([.ref r0, .ref r1])).length) Slot.unset).toArray = ls at hl ⊢
  have hl : lv_has ls 6 [(0, .ref r0), (1, .ref r1)] := hl
  generalize hR : (headSpec (jw yX9_isSameRow cX9_isSameRow 6 (some .boolean)) ({ frames := 0, cells := 0, slots := 0, locals := 0 })).room = R
  subst hH0
  have hh : jSt (dC, dI) B base G0 G0 EX9_isSameRow s.heap 0 0 [] [] [] s.heap [] := jSt.start hX hP0 jMc.nil jIs.nil
  clear hX hP0
  have hk0 : (0 : Int32).toInt = 0 := by decide
  have hk1 : (1 : Int32).toInt = 1 := by decide
  have hk41 : (41 : Int32).toInt = 41 := by decide
  have hly_11_0 := htw (u_lay RX9 TX9 0) (jWc_wsX90 _ (u_in_lay (by decide)))
  have hly_11_1 := htw (u_lay RX9 TX9 1) (jWc_wsX90 _ (u_in_lay (by decide)))
  have hlk_40 := (htw (.fieldLink RX9 40 "ProofServer$State" "units" "[I") (jWr_9 _ (List.mem_of_getElem? (i := 2) rfl)))
  have hlk_36 := (htw (.fieldLink RX9 36 "ProofServer$State" "ahead" "LProofServer$State;") (jWr_9 _ (List.mem_of_getElem? (i := 1) rfl)))
  refine lv_aload_n hx hb dX9_isSameRow_0 rfl (lv_at hl 0 rfl) ?_
  refine lv_astore_n (lv' := [(2, .ref r0), (0, .ref r0), (1, .ref r1)]) hx hb dX9_isSameRow_1 rfl hl (by decide) rfl (fun ls hl => ?_)
  refine lv_aload_n hx hb dX9_isSameRow_2 rfl (lv_at hl 2 rfl) ?_
  refine lv_astore_n (lv' := [(3, .ref r1), (2, .ref r0), (0, .ref r0), (1, .ref r1)]) hx hb dX9_isSameRow_3 rfl hl (by decide) rfl (fun ls hl => ?_)
  refine lv_iconst (v := 0) hx hb dX9_isSameRow_4 (by decide) ?_
  refine lv_istore (lv' := [(4, .int 0), (3, .ref r1), (2, .ref r0), (0, .ref r0), (1, .ref r1)]) hx hb dX9_isSameRow_5 hl (by decide) rfl (fun ls hl => ?_)
  have L7 : ∀ (N : Nat) (v2_1 : Option Nat) (v3_1 : Option Nat) (v4_1 : Int32) (H_1 : Heap) (locs_1 : List Loc), jSt (dC, dI) B base G0 G0 EX9_isSameRow s.heap 0 0 [] [] [] H_1 locs_1 → jQn 11 0 G0 v2_1 → jQn 11 0 G0 v3_1 → (0 ≤ v4_1.toInt ∧ v4_1.toInt ≤ 42) → (42 - v4_1.toInt : Int) < N → ∀ ls : Array Slot, lv_has ls 6 [(0, .ref r0), (1, .ref r1), (2, va_rf v2_1), (3, va_rf v3_1), (4, .int v4_1)] → W p l e R s m ([.ref r0, .ref r1] : List Value).toArray below meth c H_1 locs_1 0 0 Q (F0 m 7 ls []) := by
    intro N
    induction N with
    | zero => intro v2_1 v3_1 v4_1 H_1 locs_1 hh_1 hq_v2_1 hq_v3_1 hi_1 hm; exact absurd hm (by omega)
    | succ N L7 =>
      intro v2_1 v3_1 v4_1 H_1 locs_1 hh_1 hq_v2_1 hq_v3_1 hi_1 hm_1 ls hl
      obtain ⟨hi_1_0, hi_1_1⟩ := hi_1
      rcases hq_v2_1 with rfl | ⟨nv_2, rfl, hg_nv_2⟩
      · have hl : lv_has ls 6 [(0, .ref r0), (1, .ref r1), (2, .null), (3, va_rf v3_1), (4, .int v4_1)] := hl
        rcases hq_v3_1 with rfl | ⟨nv_3, rfl, hg_nv_3⟩
        · have hl : lv_has ls 6 [(0, .ref r0), (1, .ref r1), (2, .null), (3, .null), (4, .int v4_1)] := hl
          refine lv_iload hx hb dX9_isSameRow_7 (lv_at hl 4 rfl) ?_
          refine lv_bipush (v := 41) hx hb dX9_isSameRow_9 (by decide) ?_
          refine lv_icmp_gt (tgt := 98) hx hb dX9_isSameRow_11 (by decide) (fun c_4 => ?_) (fun c_4 => ?_)
          · skip
            have c_4' : v4_1.toInt > 41 := jb_gt (rfl) ((by decide)) c_4
            refine lv_iconst (v := 0) hx hb dX9_isSameRow_98 (by decide) ?_
            rw [hQ]
            exact W.zret (v := 0) hx hb hr (jb_nz (Or.inl rfl)) (fun t ht hW => ⟨⟨0, (), rfl, ⟨(Or.inl rfl), trivial⟩, hh_1.rt (M1 := []) [] rfl ht⟩, by rw [ht]; try exact hh_1.1.1, fun q h9 hq => by rw [ht]; try exact hh_1.1.2.1 q h9 hq⟩) hh_1.1.2.2 dX9_isSameRow_99
          · skip
            have c_4' : v4_1.toInt ≤ 41 := jb_gt_n (rfl) ((by decide)) c_4
            refine j7_nld_n hx hb dX9_isSameRow_14 rfl (lv_at hl 2 rfl) ?_
            refine j7_nld_n hx hb dX9_isSameRow_15 rfl (lv_at hl 3 rfl) ?_
            refine lv_acmp_ne (rx := none) (ry := none) (tgt := 21) hx hb dX9_isSameRow_16 (by decide) (fun c_5 => ?_) (fun c_5 => ?_)
            · skip
              exact absurd rfl c_5
            · skip
              refine lv_iconst (v := 1) hx hb dX9_isSameRow_19 (by decide) ?_
              rw [hQ]
              exact W.zret (v := 1) hx hb hr (jb_nz (Or.inr rfl)) (fun t ht hW => ⟨⟨1, (), rfl, ⟨(Or.inr rfl), trivial⟩, hh_1.rt (M1 := []) [] rfl ht⟩, by rw [ht]; try exact hh_1.1.1, fun q h9 hq => by rw [ht]; try exact hh_1.1.2.1 q h9 hq⟩) hh_1.1.2.2 dX9_isSameRow_20
        · have hl : lv_has ls 6 [(0, .ref r0), (1, .ref r1), (2, .null), (3, .ref nv_3), (4, .int v4_1)] := hl
          refine lv_iload hx hb dX9_isSameRow_7 (lv_at hl 4 rfl) ?_
          refine lv_bipush (v := 41) hx hb dX9_isSameRow_9 (by decide) ?_
          refine lv_icmp_gt (tgt := 98) hx hb dX9_isSameRow_11 (by decide) (fun c_6 => ?_) (fun c_6 => ?_)
          · skip
            have c_6' : v4_1.toInt > 41 := jb_gt (rfl) ((by decide)) c_6
            refine lv_iconst (v := 0) hx hb dX9_isSameRow_98 (by decide) ?_
            rw [hQ]
            exact W.zret (v := 0) hx hb hr (jb_nz (Or.inl rfl)) (fun t ht hW => ⟨⟨0, (), rfl, ⟨(Or.inl rfl), trivial⟩, hh_1.rt (M1 := []) [] rfl ht⟩, by rw [ht]; try exact hh_1.1.1, fun q h9 hq => by rw [ht]; try exact hh_1.1.2.1 q h9 hq⟩) hh_1.1.2.2 dX9_isSameRow_99
          · skip
            have c_6' : v4_1.toInt ≤ 41 := jb_gt_n (rfl) ((by decide)) c_6
            refine j7_nld_n hx hb dX9_isSameRow_14 rfl (lv_at hl 2 rfl) ?_
            refine lv_aload_n hx hb dX9_isSameRow_15 rfl (lv_at hl 3 rfl) ?_
            refine lv_acmp_ne (rx := none) (ry := (some nv_3)) (tgt := 21) hx hb dX9_isSameRow_16 (by decide) (fun c_7 => ?_) (fun c_7 => ?_)
            · skip
              refine j7_nld_n hx hb dX9_isSameRow_21 rfl (lv_at hl 2 rfl) ?_
              refine lv_ifnullN (tgt := 42) hx hb dX9_isSameRow_22 (by decide) ?_
              refine lv_iconst (v := 0) hx hb dX9_isSameRow_42 (by decide) ?_
              rw [hQ]
              exact W.zret (v := 0) hx hb hr (jb_nz (Or.inl rfl)) (fun t ht hW => ⟨⟨0, (), rfl, ⟨(Or.inl rfl), trivial⟩, hh_1.rt (M1 := []) [] rfl ht⟩, by rw [ht]; try exact hh_1.1.1, fun q h9 hq => by rw [ht]; try exact hh_1.1.2.1 q h9 hq⟩) hh_1.1.2.2 dX9_isSameRow_43
            · skip
              cases c_7
      · have hl : lv_has ls 6 [(0, .ref r0), (1, .ref r1), (2, .ref nv_2), (3, va_rf v3_1), (4, .int v4_1)] := hl
        rcases hq_v3_1 with rfl | ⟨nv_8, rfl, hg_nv_8⟩
        · have hl : lv_has ls 6 [(0, .ref r0), (1, .ref r1), (2, .ref nv_2), (3, .null), (4, .int v4_1)] := hl
          refine lv_iload hx hb dX9_isSameRow_7 (lv_at hl 4 rfl) ?_
          refine lv_bipush (v := 41) hx hb dX9_isSameRow_9 (by decide) ?_
          refine lv_icmp_gt (tgt := 98) hx hb dX9_isSameRow_11 (by decide) (fun c_9 => ?_) (fun c_9 => ?_)
          · skip
            have c_9' : v4_1.toInt > 41 := jb_gt (rfl) ((by decide)) c_9
            refine lv_iconst (v := 0) hx hb dX9_isSameRow_98 (by decide) ?_
            rw [hQ]
            exact W.zret (v := 0) hx hb hr (jb_nz (Or.inl rfl)) (fun t ht hW => ⟨⟨0, (), rfl, ⟨(Or.inl rfl), trivial⟩, hh_1.rt (M1 := []) [] rfl ht⟩, by rw [ht]; try exact hh_1.1.1, fun q h9 hq => by rw [ht]; try exact hh_1.1.2.1 q h9 hq⟩) hh_1.1.2.2 dX9_isSameRow_99
          · skip
            have c_9' : v4_1.toInt ≤ 41 := jb_gt_n (rfl) ((by decide)) c_9
            refine lv_aload_n hx hb dX9_isSameRow_14 rfl (lv_at hl 2 rfl) ?_
            refine j7_nld_n hx hb dX9_isSameRow_15 rfl (lv_at hl 3 rfl) ?_
            refine lv_acmp_ne (rx := (some nv_2)) (ry := none) (tgt := 21) hx hb dX9_isSameRow_16 (by decide) (fun c_10 => ?_) (fun c_10 => ?_)
            · skip
              refine lv_aload_n hx hb dX9_isSameRow_21 rfl (lv_at hl 2 rfl) ?_
              refine lv_ifnull hx hb dX9_isSameRow_22 ?_
              refine j7_nld_n hx hb dX9_isSameRow_25 rfl (lv_at hl 3 rfl) ?_
              refine lv_ifnullN (tgt := 42) hx hb dX9_isSameRow_26 (by decide) ?_
              refine lv_iconst (v := 0) hx hb dX9_isSameRow_42 (by decide) ?_
              rw [hQ]
              exact W.zret (v := 0) hx hb hr (jb_nz (Or.inl rfl)) (fun t ht hW => ⟨⟨0, (), rfl, ⟨(Or.inl rfl), trivial⟩, hh_1.rt (M1 := []) [] rfl ht⟩, by rw [ht]; try exact hh_1.1.1, fun q h9 hq => by rw [ht]; try exact hh_1.1.2.1 q h9 hq⟩) hh_1.1.2.2 dX9_isSameRow_43
            · skip
              cases c_10
        · have hl : lv_has ls 6 [(0, .ref r0), (1, .ref r1), (2, .ref nv_2), (3, .ref nv_8), (4, .int v4_1)] := hl
          refine lv_iload hx hb dX9_isSameRow_7 (lv_at hl 4 rfl) ?_
          refine lv_bipush (v := 41) hx hb dX9_isSameRow_9 (by decide) ?_
          refine lv_icmp_gt (tgt := 98) hx hb dX9_isSameRow_11 (by decide) (fun c_11 => ?_) (fun c_11 => ?_)
          · skip
            have c_11' : v4_1.toInt > 41 := jb_gt (rfl) ((by decide)) c_11
            refine lv_iconst (v := 0) hx hb dX9_isSameRow_98 (by decide) ?_
            rw [hQ]
            exact W.zret (v := 0) hx hb hr (jb_nz (Or.inl rfl)) (fun t ht hW => ⟨⟨0, (), rfl, ⟨(Or.inl rfl), trivial⟩, hh_1.rt (M1 := []) [] rfl ht⟩, by rw [ht]; try exact hh_1.1.1, fun q h9 hq => by rw [ht]; try exact hh_1.1.2.1 q h9 hq⟩) hh_1.1.2.2 dX9_isSameRow_99
          · skip
            have c_11' : v4_1.toInt ≤ 41 := jb_gt_n (rfl) ((by decide)) c_11
            refine lv_aload_n hx hb dX9_isSameRow_14 rfl (lv_at hl 2 rfl) ?_
            refine lv_aload_n hx hb dX9_isSameRow_15 rfl (lv_at hl 3 rfl) ?_
            refine lv_acmp_ne (rx := (some nv_2)) (ry := (some nv_8)) (tgt := 21) hx hb dX9_isSameRow_16 (by decide) (fun c_12 => ?_) (fun c_12 => ?_)
            · skip
              refine lv_aload_n hx hb dX9_isSameRow_21 rfl (lv_at hl 2 rfl) ?_
              refine lv_ifnull hx hb dX9_isSameRow_22 ?_
              refine lv_aload_n hx hb dX9_isSameRow_25 rfl (lv_at hl 3 rfl) ?_
              refine lv_ifnull hx hb dX9_isSameRow_26 ?_
              refine lv_aload_n hx hb dX9_isSameRow_29 rfl (lv_at hl 2 rfl) ?_
              obtain ⟨v_13, hv_13, hh_14⟩ := hh_1.pin (C := RX9) (T := TX9) (N := 9) hB11 rfl (by decide) hg_nv_2 (i := 1) (by decide) rfl
              clear hh_1
              obtain ⟨units_15, nunits_15, rfl, hg_units_15, hn_units_15⟩ := hv_13
              refine j7_read hx hb hown hK (C := RX9) (T := TX9) (N := 9) rfl hly_11_1 hlk_40 (hh_14.at 0 rfl) dX9_isSameRow_30 ?_
              refine j7_len hx hb hK hh_14 hB101 1 rfl (by decide) hg_units_15 (by omega) dX9_isSameRow_33 (fun z_16 hz_16 => ?_)
              refine lv_aload_n hx hb dX9_isSameRow_34 rfl (lv_at hl 3 rfl) ?_
              obtain ⟨v_17, hv_17, hh_18⟩ := hh_14.pin (C := RX9) (T := TX9) (N := 9) hB11 rfl (by decide) hg_nv_8 (i := 1) (by decide) rfl
              clear hh_14
              obtain ⟨units_19, nunits_19, rfl, hg_units_19, hn_units_19⟩ := hv_17
              refine j7_read hx hb hown hK (C := RX9) (T := TX9) (N := 9) rfl hly_11_1 hlk_40 (hh_18.at 0 rfl) dX9_isSameRow_35 ?_
              refine j7_len hx hb hK hh_18 hB101 1 rfl (by decide) hg_units_19 (by omega) dX9_isSameRow_38 (fun z_20 hz_20 => ?_)
              refine lv_icmp_eq (tgt := 44) hx hb dX9_isSameRow_39 (by decide) (fun c_21 => ?_) (fun c_21 => ?_)
              · skip
                have c_21' : z_16.toInt = z_20.toInt := jb_eq (rfl) (rfl) c_21
                refine lv_iconst (v := 0) hx hb dX9_isSameRow_44 (by decide) ?_
                refine lv_istore (lv' := [(5, .int 0), (0, .ref r0), (1, .ref r1), (2, .ref nv_2), (3, .ref nv_8), (4, .int v4_1)]) hx hb dX9_isSameRow_45 hl (by decide) rfl (fun ls hl => ?_)
                have L47 : ∀ (N : Nat) (v5_22 : Int32) (H_22 : Heap) (locs_22 : List Loc), jSt (dC, dI) B base G0 G0 EX9_isSameRow s.heap 0 0 [(nv_8, 11, 1, .ref units_19), (nv_2, 11, 1, .ref units_15)] [] [] H_22 locs_22 → (0 ≤ v5_22.toInt ∧ v5_22.toInt ≤ 1500) → (1501 - v5_22.toInt : Int) < N → ∀ ls : Array Slot, lv_has ls 6 [(0, .ref r0), (1, .ref r1), (2, .ref nv_2), (3, .ref nv_8), (4, .int v4_1), (5, .int v5_22)] → W p l e R s m ([.ref r0, .ref r1] : List Value).toArray below meth c H_22 locs_22 0 0 Q (F0 m 47 ls []) := by
                  intro N
                  induction N with
                  | zero => intro v5_22 H_22 locs_22 hh_22  hi_22 hm; exact absurd hm (by omega)
                  | succ N L47 =>
                    intro v5_22 H_22 locs_22 hh_22  hi_22 hm_22 ls hl
                    obtain ⟨hi_22_0, hi_22_1⟩ := hi_22
                    refine lv_iload hx hb dX9_isSameRow_47 (lv_at hl 5 rfl) ?_
                    refine lv_aload_n hx hb dX9_isSameRow_49 rfl (lv_at hl 2 rfl) ?_
                    refine j7_read hx hb hown hK (C := RX9) (T := TX9) (N := 9) rfl hly_11_1 hlk_40 (hh_22.at 1 rfl) dX9_isSameRow_50 ?_
                    refine j7_len hx hb hK hh_22 hB101 1 rfl (by decide) hg_units_15 (by omega) dX9_isSameRow_53 (fun z_23 hz_23 => ?_)
                    refine lv_icmp_ge (tgt := 82) hx hb dX9_isSameRow_54 (by decide) (fun c_24 => ?_) (fun c_24 => ?_)
                    · skip
                      have c_24' : v5_22.toInt ≥ z_23.toInt := jb_ge (rfl) (rfl) c_24
                      refine lv_aload_n hx hb dX9_isSameRow_82 rfl (lv_at hl 2 rfl) ?_
                      obtain ⟨v_25, hv_25, hh_26⟩ := hh_22.pin (C := RX9) (T := TX9) (N := 9) hB11 rfl (by decide) hg_nv_2 (i := 0) (by decide) rfl
                      clear hh_22
                      rcases hv_25 with rfl | ⟨ahead_27, rfl, hg_ahead_27⟩
                      · refine j7_read hx hb hown hK (C := RX9) (T := TX9) (N := 9) rfl hly_11_0 hlk_36 (hh_26.at 0 rfl) dX9_isSameRow_83 ?_
                        refine j7_nst_n (lv' := [(2, .null), (0, .ref r0), (1, .ref r1), (3, .ref nv_8), (4, .int v4_1), (5, .int v5_22)]) hx hb dX9_isSameRow_86 rfl hl (by decide) rfl (fun ls hl => ?_)
                        refine lv_aload_n hx hb dX9_isSameRow_87 rfl (lv_at hl 3 rfl) ?_
                        obtain ⟨v_28, hv_28, hh_29⟩ := hh_26.pin (C := RX9) (T := TX9) (N := 9) hB11 rfl (by decide) hg_nv_8 (i := 0) (by decide) rfl
                        clear hh_26
                        rcases hv_28 with rfl | ⟨ahead_30, rfl, hg_ahead_30⟩
                        · refine j7_read hx hb hown hK (C := RX9) (T := TX9) (N := 9) rfl hly_11_0 hlk_36 (hh_29.at 0 rfl) dX9_isSameRow_88 ?_
                          refine j7_nst_n (lv' := [(3, .null), (2, .null), (0, .ref r0), (1, .ref r1), (4, .int v4_1), (5, .int v5_22)]) hx hb dX9_isSameRow_91 rfl hl (by decide) rfl (fun ls hl => ?_)
                          obtain ⟨z_31, ez_31⟩ : ∃ y : Int32, y = v4_1 + 1 := ⟨_, rfl⟩
                          refine lv_iinc (v := z_31) (lv' := [(4, .int z_31), (3, .null), (2, .null), (0, .ref r0), (1, .ref r1), (5, .int v5_22)]) hx hb dX9_isSameRow_92 hl (k := 4) rfl (by rw [ez_31]; rfl) (by decide) rfl (fun ls hl => ?_)
                          have hz_31 : z_31.toInt = v4_1.toInt + 1 := by rw [ez_31]; exact jb_iadd2 (rfl) (by decide) (by omega)
                          refine lv_goto (tgt := 7) hx hb dX9_isSameRow_95 (by decide) ?_
                          exact L7 none none z_31 _ _ (hh_29.sub (L1 := []) [] rfl (M1 := []) [] rfl (I1 := []) [] rfl) (Or.inl rfl) (Or.inl rfl) (by first | omega | (refine ⟨?_, ?_⟩ <;> (first | omega | rfl | assumption | decide | exact Or.inl rfl | exact Or.inr rfl | (simp only; omega)))) (by omega) _ (lv_sub hl [3, 4, 2, 1, 0] rfl)
                        · refine j7_read hx hb hown hK (C := RX9) (T := TX9) (N := 9) rfl hly_11_0 hlk_36 (hh_29.at 0 rfl) dX9_isSameRow_88 ?_
                          refine lv_astore_n (lv' := [(3, .ref ahead_30), (2, .null), (0, .ref r0), (1, .ref r1), (4, .int v4_1), (5, .int v5_22)]) hx hb dX9_isSameRow_91 rfl hl (by decide) rfl (fun ls hl => ?_)
                          obtain ⟨z_32, ez_32⟩ : ∃ y : Int32, y = v4_1 + 1 := ⟨_, rfl⟩
                          refine lv_iinc (v := z_32) (lv' := [(4, .int z_32), (3, .ref ahead_30), (2, .null), (0, .ref r0), (1, .ref r1), (5, .int v5_22)]) hx hb dX9_isSameRow_92 hl (k := 4) rfl (by rw [ez_32]; rfl) (by decide) rfl (fun ls hl => ?_)
                          have hz_32 : z_32.toInt = v4_1.toInt + 1 := by rw [ez_32]; exact jb_iadd2 (rfl) (by decide) (by omega)
                          refine lv_goto (tgt := 7) hx hb dX9_isSameRow_95 (by decide) ?_
                          exact L7 none (some ahead_30) z_32 _ _ (hh_29.sub (L1 := []) [] rfl (M1 := []) [] rfl (I1 := []) [] rfl) (Or.inl rfl) (Or.inr ⟨_, rfl, hg_ahead_30⟩) (by first | omega | (refine ⟨?_, ?_⟩ <;> (first | omega | rfl | assumption | decide | exact Or.inl rfl | exact Or.inr rfl | (simp only; omega)))) (by omega) _ (lv_sub hl [3, 4, 2, 1, 0] rfl)
                      · refine j7_read hx hb hown hK (C := RX9) (T := TX9) (N := 9) rfl hly_11_0 hlk_36 (hh_26.at 0 rfl) dX9_isSameRow_83 ?_
                        refine lv_astore_n (lv' := [(2, .ref ahead_27), (0, .ref r0), (1, .ref r1), (3, .ref nv_8), (4, .int v4_1), (5, .int v5_22)]) hx hb dX9_isSameRow_86 rfl hl (by decide) rfl (fun ls hl => ?_)
                        refine lv_aload_n hx hb dX9_isSameRow_87 rfl (lv_at hl 3 rfl) ?_
                        obtain ⟨v_33, hv_33, hh_34⟩ := hh_26.pin (C := RX9) (T := TX9) (N := 9) hB11 rfl (by decide) hg_nv_8 (i := 0) (by decide) rfl
                        clear hh_26
                        rcases hv_33 with rfl | ⟨ahead_35, rfl, hg_ahead_35⟩
                        · refine j7_read hx hb hown hK (C := RX9) (T := TX9) (N := 9) rfl hly_11_0 hlk_36 (hh_34.at 0 rfl) dX9_isSameRow_88 ?_
                          refine j7_nst_n (lv' := [(3, .null), (2, .ref ahead_27), (0, .ref r0), (1, .ref r1), (4, .int v4_1), (5, .int v5_22)]) hx hb dX9_isSameRow_91 rfl hl (by decide) rfl (fun ls hl => ?_)
                          obtain ⟨z_36, ez_36⟩ : ∃ y : Int32, y = v4_1 + 1 := ⟨_, rfl⟩
                          refine lv_iinc (v := z_36) (lv' := [(4, .int z_36), (3, .null), (2, .ref ahead_27), (0, .ref r0), (1, .ref r1), (5, .int v5_22)]) hx hb dX9_isSameRow_92 hl (k := 4) rfl (by rw [ez_36]; rfl) (by decide) rfl (fun ls hl => ?_)
                          have hz_36 : z_36.toInt = v4_1.toInt + 1 := by rw [ez_36]; exact jb_iadd2 (rfl) (by decide) (by omega)
                          refine lv_goto (tgt := 7) hx hb dX9_isSameRow_95 (by decide) ?_
                          exact L7 (some ahead_27) none z_36 _ _ (hh_34.sub (L1 := []) [] rfl (M1 := []) [] rfl (I1 := []) [] rfl) (Or.inr ⟨_, rfl, hg_ahead_27⟩) (Or.inl rfl) (by first | omega | (refine ⟨?_, ?_⟩ <;> (first | omega | rfl | assumption | decide | exact Or.inl rfl | exact Or.inr rfl | (simp only; omega)))) (by omega) _ (lv_sub hl [3, 4, 2, 1, 0] rfl)
                        · refine j7_read hx hb hown hK (C := RX9) (T := TX9) (N := 9) rfl hly_11_0 hlk_36 (hh_34.at 0 rfl) dX9_isSameRow_88 ?_
                          refine lv_astore_n (lv' := [(3, .ref ahead_35), (2, .ref ahead_27), (0, .ref r0), (1, .ref r1), (4, .int v4_1), (5, .int v5_22)]) hx hb dX9_isSameRow_91 rfl hl (by decide) rfl (fun ls hl => ?_)
                          obtain ⟨z_37, ez_37⟩ : ∃ y : Int32, y = v4_1 + 1 := ⟨_, rfl⟩
                          refine lv_iinc (v := z_37) (lv' := [(4, .int z_37), (3, .ref ahead_35), (2, .ref ahead_27), (0, .ref r0), (1, .ref r1), (5, .int v5_22)]) hx hb dX9_isSameRow_92 hl (k := 4) rfl (by rw [ez_37]; rfl) (by decide) rfl (fun ls hl => ?_)
                          have hz_37 : z_37.toInt = v4_1.toInt + 1 := by rw [ez_37]; exact jb_iadd2 (rfl) (by decide) (by omega)
                          refine lv_goto (tgt := 7) hx hb dX9_isSameRow_95 (by decide) ?_
                          exact L7 (some ahead_27) (some ahead_35) z_37 _ _ (hh_34.sub (L1 := []) [] rfl (M1 := []) [] rfl (I1 := []) [] rfl) (Or.inr ⟨_, rfl, hg_ahead_27⟩) (Or.inr ⟨_, rfl, hg_ahead_35⟩) (by first | omega | (refine ⟨?_, ?_⟩ <;> (first | omega | rfl | assumption | decide | exact Or.inl rfl | exact Or.inr rfl | (simp only; omega)))) (by omega) _ (lv_sub hl [3, 4, 2, 1, 0] rfl)
                    · skip
                      have c_24' : v5_22.toInt < z_23.toInt := jb_ge_n (rfl) (rfl) c_24
                      refine lv_aload_n hx hb dX9_isSameRow_57 rfl (lv_at hl 2 rfl) ?_
                      refine j7_read hx hb hown hK (C := RX9) (T := TX9) (N := 9) rfl hly_11_1 hlk_40 (hh_22.at 1 rfl) dX9_isSameRow_58 ?_
                      refine lv_iload hx hb dX9_isSameRow_61 (lv_at hl 5 rfl) ?_
                      refine j7_iald hx hb hK hh_22 hB101 1 rfl (by decide) hg_units_15 (x := v5_22.toInt) (rfl) (by omega) dX9_isSameRow_63 (fun z_38 (hz_38 : True) => ?_)
                      refine lv_aload_n hx hb dX9_isSameRow_64 rfl (lv_at hl 3 rfl) ?_
                      refine j7_read hx hb hown hK (C := RX9) (T := TX9) (N := 9) rfl hly_11_1 hlk_40 (hh_22.at 0 rfl) dX9_isSameRow_65 ?_
                      refine lv_iload hx hb dX9_isSameRow_68 (lv_at hl 5 rfl) ?_
                      refine j7_iald hx hb hK hh_22 hB101 1 rfl (by decide) hg_units_19 (x := v5_22.toInt) (rfl) (by omega) dX9_isSameRow_70 (fun z_39 (hz_39 : True) => ?_)
                      refine lv_icmp_eq (tgt := 76) hx hb dX9_isSameRow_71 (by decide) (fun c_40 => ?_) (fun c_40 => ?_)
                      · skip
                        have c_40' : z_38.toInt = z_39.toInt := jb_eq (rfl) (rfl) c_40
                        obtain ⟨z_41, ez_41⟩ : ∃ y : Int32, y = v5_22 + 1 := ⟨_, rfl⟩
                        refine lv_iinc (v := z_41) (lv' := [(5, .int z_41), (0, .ref r0), (1, .ref r1), (2, .ref nv_2), (3, .ref nv_8), (4, .int v4_1)]) hx hb dX9_isSameRow_76 hl (k := 5) rfl (by rw [ez_41]; rfl) (by decide) rfl (fun ls hl => ?_)
                        have hz_41 : z_41.toInt = v5_22.toInt + 1 := by rw [ez_41]; exact jb_iadd2 (rfl) (by decide) (by omega)
                        refine lv_goto (tgt := 47) hx hb dX9_isSameRow_79 (by decide) ?_
                        exact L47 z_41 _ _ hh_22 (by first | omega | (refine ⟨?_, ?_⟩ <;> (first | omega | rfl | assumption | decide | exact Or.inl rfl | exact Or.inr rfl | (simp only; omega)))) (by omega) _ (lv_sub hl [1, 2, 3, 4, 5, 0] rfl)
                      · skip
                        have c_40' : z_38.toInt ≠ z_39.toInt := jb_eq_n (rfl) (rfl) c_40
                        refine lv_iconst (v := 0) hx hb dX9_isSameRow_74 (by decide) ?_
                        rw [hQ]
                        exact W.zret (v := 0) hx hb hr (jb_nz (Or.inl rfl)) (fun t ht hW => ⟨⟨0, (), rfl, ⟨(Or.inl rfl), trivial⟩, hh_22.rt (M1 := []) [] rfl ht⟩, by rw [ht]; try exact hh_22.1.1, fun q h9 hq => by rw [ht]; try exact hh_22.1.2.1 q h9 hq⟩) hh_22.1.2.2 dX9_isSameRow_75
                exact L47 (1501 - (0 : Int32).toInt : Int).toNat.succ 0 _ _ hh_18 (by first | omega | (refine ⟨?_, ?_⟩ <;> (first | omega | rfl | assumption | decide | exact Or.inl rfl | exact Or.inr rfl | (simp only; omega)))) (by omega) _ (lv_sub hl [1, 2, 3, 4, 5, 0] rfl)
              · skip
                have c_21' : z_16.toInt ≠ z_20.toInt := jb_eq_n (rfl) (rfl) c_21
                refine lv_iconst (v := 0) hx hb dX9_isSameRow_42 (by decide) ?_
                rw [hQ]
                exact W.zret (v := 0) hx hb hr (jb_nz (Or.inl rfl)) (fun t ht hW => ⟨⟨0, (), rfl, ⟨(Or.inl rfl), trivial⟩, hh_18.rt (M1 := []) [] rfl ht⟩, by rw [ht]; try exact hh_18.1.1, fun q h9 hq => by rw [ht]; try exact hh_18.1.2.1 q h9 hq⟩) hh_18.1.2.2 dX9_isSameRow_43
            · skip
              refine lv_iconst (v := 1) hx hb dX9_isSameRow_19 (by decide) ?_
              rw [hQ]
              exact W.zret (v := 1) hx hb hr (jb_nz (Or.inr rfl)) (fun t ht hW => ⟨⟨1, (), rfl, ⟨(Or.inr rfl), trivial⟩, hh_1.rt (M1 := []) [] rfl ht⟩, by rw [ht]; try exact hh_1.1.1, fun q h9 hq => by rw [ht]; try exact hh_1.1.2.1 q h9 hq⟩) hh_1.1.2.2 dX9_isSameRow_20
  exact L7 (42 - (0 : Int32).toInt : Int).toNat.succ (some r0) (some r1) 0 _ _ hh (Or.inr ⟨_, rfl, hg_r0⟩) (Or.inr ⟨_, rfl, hg_r1⟩) (by first | omega | (refine ⟨?_, ?_⟩ <;> (first | omega | rfl | assumption | decide | exact Or.inl rfl | exact Or.inr rfl | (simp only; omega)))) (by omega) _ (lv_sub hl [3, 4, 2, 1, 0] rfl)
set_option maxHeartbeats 4000000 in
set_option maxRecDepth 20000 in
theorem uX9_isSameRowZ (l : Launch) (dC : Nat → ClassId) (dI : Nat → Nat → Nat) (ca : Nat → ClassId) (base : Nat) (B : jF) (hB : jBok B) (hAp : jAp (dC, dI)) (hB11 : ∀ n G a H, B 11 n G a H ↔ jOb (dC, dI) 11 9 (F11 n G) a H) (hB101 : ∀ n G a H, B 101 n G a H ↔ jAr (dC, dI) (ca 1) (fun j z => True) n a H) (G0 : jT) (H0 : Heap) (r1 : Nat) : Met l yX9_isSameRow (jw yX9_isSameRow cX9_isSameRow 6 (some .boolean)) ({ frames := 0, cells := 0, slots := 0, locals := 0 }) (va_Pc [.null, .ref r1] (fun U => U.heap = H0 ∧ jX B base G0 [] H0 ∧ jG dC dI ca base U ∧ G0 r1 = some (11, 0) ∧ jP (dC, dI) G0 H0 [] ∧ True)) (va_Qi (S := Unit) (fun r u => (r = 0 ∨ r = 1) ∧ (True)) (fun u t => jRt (dC, dI) B base G0 EX9_isSameRowZ H0 [] t.heap) (jA base)) 0 0 (jA base) := by
  refine Met.ofW (cc := cX9_isSameRow) (maxL := 6) (ret := (some .boolean)) (by decide) rfl ?_
  intro p e s m args below meth c s₁ Bd hml hv
  obtain ⟨rfl, hH0, hX, hG, hg_r1, hP0, hp0⟩ := hv
  have hK := hG.1
  have hx := Bd.exec
  have hb := Bd.bytes
  have hr := Bd.returns
  have hts := atoms_spec (ws := (jw yX9_isSameRow cX9_isSameRow 6 (some .boolean))) Bd.pre
  have htw : ∀ w ∈ jWl, w.before _ s = true := fun w h => hts w (List.mem_cons_of_mem _ h)
  have hown : s.vm.findClass RX9 = some m.cls := findClass_of_methodNamed Bd.named
  have hlocks := Bd.notSynchronized
  obtain ⟨Q, hQ⟩ : ∃ Q, Q = MQ below (va_Qi (S := Unit) (fun r u => (r = 0 ∨ r = 1) ∧ (True)) (fun u t => jRt (dC, dI) B base G0 EX9_isSameRowZ H0 [] t.heap) (jA base)) ([.null, .ref r1] : List Value).toArray s 0 0 (jA base) := ⟨_, rfl⟩
  rw [← hQ]
  have hl := lv_entry ([.null, .ref r1]) (n := 6) (Nat.le_of_ble_eq_true rfl)
  rw [lg_entry_eq]
  generalize (lg_sl ([.null, .ref r1]) ++ List.replicate (6 - (lg_sl ([.null, .ref r1])).length) Slot.unset).toArray = ls at hl ⊢
  have hl : lv_has ls 6 [(0, .null), (1, .ref r1)] := hl
  generalize hR : (headSpec (jw yX9_isSameRow cX9_isSameRow 6 (some .boolean)) ({ frames := 0, cells := 0, slots := 0, locals := 0 })).room = R
  subst hH0
  have hh : jSt (dC, dI) B base G0 G0 EX9_isSameRowZ s.heap 0 0 [] [] [] s.heap [] := jSt.start hX hP0 jMc.nil jIs.nil
  clear hX hP0
  have hk0 : (0 : Int32).toInt = 0 := by decide
  have hk1 : (1 : Int32).toInt = 1 := by decide
  have hk41 : (41 : Int32).toInt = 41 := by decide
  have hly_11_0 := htw (u_lay RX9 TX9 0) (jWc_wsX90 _ (u_in_lay (by decide)))
  have hly_11_1 := htw (u_lay RX9 TX9 1) (jWc_wsX90 _ (u_in_lay (by decide)))
  have hlk_40 := (htw (.fieldLink RX9 40 "ProofServer$State" "units" "[I") (jWr_9 _ (List.mem_of_getElem? (i := 2) rfl)))
  have hlk_36 := (htw (.fieldLink RX9 36 "ProofServer$State" "ahead" "LProofServer$State;") (jWr_9 _ (List.mem_of_getElem? (i := 1) rfl)))
  refine j7_nld_n hx hb dX9_isSameRow_0 rfl (lv_at hl 0 rfl) ?_
  refine j7_nst_n (lv' := [(2, .null), (0, .null), (1, .ref r1)]) hx hb dX9_isSameRow_1 rfl hl (by decide) rfl (fun ls hl => ?_)
  refine lv_aload_n hx hb dX9_isSameRow_2 rfl (lv_at hl 2 rfl) ?_
  refine lv_astore_n (lv' := [(3, .ref r1), (2, .null), (0, .null), (1, .ref r1)]) hx hb dX9_isSameRow_3 rfl hl (by decide) rfl (fun ls hl => ?_)
  refine lv_iconst (v := 0) hx hb dX9_isSameRow_4 (by decide) ?_
  refine lv_istore (lv' := [(4, .int 0), (3, .ref r1), (2, .null), (0, .null), (1, .ref r1)]) hx hb dX9_isSameRow_5 hl (by decide) rfl (fun ls hl => ?_)
  have L7 : ∀ (N : Nat) (v2_1 : Option Nat) (v3_1 : Option Nat) (v4_1 : Int32) (H_1 : Heap) (locs_1 : List Loc), jSt (dC, dI) B base G0 G0 EX9_isSameRowZ s.heap 0 0 [] [] [] H_1 locs_1 → jQn 11 0 G0 v2_1 → jQn 11 0 G0 v3_1 → (0 ≤ v4_1.toInt ∧ v4_1.toInt ≤ 42) → (42 - v4_1.toInt : Int) < N → ∀ ls : Array Slot, lv_has ls 6 [(0, .null), (1, .ref r1), (2, va_rf v2_1), (3, va_rf v3_1), (4, .int v4_1)] → W p l e R s m ([.null, .ref r1] : List Value).toArray below meth c H_1 locs_1 0 0 Q (F0 m 7 ls []) := by
    intro N
    induction N with
    | zero => intro v2_1 v3_1 v4_1 H_1 locs_1 hh_1 hq_v2_1 hq_v3_1 hi_1 hm; exact absurd hm (by omega)
    | succ N L7 =>
      intro v2_1 v3_1 v4_1 H_1 locs_1 hh_1 hq_v2_1 hq_v3_1 hi_1 hm_1 ls hl
      obtain ⟨hi_1_0, hi_1_1⟩ := hi_1
      rcases hq_v2_1 with rfl | ⟨nv_2, rfl, hg_nv_2⟩
      · have hl : lv_has ls 6 [(0, .null), (1, .ref r1), (2, .null), (3, va_rf v3_1), (4, .int v4_1)] := hl
        rcases hq_v3_1 with rfl | ⟨nv_3, rfl, hg_nv_3⟩
        · have hl : lv_has ls 6 [(0, .null), (1, .ref r1), (2, .null), (3, .null), (4, .int v4_1)] := hl
          refine lv_iload hx hb dX9_isSameRow_7 (lv_at hl 4 rfl) ?_
          refine lv_bipush (v := 41) hx hb dX9_isSameRow_9 (by decide) ?_
          refine lv_icmp_gt (tgt := 98) hx hb dX9_isSameRow_11 (by decide) (fun c_4 => ?_) (fun c_4 => ?_)
          · skip
            have c_4' : v4_1.toInt > 41 := jb_gt (rfl) ((by decide)) c_4
            refine lv_iconst (v := 0) hx hb dX9_isSameRow_98 (by decide) ?_
            rw [hQ]
            exact W.zret (v := 0) hx hb hr (jb_nz (Or.inl rfl)) (fun t ht hW => ⟨⟨0, (), rfl, ⟨(Or.inl rfl), trivial⟩, hh_1.rt (M1 := []) [] rfl ht⟩, by rw [ht]; try exact hh_1.1.1, fun q h9 hq => by rw [ht]; try exact hh_1.1.2.1 q h9 hq⟩) hh_1.1.2.2 dX9_isSameRow_99
          · skip
            have c_4' : v4_1.toInt ≤ 41 := jb_gt_n (rfl) ((by decide)) c_4
            refine j7_nld_n hx hb dX9_isSameRow_14 rfl (lv_at hl 2 rfl) ?_
            refine j7_nld_n hx hb dX9_isSameRow_15 rfl (lv_at hl 3 rfl) ?_
            refine lv_acmp_ne (rx := none) (ry := none) (tgt := 21) hx hb dX9_isSameRow_16 (by decide) (fun c_5 => ?_) (fun c_5 => ?_)
            · skip
              exact absurd rfl c_5
            · skip
              refine lv_iconst (v := 1) hx hb dX9_isSameRow_19 (by decide) ?_
              rw [hQ]
              exact W.zret (v := 1) hx hb hr (jb_nz (Or.inr rfl)) (fun t ht hW => ⟨⟨1, (), rfl, ⟨(Or.inr rfl), trivial⟩, hh_1.rt (M1 := []) [] rfl ht⟩, by rw [ht]; try exact hh_1.1.1, fun q h9 hq => by rw [ht]; try exact hh_1.1.2.1 q h9 hq⟩) hh_1.1.2.2 dX9_isSameRow_20
        · have hl : lv_has ls 6 [(0, .null), (1, .ref r1), (2, .null), (3, .ref nv_3), (4, .int v4_1)] := hl
          refine lv_iload hx hb dX9_isSameRow_7 (lv_at hl 4 rfl) ?_
          refine lv_bipush (v := 41) hx hb dX9_isSameRow_9 (by decide) ?_
          refine lv_icmp_gt (tgt := 98) hx hb dX9_isSameRow_11 (by decide) (fun c_6 => ?_) (fun c_6 => ?_)
          · skip
            have c_6' : v4_1.toInt > 41 := jb_gt (rfl) ((by decide)) c_6
            refine lv_iconst (v := 0) hx hb dX9_isSameRow_98 (by decide) ?_
            rw [hQ]
            exact W.zret (v := 0) hx hb hr (jb_nz (Or.inl rfl)) (fun t ht hW => ⟨⟨0, (), rfl, ⟨(Or.inl rfl), trivial⟩, hh_1.rt (M1 := []) [] rfl ht⟩, by rw [ht]; try exact hh_1.1.1, fun q h9 hq => by rw [ht]; try exact hh_1.1.2.1 q h9 hq⟩) hh_1.1.2.2 dX9_isSameRow_99
          · skip
            have c_6' : v4_1.toInt ≤ 41 := jb_gt_n (rfl) ((by decide)) c_6
            refine j7_nld_n hx hb dX9_isSameRow_14 rfl (lv_at hl 2 rfl) ?_
            refine lv_aload_n hx hb dX9_isSameRow_15 rfl (lv_at hl 3 rfl) ?_
            refine lv_acmp_ne (rx := none) (ry := (some nv_3)) (tgt := 21) hx hb dX9_isSameRow_16 (by decide) (fun c_7 => ?_) (fun c_7 => ?_)
            · skip
              refine j7_nld_n hx hb dX9_isSameRow_21 rfl (lv_at hl 2 rfl) ?_
              refine lv_ifnullN (tgt := 42) hx hb dX9_isSameRow_22 (by decide) ?_
              refine lv_iconst (v := 0) hx hb dX9_isSameRow_42 (by decide) ?_
              rw [hQ]
              exact W.zret (v := 0) hx hb hr (jb_nz (Or.inl rfl)) (fun t ht hW => ⟨⟨0, (), rfl, ⟨(Or.inl rfl), trivial⟩, hh_1.rt (M1 := []) [] rfl ht⟩, by rw [ht]; try exact hh_1.1.1, fun q h9 hq => by rw [ht]; try exact hh_1.1.2.1 q h9 hq⟩) hh_1.1.2.2 dX9_isSameRow_43
            · skip
              cases c_7
      · have hl : lv_has ls 6 [(0, .null), (1, .ref r1), (2, .ref nv_2), (3, va_rf v3_1), (4, .int v4_1)] := hl
        rcases hq_v3_1 with rfl | ⟨nv_8, rfl, hg_nv_8⟩
        · have hl : lv_has ls 6 [(0, .null), (1, .ref r1), (2, .ref nv_2), (3, .null), (4, .int v4_1)] := hl
          refine lv_iload hx hb dX9_isSameRow_7 (lv_at hl 4 rfl) ?_
          refine lv_bipush (v := 41) hx hb dX9_isSameRow_9 (by decide) ?_
          refine lv_icmp_gt (tgt := 98) hx hb dX9_isSameRow_11 (by decide) (fun c_9 => ?_) (fun c_9 => ?_)
          · skip
            have c_9' : v4_1.toInt > 41 := jb_gt (rfl) ((by decide)) c_9
            refine lv_iconst (v := 0) hx hb dX9_isSameRow_98 (by decide) ?_
            rw [hQ]
            exact W.zret (v := 0) hx hb hr (jb_nz (Or.inl rfl)) (fun t ht hW => ⟨⟨0, (), rfl, ⟨(Or.inl rfl), trivial⟩, hh_1.rt (M1 := []) [] rfl ht⟩, by rw [ht]; try exact hh_1.1.1, fun q h9 hq => by rw [ht]; try exact hh_1.1.2.1 q h9 hq⟩) hh_1.1.2.2 dX9_isSameRow_99
          · skip
            have c_9' : v4_1.toInt ≤ 41 := jb_gt_n (rfl) ((by decide)) c_9
            refine lv_aload_n hx hb dX9_isSameRow_14 rfl (lv_at hl 2 rfl) ?_
            refine j7_nld_n hx hb dX9_isSameRow_15 rfl (lv_at hl 3 rfl) ?_
            refine lv_acmp_ne (rx := (some nv_2)) (ry := none) (tgt := 21) hx hb dX9_isSameRow_16 (by decide) (fun c_10 => ?_) (fun c_10 => ?_)
            · skip
              refine lv_aload_n hx hb dX9_isSameRow_21 rfl (lv_at hl 2 rfl) ?_
              refine lv_ifnull hx hb dX9_isSameRow_22 ?_
              refine j7_nld_n hx hb dX9_isSameRow_25 rfl (lv_at hl 3 rfl) ?_
              refine lv_ifnullN (tgt := 42) hx hb dX9_isSameRow_26 (by decide) ?_
              refine lv_iconst (v := 0) hx hb dX9_isSameRow_42 (by decide) ?_
              rw [hQ]
              exact W.zret (v := 0) hx hb hr (jb_nz (Or.inl rfl)) (fun t ht hW => ⟨⟨0, (), rfl, ⟨(Or.inl rfl), trivial⟩, hh_1.rt (M1 := []) [] rfl ht⟩, by rw [ht]; try exact hh_1.1.1, fun q h9 hq => by rw [ht]; try exact hh_1.1.2.1 q h9 hq⟩) hh_1.1.2.2 dX9_isSameRow_43
            · skip
              cases c_10
        · have hl : lv_has ls 6 [(0, .null), (1, .ref r1), (2, .ref nv_2), (3, .ref nv_8), (4, .int v4_1)] := hl
          refine lv_iload hx hb dX9_isSameRow_7 (lv_at hl 4 rfl) ?_
          refine lv_bipush (v := 41) hx hb dX9_isSameRow_9 (by decide) ?_
          refine lv_icmp_gt (tgt := 98) hx hb dX9_isSameRow_11 (by decide) (fun c_11 => ?_) (fun c_11 => ?_)
          · skip
            have c_11' : v4_1.toInt > 41 := jb_gt (rfl) ((by decide)) c_11
            refine lv_iconst (v := 0) hx hb dX9_isSameRow_98 (by decide) ?_
            rw [hQ]
            exact W.zret (v := 0) hx hb hr (jb_nz (Or.inl rfl)) (fun t ht hW => ⟨⟨0, (), rfl, ⟨(Or.inl rfl), trivial⟩, hh_1.rt (M1 := []) [] rfl ht⟩, by rw [ht]; try exact hh_1.1.1, fun q h9 hq => by rw [ht]; try exact hh_1.1.2.1 q h9 hq⟩) hh_1.1.2.2 dX9_isSameRow_99
          · skip
            have c_11' : v4_1.toInt ≤ 41 := jb_gt_n (rfl) ((by decide)) c_11
            refine lv_aload_n hx hb dX9_isSameRow_14 rfl (lv_at hl 2 rfl) ?_
            refine lv_aload_n hx hb dX9_isSameRow_15 rfl (lv_at hl 3 rfl) ?_
            refine lv_acmp_ne (rx := (some nv_2)) (ry := (some nv_8)) (tgt := 21) hx hb dX9_isSameRow_16 (by decide) (fun c_12 => ?_) (fun c_12 => ?_)
            · skip
              refine lv_aload_n hx hb dX9_isSameRow_21 rfl (lv_at hl 2 rfl) ?_
              refine lv_ifnull hx hb dX9_isSameRow_22 ?_
              refine lv_aload_n hx hb dX9_isSameRow_25 rfl (lv_at hl 3 rfl) ?_
              refine lv_ifnull hx hb dX9_isSameRow_26 ?_
              refine lv_aload_n hx hb dX9_isSameRow_29 rfl (lv_at hl 2 rfl) ?_
              obtain ⟨v_13, hv_13, hh_14⟩ := hh_1.pin (C := RX9) (T := TX9) (N := 9) hB11 rfl (by decide) hg_nv_2 (i := 1) (by decide) rfl
              clear hh_1
              obtain ⟨units_15, nunits_15, rfl, hg_units_15, hn_units_15⟩ := hv_13
              refine j7_read hx hb hown hK (C := RX9) (T := TX9) (N := 9) rfl hly_11_1 hlk_40 (hh_14.at 0 rfl) dX9_isSameRow_30 ?_
              refine j7_len hx hb hK hh_14 hB101 1 rfl (by decide) hg_units_15 (by omega) dX9_isSameRow_33 (fun z_16 hz_16 => ?_)
              refine lv_aload_n hx hb dX9_isSameRow_34 rfl (lv_at hl 3 rfl) ?_
              obtain ⟨v_17, hv_17, hh_18⟩ := hh_14.pin (C := RX9) (T := TX9) (N := 9) hB11 rfl (by decide) hg_nv_8 (i := 1) (by decide) rfl
              clear hh_14
              obtain ⟨units_19, nunits_19, rfl, hg_units_19, hn_units_19⟩ := hv_17
              refine j7_read hx hb hown hK (C := RX9) (T := TX9) (N := 9) rfl hly_11_1 hlk_40 (hh_18.at 0 rfl) dX9_isSameRow_35 ?_
              refine j7_len hx hb hK hh_18 hB101 1 rfl (by decide) hg_units_19 (by omega) dX9_isSameRow_38 (fun z_20 hz_20 => ?_)
              refine lv_icmp_eq (tgt := 44) hx hb dX9_isSameRow_39 (by decide) (fun c_21 => ?_) (fun c_21 => ?_)
              · skip
                have c_21' : z_16.toInt = z_20.toInt := jb_eq (rfl) (rfl) c_21
                refine lv_iconst (v := 0) hx hb dX9_isSameRow_44 (by decide) ?_
                refine lv_istore (lv' := [(5, .int 0), (0, .null), (1, .ref r1), (2, .ref nv_2), (3, .ref nv_8), (4, .int v4_1)]) hx hb dX9_isSameRow_45 hl (by decide) rfl (fun ls hl => ?_)
                have L47 : ∀ (N : Nat) (v5_22 : Int32) (H_22 : Heap) (locs_22 : List Loc), jSt (dC, dI) B base G0 G0 EX9_isSameRowZ s.heap 0 0 [(nv_8, 11, 1, .ref units_19), (nv_2, 11, 1, .ref units_15)] [] [] H_22 locs_22 → (0 ≤ v5_22.toInt ∧ v5_22.toInt ≤ 1500) → (1501 - v5_22.toInt : Int) < N → ∀ ls : Array Slot, lv_has ls 6 [(0, .null), (1, .ref r1), (2, .ref nv_2), (3, .ref nv_8), (4, .int v4_1), (5, .int v5_22)] → W p l e R s m ([.null, .ref r1] : List Value).toArray below meth c H_22 locs_22 0 0 Q (F0 m 47 ls []) := by
                  intro N
                  induction N with
                  | zero => intro v5_22 H_22 locs_22 hh_22  hi_22 hm; exact absurd hm (by omega)
                  | succ N L47 =>
                    intro v5_22 H_22 locs_22 hh_22  hi_22 hm_22 ls hl
                    obtain ⟨hi_22_0, hi_22_1⟩ := hi_22
                    refine lv_iload hx hb dX9_isSameRow_47 (lv_at hl 5 rfl) ?_
                    refine lv_aload_n hx hb dX9_isSameRow_49 rfl (lv_at hl 2 rfl) ?_
                    refine j7_read hx hb hown hK (C := RX9) (T := TX9) (N := 9) rfl hly_11_1 hlk_40 (hh_22.at 1 rfl) dX9_isSameRow_50 ?_
                    refine j7_len hx hb hK hh_22 hB101 1 rfl (by decide) hg_units_15 (by omega) dX9_isSameRow_53 (fun z_23 hz_23 => ?_)
                    refine lv_icmp_ge (tgt := 82) hx hb dX9_isSameRow_54 (by decide) (fun c_24 => ?_) (fun c_24 => ?_)
                    · skip
                      have c_24' : v5_22.toInt ≥ z_23.toInt := jb_ge (rfl) (rfl) c_24
                      refine lv_aload_n hx hb dX9_isSameRow_82 rfl (lv_at hl 2 rfl) ?_
                      obtain ⟨v_25, hv_25, hh_26⟩ := hh_22.pin (C := RX9) (T := TX9) (N := 9) hB11 rfl (by decide) hg_nv_2 (i := 0) (by decide) rfl
                      clear hh_22
                      rcases hv_25 with rfl | ⟨ahead_27, rfl, hg_ahead_27⟩
                      · refine j7_read hx hb hown hK (C := RX9) (T := TX9) (N := 9) rfl hly_11_0 hlk_36 (hh_26.at 0 rfl) dX9_isSameRow_83 ?_
                        refine j7_nst_n (lv' := [(2, .null), (0, .null), (1, .ref r1), (3, .ref nv_8), (4, .int v4_1), (5, .int v5_22)]) hx hb dX9_isSameRow_86 rfl hl (by decide) rfl (fun ls hl => ?_)
                        refine lv_aload_n hx hb dX9_isSameRow_87 rfl (lv_at hl 3 rfl) ?_
                        obtain ⟨v_28, hv_28, hh_29⟩ := hh_26.pin (C := RX9) (T := TX9) (N := 9) hB11 rfl (by decide) hg_nv_8 (i := 0) (by decide) rfl
                        clear hh_26
                        rcases hv_28 with rfl | ⟨ahead_30, rfl, hg_ahead_30⟩
                        · refine j7_read hx hb hown hK (C := RX9) (T := TX9) (N := 9) rfl hly_11_0 hlk_36 (hh_29.at 0 rfl) dX9_isSameRow_88 ?_
                          refine j7_nst_n (lv' := [(3, .null), (2, .null), (0, .null), (1, .ref r1), (4, .int v4_1), (5, .int v5_22)]) hx hb dX9_isSameRow_91 rfl hl (by decide) rfl (fun ls hl => ?_)
                          obtain ⟨z_31, ez_31⟩ : ∃ y : Int32, y = v4_1 + 1 := ⟨_, rfl⟩
                          refine lv_iinc (v := z_31) (lv' := [(4, .int z_31), (3, .null), (2, .null), (0, .null), (1, .ref r1), (5, .int v5_22)]) hx hb dX9_isSameRow_92 hl (k := 4) rfl (by rw [ez_31]; rfl) (by decide) rfl (fun ls hl => ?_)
                          have hz_31 : z_31.toInt = v4_1.toInt + 1 := by rw [ez_31]; exact jb_iadd2 (rfl) (by decide) (by omega)
                          refine lv_goto (tgt := 7) hx hb dX9_isSameRow_95 (by decide) ?_
                          exact L7 none none z_31 _ _ (hh_29.sub (L1 := []) [] rfl (M1 := []) [] rfl (I1 := []) [] rfl) (Or.inl rfl) (Or.inl rfl) (by first | omega | (refine ⟨?_, ?_⟩ <;> (first | omega | rfl | assumption | decide | exact Or.inl rfl | exact Or.inr rfl | (simp only; omega)))) (by omega) _ (lv_sub hl [3, 4, 2, 1, 0] rfl)
                        · refine j7_read hx hb hown hK (C := RX9) (T := TX9) (N := 9) rfl hly_11_0 hlk_36 (hh_29.at 0 rfl) dX9_isSameRow_88 ?_
                          refine lv_astore_n (lv' := [(3, .ref ahead_30), (2, .null), (0, .null), (1, .ref r1), (4, .int v4_1), (5, .int v5_22)]) hx hb dX9_isSameRow_91 rfl hl (by decide) rfl (fun ls hl => ?_)
                          obtain ⟨z_32, ez_32⟩ : ∃ y : Int32, y = v4_1 + 1 := ⟨_, rfl⟩
                          refine lv_iinc (v := z_32) (lv' := [(4, .int z_32), (3, .ref ahead_30), (2, .null), (0, .null), (1, .ref r1), (5, .int v5_22)]) hx hb dX9_isSameRow_92 hl (k := 4) rfl (by rw [ez_32]; rfl) (by decide) rfl (fun ls hl => ?_)
                          have hz_32 : z_32.toInt = v4_1.toInt + 1 := by rw [ez_32]; exact jb_iadd2 (rfl) (by decide) (by omega)
                          refine lv_goto (tgt := 7) hx hb dX9_isSameRow_95 (by decide) ?_
                          exact L7 none (some ahead_30) z_32 _ _ (hh_29.sub (L1 := []) [] rfl (M1 := []) [] rfl (I1 := []) [] rfl) (Or.inl rfl) (Or.inr ⟨_, rfl, hg_ahead_30⟩) (by first | omega | (refine ⟨?_, ?_⟩ <;> (first | omega | rfl | assumption | decide | exact Or.inl rfl | exact Or.inr rfl | (simp only; omega)))) (by omega) _ (lv_sub hl [3, 4, 2, 1, 0] rfl)
                      · refine j7_read hx hb hown hK (C := RX9) (T := TX9) (N := 9) rfl hly_11_0 hlk_36 (hh_26.at 0 rfl) dX9_isSameRow_83 ?_
                        refine lv_astore_n (lv' := [(2, .ref ahead_27), (0, .null), (1, .ref r1), (3, .ref nv_8), (4, .int v4_1), (5, .int v5_22)]) hx hb dX9_isSameRow_86 rfl hl (by decide) rfl (fun ls hl => ?_)
                        refine lv_aload_n hx hb dX9_isSameRow_87 rfl (lv_at hl 3 rfl) ?_
                        obtain ⟨v_33, hv_33, hh_34⟩ := hh_26.pin (C := RX9) (T := TX9) (N := 9) hB11 rfl (by decide) hg_nv_8 (i := 0) (by decide) rfl
                        clear hh_26
                        rcases hv_33 with rfl | ⟨ahead_35, rfl, hg_ahead_35⟩
                        · refine j7_read hx hb hown hK (C := RX9) (T := TX9) (N := 9) rfl hly_11_0 hlk_36 (hh_34.at 0 rfl) dX9_isSameRow_88 ?_
                          refine j7_nst_n (lv' := [(3, .null), (2, .ref ahead_27), (0, .null), (1, .ref r1), (4, .int v4_1), (5, .int v5_22)]) hx hb dX9_isSameRow_91 rfl hl (by decide) rfl (fun ls hl => ?_)
                          obtain ⟨z_36, ez_36⟩ : ∃ y : Int32, y = v4_1 + 1 := ⟨_, rfl⟩
                          refine lv_iinc (v := z_36) (lv' := [(4, .int z_36), (3, .null), (2, .ref ahead_27), (0, .null), (1, .ref r1), (5, .int v5_22)]) hx hb dX9_isSameRow_92 hl (k := 4) rfl (by rw [ez_36]; rfl) (by decide) rfl (fun ls hl => ?_)
                          have hz_36 : z_36.toInt = v4_1.toInt + 1 := by rw [ez_36]; exact jb_iadd2 (rfl) (by decide) (by omega)
                          refine lv_goto (tgt := 7) hx hb dX9_isSameRow_95 (by decide) ?_
                          exact L7 (some ahead_27) none z_36 _ _ (hh_34.sub (L1 := []) [] rfl (M1 := []) [] rfl (I1 := []) [] rfl) (Or.inr ⟨_, rfl, hg_ahead_27⟩) (Or.inl rfl) (by first | omega | (refine ⟨?_, ?_⟩ <;> (first | omega | rfl | assumption | decide | exact Or.inl rfl | exact Or.inr rfl | (simp only; omega)))) (by omega) _ (lv_sub hl [3, 4, 2, 1, 0] rfl)
                        · refine j7_read hx hb hown hK (C := RX9) (T := TX9) (N := 9) rfl hly_11_0 hlk_36 (hh_34.at 0 rfl) dX9_isSameRow_88 ?_
                          refine lv_astore_n (lv' := [(3, .ref ahead_35), (2, .ref ahead_27), (0, .null), (1, .ref r1), (4, .int v4_1), (5, .int v5_22)]) hx hb dX9_isSameRow_91 rfl hl (by decide) rfl (fun ls hl => ?_)
                          obtain ⟨z_37, ez_37⟩ : ∃ y : Int32, y = v4_1 + 1 := ⟨_, rfl⟩
                          refine lv_iinc (v := z_37) (lv' := [(4, .int z_37), (3, .ref ahead_35), (2, .ref ahead_27), (0, .null), (1, .ref r1), (5, .int v5_22)]) hx hb dX9_isSameRow_92 hl (k := 4) rfl (by rw [ez_37]; rfl) (by decide) rfl (fun ls hl => ?_)
                          have hz_37 : z_37.toInt = v4_1.toInt + 1 := by rw [ez_37]; exact jb_iadd2 (rfl) (by decide) (by omega)
                          refine lv_goto (tgt := 7) hx hb dX9_isSameRow_95 (by decide) ?_
                          exact L7 (some ahead_27) (some ahead_35) z_37 _ _ (hh_34.sub (L1 := []) [] rfl (M1 := []) [] rfl (I1 := []) [] rfl) (Or.inr ⟨_, rfl, hg_ahead_27⟩) (Or.inr ⟨_, rfl, hg_ahead_35⟩) (by first | omega | (refine ⟨?_, ?_⟩ <;> (first | omega | rfl | assumption | decide | exact Or.inl rfl | exact Or.inr rfl | (simp only; omega)))) (by omega) _ (lv_sub hl [3, 4, 2, 1, 0] rfl)
                    · skip
                      have c_24' : v5_22.toInt < z_23.toInt := jb_ge_n (rfl) (rfl) c_24
                      refine lv_aload_n hx hb dX9_isSameRow_57 rfl (lv_at hl 2 rfl) ?_
                      refine j7_read hx hb hown hK (C := RX9) (T := TX9) (N := 9) rfl hly_11_1 hlk_40 (hh_22.at 1 rfl) dX9_isSameRow_58 ?_
                      refine lv_iload hx hb dX9_isSameRow_61 (lv_at hl 5 rfl) ?_
                      refine j7_iald hx hb hK hh_22 hB101 1 rfl (by decide) hg_units_15 (x := v5_22.toInt) (rfl) (by omega) dX9_isSameRow_63 (fun z_38 (hz_38 : True) => ?_)
                      refine lv_aload_n hx hb dX9_isSameRow_64 rfl (lv_at hl 3 rfl) ?_
                      refine j7_read hx hb hown hK (C := RX9) (T := TX9) (N := 9) rfl hly_11_1 hlk_40 (hh_22.at 0 rfl) dX9_isSameRow_65 ?_
                      refine lv_iload hx hb dX9_isSameRow_68 (lv_at hl 5 rfl) ?_
                      refine j7_iald hx hb hK hh_22 hB101 1 rfl (by decide) hg_units_19 (x := v5_22.toInt) (rfl) (by omega) dX9_isSameRow_70 (fun z_39 (hz_39 : True) => ?_)
                      refine lv_icmp_eq (tgt := 76) hx hb dX9_isSameRow_71 (by decide) (fun c_40 => ?_) (fun c_40 => ?_)
                      · skip
                        have c_40' : z_38.toInt = z_39.toInt := jb_eq (rfl) (rfl) c_40
                        obtain ⟨z_41, ez_41⟩ : ∃ y : Int32, y = v5_22 + 1 := ⟨_, rfl⟩
                        refine lv_iinc (v := z_41) (lv' := [(5, .int z_41), (0, .null), (1, .ref r1), (2, .ref nv_2), (3, .ref nv_8), (4, .int v4_1)]) hx hb dX9_isSameRow_76 hl (k := 5) rfl (by rw [ez_41]; rfl) (by decide) rfl (fun ls hl => ?_)
                        have hz_41 : z_41.toInt = v5_22.toInt + 1 := by rw [ez_41]; exact jb_iadd2 (rfl) (by decide) (by omega)
                        refine lv_goto (tgt := 47) hx hb dX9_isSameRow_79 (by decide) ?_
                        exact L47 z_41 _ _ hh_22 (by first | omega | (refine ⟨?_, ?_⟩ <;> (first | omega | rfl | assumption | decide | exact Or.inl rfl | exact Or.inr rfl | (simp only; omega)))) (by omega) _ (lv_sub hl [1, 2, 3, 4, 5, 0] rfl)
                      · skip
                        have c_40' : z_38.toInt ≠ z_39.toInt := jb_eq_n (rfl) (rfl) c_40
                        refine lv_iconst (v := 0) hx hb dX9_isSameRow_74 (by decide) ?_
                        rw [hQ]
                        exact W.zret (v := 0) hx hb hr (jb_nz (Or.inl rfl)) (fun t ht hW => ⟨⟨0, (), rfl, ⟨(Or.inl rfl), trivial⟩, hh_22.rt (M1 := []) [] rfl ht⟩, by rw [ht]; try exact hh_22.1.1, fun q h9 hq => by rw [ht]; try exact hh_22.1.2.1 q h9 hq⟩) hh_22.1.2.2 dX9_isSameRow_75
                exact L47 (1501 - (0 : Int32).toInt : Int).toNat.succ 0 _ _ hh_18 (by first | omega | (refine ⟨?_, ?_⟩ <;> (first | omega | rfl | assumption | decide | exact Or.inl rfl | exact Or.inr rfl | (simp only; omega)))) (by omega) _ (lv_sub hl [1, 2, 3, 4, 5, 0] rfl)
              · skip
                have c_21' : z_16.toInt ≠ z_20.toInt := jb_eq_n (rfl) (rfl) c_21
                refine lv_iconst (v := 0) hx hb dX9_isSameRow_42 (by decide) ?_
                rw [hQ]
                exact W.zret (v := 0) hx hb hr (jb_nz (Or.inl rfl)) (fun t ht hW => ⟨⟨0, (), rfl, ⟨(Or.inl rfl), trivial⟩, hh_18.rt (M1 := []) [] rfl ht⟩, by rw [ht]; try exact hh_18.1.1, fun q h9 hq => by rw [ht]; try exact hh_18.1.2.1 q h9 hq⟩) hh_18.1.2.2 dX9_isSameRow_43
            · skip
              refine lv_iconst (v := 1) hx hb dX9_isSameRow_19 (by decide) ?_
              rw [hQ]
              exact W.zret (v := 1) hx hb hr (jb_nz (Or.inr rfl)) (fun t ht hW => ⟨⟨1, (), rfl, ⟨(Or.inr rfl), trivial⟩, hh_1.rt (M1 := []) [] rfl ht⟩, by rw [ht]; try exact hh_1.1.1, fun q h9 hq => by rw [ht]; try exact hh_1.1.2.1 q h9 hq⟩) hh_1.1.2.2 dX9_isSameRow_20
  exact L7 (42 - (0 : Int32).toInt : Int).toNat.succ none (some r1) 0 _ _ hh (Or.inl rfl) (Or.inr ⟨_, rfl, hg_r1⟩) (by first | omega | (refine ⟨?_, ?_⟩ <;> (first | omega | rfl | assumption | decide | exact Or.inl rfl | exact Or.inr rfl | (simp only; omega)))) (by omega) _ (lv_sub hl [3, 4, 2, 1, 0] rfl)
end
section
def EJx4a65c_elementData_915e3L3 : List (Nat × Nat) := []
def EJx4a65c_get_915e3L3 : List (Nat × Nat) := []
set_option maxHeartbeats 4000000 in
set_option maxRecDepth 20000 in
theorem uJx4a65c_elementData_915e3L3 (l : Launch) (dC : Nat → ClassId) (dI : Nat → Nat → Nat) (ca : Nat → ClassId) (base : Nat) (B : jF) (hB : jBok B) (hAp : jAp (dC, dI)) (hB1 : ∀ n G a H, B 1 n G a H ↔ jOb (dC, dI) 1 3 (F1 n G) a H) (hB11 : ∀ n G a H, B 11 n G a H ↔ jOb (dC, dI) 11 9 (F11 n G) a H) (hB223 : ∀ n G a H, B 223 n G a H ↔ jAq (dC, dI) (ca 9) (jQn 11 0) n G a H) (G0 : jT) (H0 : Heap) (r0 : Nat) (a1 : Int32) (ed : Nat) (n_ed : Nat) (fq : Nat → Option Nat) : Met l yJx4a65c_elementData_915e3 (jw yJx4a65c_elementData_915e3 cJx4a65c_elementData_915e3 2 (some (.object "java/lang/Object"))) ({ frames := 0, cells := 0, slots := 0, locals := 0 }) (va_Pc [.ref r0, .int a1] (fun U => U.heap = H0 ∧ jX B base G0 [] H0 ∧ jG dC dI ca base U ∧ jK7 dC dI ca base U ∧ G0 r0 = some (1, 3) ∧ G0 ed = some (223, n_ed) ∧ jP (dC, dI) G0 H0 [(r0, 1, 1, .ref ed)] ∧ jIs (dC, dI) G0 H0 [([(223, 0)], jQc dC dI (ca 9) ed n_ed fq)] ∧ 0 ≤ a1.toInt ∧ a1.toInt < n_ed ∧ fq (a1.toInt).toNat ≠ none)) (jQx (S := Unit) (fun v u => jRf G0 11 0 v) (fun u t => jRt (dC, dI) B base G0 EJx4a65c_elementData_915e3L3 H0 [] t.heap) (jA base)) 0 0 (jA base) := by
  refine Met.ofW (cc := cJx4a65c_elementData_915e3) (maxL := 2) (ret := (some (.object "java/lang/Object"))) (by decide) rfl ?_
  intro p e s m args below meth c s₁ Bd hml hv
  obtain ⟨rfl, hH0, hX, hG, hK7, hg_r0, hg_ed, hP0, hI0, hp0, hp1, hp2⟩ := hv
  have hK := hG.1
  have hx := Bd.exec
  have hb := Bd.bytes
  have hr := Bd.returns
  have hts := atoms_spec (ws := (jw yJx4a65c_elementData_915e3 cJx4a65c_elementData_915e3 2 (some (.object "java/lang/Object")))) Bd.pre
  have htw : ∀ w ∈ jWl, w.before _ s = true := fun w h => hts w (List.mem_cons_of_mem _ h)
  have hown : s.vm.findClass RJx4a65c = some m.cls := findClass_of_methodNamed Bd.named
  have hlocks := Bd.notSynchronized
  obtain ⟨Q, hQ⟩ : ∃ Q, Q = MQ below (jQx (S := Unit) (fun v u => jRf G0 11 0 v) (fun u t => jRt (dC, dI) B base G0 EJx4a65c_elementData_915e3L3 H0 [] t.heap) (jA base)) ([.ref r0, .int a1] : List Value).toArray s 0 0 (jA base) := ⟨_, rfl⟩
  rw [← hQ]
  have hl := lv_entry ([.ref r0, .int a1]) (n := 2) (Nat.le_of_ble_eq_true rfl)
  rw [lg_entry_eq]
  generalize (lg_sl ([.ref r0, .int a1]) ++ List.replicate (2 - (lg_sl ([.ref r0, .int a1])).length) Slot.unset).toArray = ls at hl ⊢
  have hl : lv_has ls 2 [(0, .ref r0), (1, .int a1)] := hl
  generalize hR : (headSpec (jw yJx4a65c_elementData_915e3 cJx4a65c_elementData_915e3 2 (some (.object "java/lang/Object"))) ({ frames := 0, cells := 0, slots := 0, locals := 0 })).room = R
  subst hH0
  have hh : jSt (dC, dI) B base G0 G0 EJx4a65c_elementData_915e3L3 s.heap 0 0 [(r0, 1, 1, .ref ed)] [] [([(223, 0)], jQc dC dI (ca 9) ed n_ed fq)] s.heap [] := jSt.start hX hP0 jMc.nil hI0
  clear hX hP0
  have hk0 : (0 : Int32).toInt = 0 := by decide
  have hk1 : (1 : Int32).toInt = 1 := by decide
  have hly_1_1 := htw (u_lay RJx4a65c TJx4a65c 1) (jWc_wsJx4a65c0 _ (u_in_lay (by decide)))
  have hlk_9 := (htw (.fieldLink RJx4a65c 9 "java/util/ArrayList" "elementData" "[Ljava/lang/Object;") (jWr_9 _ (List.mem_of_getElem? (i := 15) rfl)))
  have hrg_a1 := jb_rng a1
  refine lv_aload_n hx hb dJx4a65c_elementData_915e3_0 rfl (lv_at hl 0 rfl) ?_
  refine j7_read hx hb hown hK (C := RJx4a65c) (T := TJx4a65c) (N := 3) rfl hly_1_1 hlk_9 (hh.at 0 rfl) dJx4a65c_elementData_915e3_1 ?_
  refine lv_iload_n hx hb dJx4a65c_elementData_915e3_4 rfl (lv_at hl 1 rfl) ?_
  refine j7_qaldI hx hb hK7.1 hh hB223 0 rfl (by decide) hg_ed (x := a1.toInt) (rfl) (by omega) (hh.iv 0 rfl) dJx4a65c_elementData_915e3_5 (fun o_1 ho_1 heo_1 => ?_)
  rcases ho_1 with rfl | ⟨el_2, rfl, hg_el_2⟩
  · simp only [va_rf]
    exact absurd heo_1.symm hp2
  · simp only [va_rf]
    rw [hQ]
    exact W.aret (v := .ref el_2) hx hb hr (Or.inl ⟨_, rfl⟩) (Or.inr ⟨_, rfl⟩) (fun t ht hW => ⟨⟨.ref el_2, (), rfl, ⟨_, rfl, hg_el_2⟩, hh.rt (M1 := []) [] rfl ht⟩, by rw [ht]; try exact hh.1.1, fun q h9 hq => by rw [ht]; try exact hh.1.2.1 q h9 hq⟩) hh.1.2.2 dJx4a65c_elementData_915e3_6
set_option maxHeartbeats 4000000 in
set_option maxRecDepth 20000 in
theorem uJx4a65c_get_915e3L3 (l : Launch) (dC : Nat → ClassId) (dI : Nat → Nat → Nat) (ca : Nat → ClassId) (base : Nat) (B : jF) (hB : jBok B) (hAp : jAp (dC, dI)) (hB1 : ∀ n G a H, B 1 n G a H ↔ jOb (dC, dI) 1 3 (F1 n G) a H) (hB11 : ∀ n G a H, B 11 n G a H ↔ jOb (dC, dI) 11 9 (F11 n G) a H) (hB223 : ∀ n G a H, B 223 n G a H ↔ jAq (dC, dI) (ca 9) (jQn 11 0) n G a H) (G0 : jT) (H0 : Heap) (r0 : Nat) (a1 : Int32) (lz : Int32) (wl : jWl9) : Met l yJx4a65c_get_915e3 (jw yJx4a65c_get_915e3 cJx4a65c_get_915e3 2 (some (.object "java/lang/Object"))) ({ frames := 2, cells := 0, slots := 0, locals := 43 }) (va_Pc [.ref r0, .int a1] (fun U => U.heap = H0 ∧ jX B base G0 [] H0 ∧ jG dC dI ca base U ∧ jK7 dC dI ca base U ∧ G0 r0 = some (1, 3) ∧ jP (dC, dI) G0 H0 [(r0, 1, 2, .int lz)] ∧ jIs (dC, dI) G0 H0 [(jFl, jLs dC dI ca G0 3 none wl)] ∧ 0 ≤ a1.toInt ∧ a1.toInt < lz.toInt)) (jQx (S := Unit) (fun v u => jRf G0 11 0 v) (fun u t => (jRt (dC, dI) B base G0 EJx4a65c_get_915e3L3 H0 [] t.heap) ∧ jIs (dC, dI) G0 t.heap [(jFl, jLs dC dI ca G0 3 none wl)]) (jA base)) 0 0 (jA base) := by
  refine Met.ofW (cc := cJx4a65c_get_915e3) (maxL := 2) (ret := (some (.object "java/lang/Object"))) (by decide) rfl ?_
  intro p e s m args below meth c s₁ Bd hml hv
  obtain ⟨rfl, hH0, hX, hG, hK7, hg_r0, hP0, hI0, hp0, hp1⟩ := hv
  have hK := hG.1
  have hx := Bd.exec
  have hb := Bd.bytes
  have hr := Bd.returns
  have hts := atoms_spec (ws := (jw yJx4a65c_get_915e3 cJx4a65c_get_915e3 2 (some (.object "java/lang/Object")))) Bd.pre
  have htw : ∀ w ∈ jWl, w.before _ s = true := fun w h => hts w (List.mem_cons_of_mem _ h)
  have hown : s.vm.findClass RJx4a65c = some m.cls := findClass_of_methodNamed Bd.named
  have hlocks := Bd.notSynchronized
  obtain ⟨Q, hQ⟩ : ∃ Q, Q = MQ below (jQx (S := Unit) (fun v u => jRf G0 11 0 v) (fun u t => (jRt (dC, dI) B base G0 EJx4a65c_get_915e3L3 H0 [] t.heap) ∧ jIs (dC, dI) G0 t.heap [(jFl, jLs dC dI ca G0 3 none wl)]) (jA base)) ([.ref r0, .int a1] : List Value).toArray s 0 0 (jA base) := ⟨_, rfl⟩
  rw [← hQ]
  have hl := lv_entry ([.ref r0, .int a1]) (n := 2) (Nat.le_of_ble_eq_true rfl)
  rw [lg_entry_eq]
  generalize (lg_sl ([.ref r0, .int a1]) ++ List.replicate (2 - (lg_sl ([.ref r0, .int a1])).length) Slot.unset).toArray = ls at hl ⊢
  have hl : lv_has ls 2 [(0, .ref r0), (1, .int a1)] := hl
  generalize hR : (headSpec (jw yJx4a65c_get_915e3 cJx4a65c_get_915e3 2 (some (.object "java/lang/Object"))) ({ frames := 2, cells := 0, slots := 0, locals := 43 })).room = R
  subst hH0
  have hh : jSt (dC, dI) B base G0 G0 EJx4a65c_get_915e3L3 s.heap 0 0 [(r0, 1, 2, .int lz)] [] [(jFl, jLs dC dI ca G0 3 none wl)] s.heap [] := jSt.start hX hP0 jMc.nil hI0
  clear hX hP0
  have hk0 : (0 : Int32).toInt = 0 := by decide
  have hk1 : (1 : Int32).toInt = 1 := by decide
  have hly_1_2 := htw (u_lay RJx4a65c TJx4a65c 2) (jWc_wsJx4a65c0 _ (u_in_lay (by decide)))
  have hlk_48 := (htw (.fieldLink RJx4a65c 48 "java/util/ArrayList" "size" "I") (jWr_28 _ (List.mem_of_getElem? (i := 2) rfl)))
  have hrg_a1 := jb_rng a1
  obtain ⟨lz_1, lx_1, hl1_1, hl2_1, hl3_1, hl4_1⟩ := jLs.at (hh.iv 0 rfl) hg_r0
  obtain rfl : lz = lz_1 := Value.int.inj (jf.uniq (hh.at 0 rfl) hl1_1)
  have hl3_1 : 0 ≤ lz.toInt ∧ lz.toInt ≤ 24 := hl3_1
  rcases hl4_1 with ⟨rfl, hl5_1, hl0_1⟩ | ⟨lm_1, lf_1, hg_lx_1, hlm_1, hl6_1, hl7_1, hl8_1, hlw_1⟩
  · skip
    exact (by omega : False).elim
  · skip
    have hh_2 := hh.more (P1 := [(r0, 1, 1, .ref lx_1)]) (jP.cons hg_r0 hl2_1 jP.nil)
    clear hh
    have hh_3 := hh_2.addI (jQc.ie hl7_1 hg_lx_1 (by decide) (by decide))
    clear hh_2
    refine lv_iload_n hx hb dJx4a65c_get_915e3_0 rfl (lv_at hl 1 rfl) ?_
    refine lv_aload_n hx hb dJx4a65c_get_915e3_1 rfl (lv_at hl 0 rfl) ?_
    refine j7_read hx hb hown hK (C := RJx4a65c) (T := TJx4a65c) (N := 3) rfl hly_1_2 hlk_48 (hh_3.at 1 rfl) dJx4a65c_get_915e3_2 ?_
    refine va_calli (A0 := jA base) (H0 := s.heap) (va_runS (As := [.int a1, .int lz]) (rest := []) ⟨hx, hb, hml, hown, hts⟩ (uJ15_checkIndex_7cf53 l dC dI ca base B hB hAp G0 s.heap a1 lz) (va_cwS 2 hts (jgS (jWr_28 _ (List.mem_of_getElem? (i := 7) rfl)) (jWr_28 _ (List.mem_of_getElem? (i := 8) rfl)) (jWr_28 _ (List.mem_of_getElem? (i := 9) rfl)) (jWr_28 _ (List.mem_of_getElem? (i := 10) rfl))) rfl rfl rfl (by decide +kernel) ⟨by rw [← hR]; exact Nat.le_of_ble_eq_true rfl, by rw [← hR]; exact Nat.le_of_ble_eq_true rfl⟩) ⟨fun a U g mk q => by obtain ⟨q0, q1, q2, qK, q10, q11⟩ := q; exact ⟨q0, q1, q2, jG.calling g mk a qK, q10, q11⟩, fun U hU hW => ⟨rfl, hU, hh_3.2.1, hG.step hW hU hh_3.1, jP.nil, by first | omega | (refine ⟨?_, ?_⟩ <;> (first | omega | rfl | assumption | decide | exact Or.inl rfl | exact Or.inr rfl | (simp only; omega)))⟩⟩ rfl rfl hl.1 rfl (lv_room (Nat.le_of_ble_eq_true rfl)) dJx4a65c_get_915e3_5 ⟨Nat.zero_le _, Nat.zero_le _⟩) hh_3.1 (fun q _ h => h) (fun q h => h) (fun r_5 u_4 t_4 H_4 locs_4 ht_4 hvm_4 hr_5 hb_4 hz_4 hk_4 hS_4 => ?_)
    rw [ht_4] at hb_4
    obtain ⟨hb_41, hb_42, hb_43, hb_44, hb_45⟩ := hb_4
    have hh_4 : jSt (dC, dI) B base G0 G0 EJx4a65c_get_915e3L3 s.heap 0 0 [(r0, 1, 1, .ref lx_1), (r0, 1, 2, .int lz)] [] [([(223, 0)], jQc dC dI (ca 9) lx_1 lm_1 lf_1), (jFl, jLs dC dI ca G0 3 none wl)] H_4 locs_4 := ((hh_3.call hb_41 hb_42 hb_43 hb_44 hS_4 rfl (L1 := [(r0, 1, 1, .ref lx_1), (r0, 1, 2, .int lz)]) [0, 1] rfl rfl (M1 := []) [] rfl rfl (I1 := [([(223, 0)], jQc dC dI (ca 9) lx_1 lm_1 lf_1), (jFl, jLs dC dI ca G0 3 none wl)]) [0, 1] rfl rfl).more hb_45)
    clear hh_3 ht_4 hvm_4 hz_4 hk_4 hS_4 hb_41 hb_42 hb_43 hb_44 hb_45
    refine lv_pop hx hb dJx4a65c_get_915e3_8 rfl ?_
    refine lv_aload_n hx hb dJx4a65c_get_915e3_9 rfl (lv_at hl 0 rfl) ?_
    refine lv_iload_n hx hb dJx4a65c_get_915e3_10 rfl (lv_at hl 1 rfl) ?_
    refine j_callx (A0 := jA base) (H0 := s.heap) (va_runV (As := [.int a1]) (rest := []) ⟨hx, hb, hml, hown, hts⟩ (uJx4a65c_elementData_915e3L3 l dC dI ca base B hB hAp hB1 hB11 hB223 G0 H_4 r0 a1 lx_1 lm_1 lf_1) (cwV 1 hts (jgV (jWr_28 _ (List.mem_of_getElem? (i := 12) rfl)) (jWr_28 _ (List.mem_of_getElem? (i := 13) rfl)) (jWr_28 _ (List.mem_of_getElem? (i := 14) rfl)) (jWr_2 _ (List.mem_of_getElem? (i := 13) rfl)) (jWr_28 _ (List.mem_of_getElem? (i := 15) rfl))) rfl rfl rfl (by decide +kernel) ⟨by rw [← hR]; exact Nat.le_of_ble_eq_true rfl, by rw [← hR]; exact Nat.le_of_ble_eq_true rfl⟩) ⟨fun a U g mk q => by obtain ⟨q0, q1, q2, qK, q10, q11, q12, q13, q14, q15⟩ := q; exact ⟨q0, q1, q2, jG.calling g mk a qK, (jK7.calling g mk a q10), q11, q12, q13, q14, q15⟩, hh_4.recv (C := RJx4a65c) (T := TJx4a65c) (N := 3) hB1 rfl (by decide) hg_r0 hK, fun U hU hW => ⟨rfl, hU, hh_4.2.1, hG.step hW hU hh_4.1, (hK7.step hW hU hh_4.1), hg_r0, hg_lx_1, (hh_4.2.2.1.sub (L1 := [(r0, 1, 1, .ref lx_1)]) [0] rfl), (hh_4.2.2.2.2.2.2.2.2.sub (L1 := [([(223, 0)], jQc dC dI (ca 9) lx_1 lm_1 lf_1)]) [0] rfl), ⟨(by first | omega | rfl | assumption | exact hl8_1 _ (by omega)), (by first | omega | rfl | assumption | exact hl8_1 _ (by omega)), (by first | omega | rfl | assumption | exact hl8_1 _ (by omega))⟩⟩⟩ rfl rfl hl.1 rfl (lv_room (Nat.le_of_ble_eq_true rfl)) dJx4a65c_get_915e3_11 ⟨Nat.zero_le _, Nat.zero_le _⟩) hh_4.1 (fun q _ h => h) (fun q h => h) (fun r_7 u_6 t_6 H_6 locs_6 ht_6 hvm_6 hr_7 hb_6 hz_6 hk_6 hS_6 => ?_)
    rw [ht_6] at hb_6
    obtain ⟨hb_61, hb_62, hb_63, hb_64, hb_65⟩ := hb_6
    have hh_6 : jSt (dC, dI) B base G0 G0 EJx4a65c_get_915e3L3 s.heap 0 0 [(r0, 1, 1, .ref lx_1), (r0, 1, 2, .int lz)] [] [([(223, 0)], jQc dC dI (ca 9) lx_1 lm_1 lf_1), (jFl, jLs dC dI ca G0 3 none wl)] H_6 locs_6 := ((hh_4.call hb_61 hb_62 hb_63 hb_64 hS_6 rfl (L1 := [(r0, 1, 1, .ref lx_1), (r0, 1, 2, .int lz)]) [0, 1] rfl rfl (M1 := []) [] rfl rfl (I1 := [([(223, 0)], jQc dC dI (ca 9) lx_1 lm_1 lf_1), (jFl, jLs dC dI ca G0 3 none wl)]) [0, 1] rfl rfl).more hb_65)
    clear hh_4 ht_6 hvm_6 hz_6 hk_6 hS_6 hb_61 hb_62 hb_63 hb_64 hb_65
    obtain ⟨ret_8, rfl, hg_ret_8⟩ := hr_7
    rw [hQ]
    exact W.aret (v := .ref ret_8) hx hb hr (Or.inl ⟨_, rfl⟩) (Or.inr ⟨_, rfl⟩) (fun t ht hW => ⟨⟨.ref ret_8, (), rfl, ⟨_, rfl, hg_ret_8⟩, ⟨hh_6.rt (M1 := []) [] rfl ht, by rw [ht]; exact hh_6.2.2.2.2.2.2.2.2.sub (L1 := [(jFl, jLs dC dI ca G0 3 none wl)]) [1] rfl⟩⟩, by rw [ht]; try exact hh_6.1.1, fun q h9 hq => by rw [ht]; try exact hh_6.1.2.1 q h9 hq⟩) hh_6.1.2.2 dJx4a65c_get_915e3_14
end
section
def EJx4a65c_fastRemove_b59b0L3 : List (Nat × Nat) := [(1, 0), (1, 2), (223, 0)]
def EJx4a65c_remove_915e3L3 : List (Nat × Nat) := [(1, 0), (1, 2), (223, 0)]
set_option maxHeartbeats 4000000 in
set_option maxRecDepth 20000 in
theorem uJx4a65c_fastRemove_b59b0L3 (l : Launch) (dC : Nat → ClassId) (dI : Nat → Nat → Nat) (ca : Nat → ClassId) (base : Nat) (B : jF) (hB : jBok B) (hAp : jAp (dC, dI)) (hB1 : ∀ n G a H, B 1 n G a H ↔ jOb (dC, dI) 1 3 (F1 n G) a H) (hB11 : ∀ n G a H, B 11 n G a H ↔ jOb (dC, dI) 11 9 (F11 n G) a H) (hB223 : ∀ n G a H, B 223 n G a H ↔ jAq (dC, dI) (ca 9) (jQn 11 0) n G a H) (G0 : jT) (H0 : Heap) (r0 : Nat) (r1 : Nat) (a2 : Int32) (n1 : Nat) (lz : Int32) (wl : jWl9) : Met l yJx4a65c_fastRemove_b59b0 (jw yJx4a65c_fastRemove_b59b0 cJx4a65c_fastRemove_b59b0 4 none) ({ frames := 1, cells := 0, slots := 0, locals := 61 }) (va_Pc [.ref r0, .ref r1, .int a2] (fun U => U.heap = H0 ∧ jX B base G0 [] H0 ∧ jG dC dI ca base U ∧ jK7 dC dI ca base U ∧ G0 r0 = some (1, 3) ∧ G0 r1 = some (223, n1) ∧ jP (dC, dI) G0 H0 [(r0, 1, 1, .ref r1), (r0, 1, 2, .int lz)] ∧ jIs (dC, dI) G0 H0 [(jFl, jLs dC dI ca G0 3 none wl)] ∧ 0 ≤ a2.toInt ∧ a2.toInt < lz.toInt)) (va_Qv (S := Int32) (fun u => u.toInt = lz.toInt - 1) (fun u t => ((jRt (dC, dI) B base G0 EJx4a65c_fastRemove_b59b0L3 H0 [(r0, 1, 2, .int u)] t.heap) ∧ jOw (dC, dI) G0 1 r0 H0 t.heap) ∧ jIs (dC, dI) G0 t.heap [(jFl, jLs dC dI ca G0 3 none wl)]) (jA base)) 0 0 (jA base) := by
  refine Met.ofW (cc := cJx4a65c_fastRemove_b59b0) (maxL := 4) (ret := none) (by decide) rfl ?_
  intro p e s m args below meth c s₁ Bd hml hv
  obtain ⟨rfl, hH0, hX, hG, hK7, hg_r0, hg_r1, hP0, hI0, hp0, hp1⟩ := hv
  have hK := hG.1
  have hx := Bd.exec
  have hb := Bd.bytes
  have hr := Bd.returns
  have hts := atoms_spec (ws := (jw yJx4a65c_fastRemove_b59b0 cJx4a65c_fastRemove_b59b0 4 none)) Bd.pre
  have htw : ∀ w ∈ jWl, w.before _ s = true := fun w h => hts w (List.mem_cons_of_mem _ h)
  have hown : s.vm.findClass RJx4a65c = some m.cls := findClass_of_methodNamed Bd.named
  have hlocks := Bd.notSynchronized
  obtain ⟨Q, hQ⟩ : ∃ Q, Q = MQ below (va_Qv (S := Int32) (fun u => u.toInt = lz.toInt - 1) (fun u t => ((jRt (dC, dI) B base G0 EJx4a65c_fastRemove_b59b0L3 H0 [(r0, 1, 2, .int u)] t.heap) ∧ jOw (dC, dI) G0 1 r0 H0 t.heap) ∧ jIs (dC, dI) G0 t.heap [(jFl, jLs dC dI ca G0 3 none wl)]) (jA base)) ([.ref r0, .ref r1, .int a2] : List Value).toArray s 0 0 (jA base) := ⟨_, rfl⟩
  rw [← hQ]
  have hl := lv_entry ([.ref r0, .ref r1, .int a2]) (n := 4) (Nat.le_of_ble_eq_true rfl)
  rw [lg_entry_eq]
  generalize (lg_sl ([.ref r0, .ref r1, .int a2]) ++ List.replicate (4 - (lg_sl ([.ref r0, .ref r1, .int a2])).length) Slot.unset).toArray = ls at hl ⊢
  have hl : lv_has ls 4 [(0, .ref r0), (1, .ref r1), (2, .int a2)] := hl
  generalize hR : (headSpec (jw yJx4a65c_fastRemove_b59b0 cJx4a65c_fastRemove_b59b0 4 none) ({ frames := 1, cells := 0, slots := 0, locals := 61 })).room = R
  subst hH0
  have hh : jSt (dC, dI) B base G0 G0 EJx4a65c_fastRemove_b59b0L3 s.heap 0 0 [(r0, 1, 1, .ref r1), (r0, 1, 2, .int lz)] [] [(jFl, jLs dC dI ca G0 3 none wl)] s.heap [] := jSt.start hX hP0 jMc.nil hI0
  clear hX hP0
  have hk0 : (0 : Int32).toInt = 0 := by decide
  have hk1 : (1 : Int32).toInt = 1 := by decide
  have hly_1_0 := htw (u_lay RJx4a65c TJx4a65c 0) (jWc_wsJx4a65c0 _ (u_in_lay (by decide)))
  have hly_1_2 := htw (u_lay RJx4a65c TJx4a65c 2) (jWc_wsJx4a65c0 _ (u_in_lay (by decide)))
  have hlk_63 := (htw (.fieldLink RJx4a65c 63 "java/util/ArrayList" "modCount" "I") (jWr_33 _ (List.mem_of_getElem? (i := 11) rfl)))
  have hlk_48 := (htw (.fieldLink RJx4a65c 48 "java/util/ArrayList" "size" "I") (jWr_28 _ (List.mem_of_getElem? (i := 2) rfl)))
  have hrg_a2 := jb_rng a2
  have hh_1 := hh.addI (jOw.ie (dC := dC) (dI := dI) (G0 := G0) (k := 1) (r := r0) (H0 := s.heap) (F := [(1, 0), (1, 1), (1, 2)]) (C := RJx4a65c) (T := TJx4a65c) (N := 3) rfl (by decide) hh.2.2.2.2.1 (jOw.rf))
  clear hh
  obtain ⟨lz_2, lx_2, hl1_2, hl2_2, hl3_2, hl4_2⟩ := jLs.at (hh_1.iv 1 rfl) hg_r0
  obtain rfl : lz = lz_2 := Value.int.inj (jf.uniq (hh_1.at 1 rfl) hl1_2)
  have hl3_2 : 0 ≤ lz.toInt ∧ lz.toInt ≤ 24 := hl3_2
  obtain rfl : r1 = lx_2 := Value.ref.inj (jf.uniq (hh_1.at 0 rfl) hl2_2)
  rcases hl4_2 with ⟨hl9_2, hl5_2, hl0_2⟩ | ⟨lm_2, lf_2, hg_lx_2, hlm_2, hl6_2, hl7_2, hl8_2, hlw_2⟩
  · skip
    exact (by omega : False).elim
  · skip
    obtain rfl : n1 = lm_2 := by have h9 := Option.some.inj (hg_r1.symm.trans hg_lx_2); exact congrArg Prod.snd h9
    have hd_3 := jLs.less (hh_1.iv 1 rfl) r0
    have hh_4 := hh_1.sub (L1 := [(r0, 1, 1, .ref r1), (r0, 1, 2, .int lz)]) [0, 1] rfl (M1 := []) [] rfl (I1 := [([(1, 0), (1, 1), (1, 2)], jOw (dC, dI) G0 1 r0 s.heap)]) [0] rfl
    clear hh_1
    have hh_5 := hh_4.addI (jLs.ie hd_3)
    clear hh_4
    have hh_6 := hh_5.addI (jQc.ie hl7_2 hg_lx_2 (by decide) (by decide))
    clear hh_5
    refine lv_aload_n hx hb dJx4a65c_fastRemove_b59b0_0 rfl (lv_at hl 0 rfl) ?_
    refine lv_dup hx hb dJx4a65c_fastRemove_b59b0_1 rfl ?_
    obtain ⟨v_7, hv_7, hh_8⟩ := hh_6.pin (C := RJx4a65c) (T := TJx4a65c) (N := 3) hB1 rfl (by decide) hg_r0 (i := 0) (by decide) rfl
    clear hh_6
    obtain ⟨modCount_9, rfl⟩ := hv_7
    refine j7_readS hx hb hown hK (C := RJx4a65c) (T := TJx4a65c) (N := 3) rfl hly_1_0 hlk_63 (htw (.sameField "java/util/ArrayList" "java/util/AbstractList" "modCount" "I") (jWr_33 _ (List.mem_of_getElem? (i := 12) rfl))) (hh_8.at 0 rfl) dJx4a65c_fastRemove_b59b0_2 ?_
    refine lv_iconst (v := 1) hx hb dJx4a65c_fastRemove_b59b0_5 (by decide) ?_
    refine lv_iadd hx hb dJx4a65c_fastRemove_b59b0_6 ?_
    refine lv_topi (fun z_10 ez_10 => ?_)
    have hd_12 := hh_8.iv 2 rfl
    have hh_13 := hh_8.sub (L1 := [(r0, 1, 0, .int modCount_9), (r0, 1, 1, .ref r1), (r0, 1, 2, .int lz)]) [0, 1, 2] rfl (M1 := []) [] rfl (I1 := [([(223, 0)], jQc dC dI (ca 9) r1 n1 lf_2), (jFl, jLs dC dI ca G0 3 (some r0) wl)]) [0, 1] rfl
    clear hh_8
    refine j7_putS hx hb hown hK hh_13 hB hAp hB1 (C := RJx4a65c) (T := TJx4a65c) (N := 3) rfl (by decide) hg_r0 (i := 0) (by decide) hly_1_0 rfl hlk_63 (htw (.sameField "java/util/ArrayList" "java/util/AbstractList" "modCount" "I") (jWr_33 _ (List.mem_of_getElem? (i := 12) rfl))) rfl (ty := .int) (v := .int z_10) (by decide +kernel) rfl rfl (⟨_, rfl⟩) rfl (L1 := [(r0, 1, 1, .ref r1), (r0, 1, 2, .int lz)]) [1, 2] rfl rfl rfl dJx4a65c_fastRemove_b59b0_7 (fun H_11 locs_11 hr_11 hh_11 => ?_)
    clear hh_13
    have hd_12n := jOw.put hd_12 hr_11
    have hh_14 := hh_11.addI (jOw.ie (dC := dC) (dI := dI) (G0 := G0) (k := 1) (r := r0) (H0 := s.heap) (F := [(1, 0), (1, 1), (1, 2)]) (C := RJx4a65c) (T := TJx4a65c) (N := 3) rfl (by decide) hh_11.2.2.2.2.1 (hd_12n))
    clear hh_11
    clear hd_12 hd_12n
    clear hr_11
    refine lv_aload_n hx hb dJx4a65c_fastRemove_b59b0_10 rfl (lv_at hl 0 rfl) ?_
    refine j7_read hx hb hown hK (C := RJx4a65c) (T := TJx4a65c) (N := 3) rfl hly_1_2 hlk_48 (hh_14.at 2 rfl) dJx4a65c_fastRemove_b59b0_11 ?_
    refine lv_iconst (v := 1) hx hb dJx4a65c_fastRemove_b59b0_14 (by decide) ?_
    refine lv_isub hx hb dJx4a65c_fastRemove_b59b0_15 ?_
    refine lv_topi (fun z_15 ez_15 => ?_)
    have hz_15 : z_15.toInt = lz.toInt - 1 := by rw [ez_15]; exact jb_isub2 (rfl) ((by decide)) (by omega)
    refine lv_dup hx hb dJx4a65c_fastRemove_b59b0_16 rfl ?_
    refine lv_istore_n (lv' := [(3, .int z_15), (0, .ref r0), (1, .ref r1), (2, .int a2)]) hx hb dJx4a65c_fastRemove_b59b0_17 rfl hl (by decide) rfl (fun ls hl => ?_)
    refine lv_iload_n hx hb dJx4a65c_fastRemove_b59b0_18 rfl (lv_at hl 3 rfl) ?_
    refine lv_icmp_le (tgt := 34) hx hb dJx4a65c_fastRemove_b59b0_19 (by decide) (fun c_16 => ?_) (fun c_16 => ?_)
    · skip
      have c_16' : z_15.toInt ≤ a2.toInt := jb_le (rfl) (rfl) c_16
      refine lv_aload_n hx hb dJx4a65c_fastRemove_b59b0_34 rfl (lv_at hl 2 rfl) ?_
      refine lv_aload_n hx hb dJx4a65c_fastRemove_b59b0_35 rfl (lv_at hl 1 rfl) ?_
      refine lv_iload_n hx hb dJx4a65c_fastRemove_b59b0_36 rfl (lv_at hl 0 rfl) ?_
      refine lv_dup_x1 hx hb dJx4a65c_fastRemove_b59b0_37 rfl rfl ?_
      have hd_18 := hh_14.iv 0 rfl
      have hh_19 := hh_14.sub (L1 := [(r0, 1, 0, .int z_10), (r0, 1, 1, .ref r1), (r0, 1, 2, .int lz)]) [0, 1, 2] rfl (M1 := []) [] rfl (I1 := [([(223, 0)], jQc dC dI (ca 9) r1 n1 lf_2), (jFl, jLs dC dI ca G0 3 (some r0) wl)]) [1, 2] rfl
      clear hh_14
      have hd_20 := hh_19.iv 1 rfl
      have hh_21 := hh_19.sub (L1 := [(r0, 1, 0, .int z_10), (r0, 1, 1, .ref r1), (r0, 1, 2, .int lz)]) [0, 1, 2] rfl (M1 := []) [] rfl (I1 := [([(223, 0)], jQc dC dI (ca 9) r1 n1 lf_2)]) [0] rfl
      clear hh_19
      refine j7_putX hx hb hown hK hh_21 hB hAp hB1 (C := RJx4a65c) (T := TJx4a65c) (N := 3) rfl (by decide) hg_r0 (i := 2) (by decide) hly_1_2 rfl hlk_48 rfl (ty := .int) (v := .int z_15) (by decide +kernel) rfl rfl (⟨_, rfl, by omega, by omega⟩) rfl (L1 := [(r0, 1, 0, .int z_10), (r0, 1, 1, .ref r1)]) [0, 1] rfl rfl rfl dJx4a65c_fastRemove_b59b0_38 (fun H_17 locs_17 hr_17 hh_17 => ?_)
      clear hh_21
      have hd_20n := jLs.fld hd_20 hg_r0 hr_17
      have hh_22 := hh_17.addI (jLs.ie hd_20n)
      clear hh_17
      have hd_18n := jOw.put hd_18 hr_17
      have hh_23 := hh_22.addI (jOw.ie (dC := dC) (dI := dI) (G0 := G0) (k := 1) (r := r0) (H0 := s.heap) (F := [(1, 0), (1, 1), (1, 2)]) (C := RJx4a65c) (T := TJx4a65c) (N := 3) rfl (by decide) hh_22.2.2.2.2.1 (hd_18n))
      clear hh_22
      clear hd_18 hd_18n
      clear hd_20 hd_20n hr_17
      refine lv_null hx hb dJx4a65c_fastRemove_b59b0_41 ?_
      have hd_25 := hh_23.iv 2 rfl
      have hd_26 := hh_23.iv 1 rfl
      have hh_28 := hh_23.sub (L1 := [(r0, 1, 2, .int z_15), (r0, 1, 0, .int z_10), (r0, 1, 1, .ref r1)]) [0, 1, 2] rfl (M1 := []) [] rfl (I1 := [([(1, 0), (1, 1), (1, 2)], jOw (dC, dI) G0 1 r0 s.heap)]) [0] rfl
      clear hh_23
      refine j7_qastNO hx hb hK7.1 hh_28 hB hB223 0 rfl (by decide) (by decide) rfl rfl rfl hg_r1 (x := z_15.toInt) (rfl) (by omega) (Or.inl rfl) hd_25 dJx4a65c_fastRemove_b59b0_42 (fun H_24 locs_24 fq_27 hv_24 ho_24 hq_24 hr_24 hh_24 => ?_)
      clear hh_28
      have hd_26n := jLs.arr hd_26 hg_r0 hg_r1 hr_24
      have hh_29 := hh_24.addI (jLs.ie hd_26n)
      clear hh_24
      have hh_30 := hh_29.addI (hq_24.ie hg_r1 (by decide) (by decide))
      clear hh_29
      clear hd_25 hd_26 hd_26n hr_24
      have hd_31 := jLs.full (wn := wl) (hh_30.iv 1 rfl) hg_r0 ⟨_, _, hh_30.at 0 rfl, hh_30.at 2 rfl, ⟨by omega, (show _ ≤ (24 : Int) by omega)⟩, Or.inr ⟨_, _, hg_r1, by omega, by omega, hh_30.iv 0 rfl, by first | exact jRm.copy hl8_2 (by omega) (by omega) (zz_none) (by omega) (by omega) (by omega) ho_24 | exact jRm.last hl8_2 (by omega) (by omega) ho_24, (fun q => absurd q (by decide))⟩⟩ (fun _ => rfl)
      have hh_32 := hh_30.sub (L1 := [(r0, 1, 2, .int z_15), (r0, 1, 0, .int z_10), (r0, 1, 1, .ref r1)]) [0, 1, 2] rfl (M1 := []) [] rfl (I1 := [([(223, 0)], jQc dC dI (ca 9) r1 n1 fq_27), ([(1, 0), (1, 1), (1, 2)], jOw (dC, dI) G0 1 r0 s.heap)]) [0, 2] rfl
      clear hh_30
      have hh_33 := hh_32.addI (jLs.ie hd_31)
      clear hh_32
      rw [hQ]
      exact W.vret hx hb hr (fun t ht hW => ⟨⟨z_15, rfl, by first | omega | rfl | assumption | decide | exact Or.inl rfl | exact Or.inr rfl | (simp only; omega), ⟨⟨hh_33.rt (M1 := [(r0, 1, 2, .int z_15)]) [0] rfl ht, by rw [ht]; exact hh_33.iv 2 rfl⟩, by rw [ht]; exact hh_33.2.2.2.2.2.2.2.2.sub (L1 := [(jFl, jLs dC dI ca G0 3 none wl)]) [0] rfl⟩⟩, by rw [ht]; try exact hh_33.1.1, fun q h9 hq => by rw [ht]; try exact hh_33.1.2.1 q h9 hq⟩) hh_33.1.2.2 dJx4a65c_fastRemove_b59b0_43
    · skip
      have c_16' : z_15.toInt > a2.toInt := jb_le_n (rfl) (rfl) c_16
      refine lv_aload_n hx hb dJx4a65c_fastRemove_b59b0_22 rfl (lv_at hl 2 rfl) ?_
      refine lv_iload_n hx hb dJx4a65c_fastRemove_b59b0_23 rfl (lv_at hl 3 rfl) ?_
      refine lv_iconst (v := 1) hx hb dJx4a65c_fastRemove_b59b0_24 (by decide) ?_
      refine lv_iadd hx hb dJx4a65c_fastRemove_b59b0_25 ?_
      refine lv_topi (fun z_34 ez_34 => ?_)
      have hz_34 : z_34.toInt = a2.toInt + 1 := by rw [ez_34]; exact jb_iadd2 (rfl) ((by decide)) (by omega)
      refine lv_aload_n hx hb dJx4a65c_fastRemove_b59b0_26 rfl (lv_at hl 2 rfl) ?_
      refine lv_iload_n hx hb dJx4a65c_fastRemove_b59b0_27 rfl (lv_at hl 3 rfl) ?_
      refine lv_iload_n hx hb dJx4a65c_fastRemove_b59b0_28 rfl (lv_at hl 0 rfl) ?_
      refine lv_iload_n hx hb dJx4a65c_fastRemove_b59b0_29 rfl (lv_at hl 3 rfl) ?_
      refine lv_isub hx hb dJx4a65c_fastRemove_b59b0_30 ?_
      refine lv_topi (fun z_35 ez_35 => ?_)
      have hz_35 : z_35.toInt = z_15.toInt - a2.toInt := by rw [ez_35]; exact jb_isub2 (rfl) (rfl) (by omega)
      have hd_37 := hh_14.iv 1 rfl
      have hd_38 := hh_14.iv 1 rfl
      have hd_39 := hh_14.iv 2 rfl
      have hh_41 := hh_14.sub (L1 := [(r0, 1, 0, .int z_10), (r0, 1, 1, .ref r1), (r0, 1, 2, .int lz)]) [0, 1, 2] rfl (M1 := []) [] rfl (I1 := [([(1, 0), (1, 1), (1, 2)], jOw (dC, dI) G0 1 r0 s.heap)]) [0] rfl
      clear hh_14
      refine j7_qcopy hx hb (by rw [hml]; exact hl.1.symm) hown (htw (.methodLink RJx4a65c 112 arraycopyName) (jWr_42 _ (List.mem_of_getElem? (i := 15) rfl))) (htw (.native arraycopyName) (jWr_16 _ (List.mem_of_getElem? (i := 19) rfl))) (htw (.static arraycopyName) (jWr_16 _ (List.mem_of_getElem? (i := 20) rfl))) (htw (.initialized "java/lang/System") (jWr_16 _ (List.mem_of_getElem? (i := 21) rfl))) hK hK7.1 hh_41 hB hB223 0 rfl (by decide) (by decide) rfl rfl rfl hg_r1 hg_r1 hd_38 hd_37 hB11 (T := TX9) (N := 9) rfl (by decide) hK7.2.2.1.2.2.1 (x := z_34.toInt) (y := a2.toInt) (z := z_35.toInt) rfl rfl rfl (by omega) (by rw [← hR]; exact Nat.le_of_ble_eq_true rfl) (by rw [← hR]; exact Nat.le_of_ble_eq_true rfl) dJx4a65c_fastRemove_b59b0_31 (fun H_36 locs_36 fq_40 hc_36 hq_36 hr_36 hh_36 => ?_)
      clear hh_41
      have hd_39n := jLs.arr hd_39 hg_r0 hg_r1 hr_36
      have hh_42 := hh_36.addI (jLs.ie hd_39n)
      clear hh_36
      have hh_43 := hh_42.addI (hq_36.ie hg_r1 (by decide) (by decide))
      clear hh_42
      refine lv_aload_n hx hb dJx4a65c_fastRemove_b59b0_34 rfl (lv_at hl 2 rfl) ?_
      refine lv_aload_n hx hb dJx4a65c_fastRemove_b59b0_35 rfl (lv_at hl 1 rfl) ?_
      refine lv_iload_n hx hb dJx4a65c_fastRemove_b59b0_36 rfl (lv_at hl 0 rfl) ?_
      refine lv_dup_x1 hx hb dJx4a65c_fastRemove_b59b0_37 rfl rfl ?_
      have hd_45 := hh_43.iv 2 rfl
      have hh_46 := hh_43.sub (L1 := [(r0, 1, 0, .int z_10), (r0, 1, 1, .ref r1), (r0, 1, 2, .int lz)]) [0, 1, 2] rfl (M1 := []) [] rfl (I1 := [([(223, 0)], jQc dC dI (ca 9) r1 n1 fq_40), (jFl, jLs dC dI ca G0 3 (some r0) wl)]) [0, 1] rfl
      clear hh_43
      have hd_47 := hh_46.iv 1 rfl
      have hh_48 := hh_46.sub (L1 := [(r0, 1, 0, .int z_10), (r0, 1, 1, .ref r1), (r0, 1, 2, .int lz)]) [0, 1, 2] rfl (M1 := []) [] rfl (I1 := [([(223, 0)], jQc dC dI (ca 9) r1 n1 fq_40)]) [0] rfl
      clear hh_46
      refine j7_putX hx hb hown hK hh_48 hB hAp hB1 (C := RJx4a65c) (T := TJx4a65c) (N := 3) rfl (by decide) hg_r0 (i := 2) (by decide) hly_1_2 rfl hlk_48 rfl (ty := .int) (v := .int z_15) (by decide +kernel) rfl rfl (⟨_, rfl, by omega, by omega⟩) rfl (L1 := [(r0, 1, 0, .int z_10), (r0, 1, 1, .ref r1)]) [0, 1] rfl rfl rfl dJx4a65c_fastRemove_b59b0_38 (fun H_44 locs_44 hr_44 hh_44 => ?_)
      clear hh_48
      have hd_47n := jLs.fld hd_47 hg_r0 hr_44
      have hh_49 := hh_44.addI (jLs.ie hd_47n)
      clear hh_44
      have hd_45n := jOw.put hd_45 hr_44
      have hh_50 := hh_49.addI (jOw.ie (dC := dC) (dI := dI) (G0 := G0) (k := 1) (r := r0) (H0 := s.heap) (F := [(1, 0), (1, 1), (1, 2)]) (C := RJx4a65c) (T := TJx4a65c) (N := 3) rfl (by decide) hh_49.2.2.2.2.1 (hd_45n))
      clear hh_49
      clear hd_45 hd_45n
      clear hd_47 hd_47n hr_44
      refine lv_null hx hb dJx4a65c_fastRemove_b59b0_41 ?_
      have hd_52 := hh_50.iv 2 rfl
      have hd_53 := hh_50.iv 1 rfl
      have hh_55 := hh_50.sub (L1 := [(r0, 1, 2, .int z_15), (r0, 1, 0, .int z_10), (r0, 1, 1, .ref r1)]) [0, 1, 2] rfl (M1 := []) [] rfl (I1 := [([(1, 0), (1, 1), (1, 2)], jOw (dC, dI) G0 1 r0 s.heap)]) [0] rfl
      clear hh_50
      refine j7_qastNO hx hb hK7.1 hh_55 hB hB223 0 rfl (by decide) (by decide) rfl rfl rfl hg_r1 (x := z_15.toInt) (rfl) (by omega) (Or.inl rfl) hd_52 dJx4a65c_fastRemove_b59b0_42 (fun H_51 locs_51 fq_54 hv_51 ho_51 hq_51 hr_51 hh_51 => ?_)
      clear hh_55
      have hd_53n := jLs.arr hd_53 hg_r0 hg_r1 hr_51
      have hh_56 := hh_51.addI (jLs.ie hd_53n)
      clear hh_51
      have hh_57 := hh_56.addI (hq_51.ie hg_r1 (by decide) (by decide))
      clear hh_56
      clear hd_52 hd_53 hd_53n hr_51
      have hd_58 := jLs.full (wn := wl) (hh_57.iv 1 rfl) hg_r0 ⟨_, _, hh_57.at 0 rfl, hh_57.at 2 rfl, ⟨by omega, (show _ ≤ (24 : Int) by omega)⟩, Or.inr ⟨_, _, hg_r1, by omega, by omega, hh_57.iv 0 rfl, by first | exact jRm.copy hl8_2 (by omega) (by omega) hc_36 (by omega) (by omega) (by omega) ho_51 | exact jRm.last hl8_2 (by omega) (by omega) ho_51, (fun q => absurd q (by decide))⟩⟩ (fun _ => rfl)
      have hh_59 := hh_57.sub (L1 := [(r0, 1, 2, .int z_15), (r0, 1, 0, .int z_10), (r0, 1, 1, .ref r1)]) [0, 1, 2] rfl (M1 := []) [] rfl (I1 := [([(223, 0)], jQc dC dI (ca 9) r1 n1 fq_54), ([(1, 0), (1, 1), (1, 2)], jOw (dC, dI) G0 1 r0 s.heap)]) [0, 2] rfl
      clear hh_57
      have hh_60 := hh_59.addI (jLs.ie hd_58)
      clear hh_59
      rw [hQ]
      exact W.vret hx hb hr (fun t ht hW => ⟨⟨z_15, rfl, by first | omega | rfl | assumption | decide | exact Or.inl rfl | exact Or.inr rfl | (simp only; omega), ⟨⟨hh_60.rt (M1 := [(r0, 1, 2, .int z_15)]) [0] rfl ht, by rw [ht]; exact hh_60.iv 2 rfl⟩, by rw [ht]; exact hh_60.2.2.2.2.2.2.2.2.sub (L1 := [(jFl, jLs dC dI ca G0 3 none wl)]) [0] rfl⟩⟩, by rw [ht]; try exact hh_60.1.1, fun q h9 hq => by rw [ht]; try exact hh_60.1.2.1 q h9 hq⟩) hh_60.1.2.2 dJx4a65c_fastRemove_b59b0_43
set_option maxHeartbeats 4000000 in
set_option maxRecDepth 20000 in
theorem uJx4a65c_remove_915e3L3 (l : Launch) (dC : Nat → ClassId) (dI : Nat → Nat → Nat) (ca : Nat → ClassId) (base : Nat) (B : jF) (hB : jBok B) (hAp : jAp (dC, dI)) (hB1 : ∀ n G a H, B 1 n G a H ↔ jOb (dC, dI) 1 3 (F1 n G) a H) (hB11 : ∀ n G a H, B 11 n G a H ↔ jOb (dC, dI) 11 9 (F11 n G) a H) (hB223 : ∀ n G a H, B 223 n G a H ↔ jAq (dC, dI) (ca 9) (jQn 11 0) n G a H) (G0 : jT) (H0 : Heap) (r0 : Nat) (a1 : Int32) (lz : Int32) (wl : jWl9) : Met l yJx4a65c_remove_915e3 (jw yJx4a65c_remove_915e3 cJx4a65c_remove_915e3 4 (some (.object "java/lang/Object"))) ({ frames := 2, cells := 0, slots := 0, locals := 84 }) (va_Pc [.ref r0, .int a1] (fun U => U.heap = H0 ∧ jX B base G0 [] H0 ∧ jG dC dI ca base U ∧ jK7 dC dI ca base U ∧ G0 r0 = some (1, 3) ∧ jP (dC, dI) G0 H0 [(r0, 1, 2, .int lz)] ∧ jIs (dC, dI) G0 H0 [(jFl, jLs dC dI ca G0 3 none wl)] ∧ 0 ≤ a1.toInt ∧ a1.toInt < lz.toInt)) (jQx (S := Int32) (fun v u => jRf G0 11 0 v ∧ u.toInt = lz.toInt - 1) (fun u t => ((jRt (dC, dI) B base G0 EJx4a65c_remove_915e3L3 H0 [(r0, 1, 2, .int u)] t.heap) ∧ jOw (dC, dI) G0 1 r0 H0 t.heap) ∧ jIs (dC, dI) G0 t.heap [(jFl, jLs dC dI ca G0 3 none wl)]) (jA base)) 0 0 (jA base) := by
  refine Met.ofW (cc := cJx4a65c_remove_915e3) (maxL := 4) (ret := (some (.object "java/lang/Object"))) (by decide) rfl ?_
  intro p e s m args below meth c s₁ Bd hml hv
  obtain ⟨rfl, hH0, hX, hG, hK7, hg_r0, hP0, hI0, hp0, hp1⟩ := hv
  have hK := hG.1
  have hx := Bd.exec
  have hb := Bd.bytes
  have hr := Bd.returns
  have hts := atoms_spec (ws := (jw yJx4a65c_remove_915e3 cJx4a65c_remove_915e3 4 (some (.object "java/lang/Object")))) Bd.pre
  have htw : ∀ w ∈ jWl, w.before _ s = true := fun w h => hts w (List.mem_cons_of_mem _ h)
  have hown : s.vm.findClass RJx4a65c = some m.cls := findClass_of_methodNamed Bd.named
  have hlocks := Bd.notSynchronized
  obtain ⟨Q, hQ⟩ : ∃ Q, Q = MQ below (jQx (S := Int32) (fun v u => jRf G0 11 0 v ∧ u.toInt = lz.toInt - 1) (fun u t => ((jRt (dC, dI) B base G0 EJx4a65c_remove_915e3L3 H0 [(r0, 1, 2, .int u)] t.heap) ∧ jOw (dC, dI) G0 1 r0 H0 t.heap) ∧ jIs (dC, dI) G0 t.heap [(jFl, jLs dC dI ca G0 3 none wl)]) (jA base)) ([.ref r0, .int a1] : List Value).toArray s 0 0 (jA base) := ⟨_, rfl⟩
  rw [← hQ]
  have hl := lv_entry ([.ref r0, .int a1]) (n := 4) (Nat.le_of_ble_eq_true rfl)
  rw [lg_entry_eq]
  generalize (lg_sl ([.ref r0, .int a1]) ++ List.replicate (4 - (lg_sl ([.ref r0, .int a1])).length) Slot.unset).toArray = ls at hl ⊢
  have hl : lv_has ls 4 [(0, .ref r0), (1, .int a1)] := hl
  generalize hR : (headSpec (jw yJx4a65c_remove_915e3 cJx4a65c_remove_915e3 4 (some (.object "java/lang/Object"))) ({ frames := 2, cells := 0, slots := 0, locals := 84 })).room = R
  subst hH0
  have hh : jSt (dC, dI) B base G0 G0 EJx4a65c_remove_915e3L3 s.heap 0 0 [(r0, 1, 2, .int lz)] [] [(jFl, jLs dC dI ca G0 3 none wl)] s.heap [] := jSt.start hX hP0 jMc.nil hI0
  clear hX hP0
  have hk0 : (0 : Int32).toInt = 0 := by decide
  have hk1 : (1 : Int32).toInt = 1 := by decide
  have hly_1_1 := htw (u_lay RJx4a65c TJx4a65c 1) (jWc_wsJx4a65c0 _ (u_in_lay (by decide)))
  have hly_1_2 := htw (u_lay RJx4a65c TJx4a65c 2) (jWc_wsJx4a65c0 _ (u_in_lay (by decide)))
  have hlk_48 := (htw (.fieldLink RJx4a65c 48 "java/util/ArrayList" "size" "I") (jWr_28 _ (List.mem_of_getElem? (i := 2) rfl)))
  have hlk_9 := (htw (.fieldLink RJx4a65c 9 "java/util/ArrayList" "elementData" "[Ljava/lang/Object;") (jWr_9 _ (List.mem_of_getElem? (i := 15) rfl)))
  have hrg_a1 := jb_rng a1
  have hh_1 := hh.addI (jOw.ie (dC := dC) (dI := dI) (G0 := G0) (k := 1) (r := r0) (H0 := s.heap) (F := [(1, 0), (1, 1), (1, 2)]) (C := RJx4a65c) (T := TJx4a65c) (N := 3) rfl (by decide) hh.2.2.2.2.1 (jOw.rf))
  clear hh
  obtain ⟨lz_2, lx_2, hl1_2, hl2_2, hl3_2, hl4_2⟩ := jLs.at (hh_1.iv 1 rfl) hg_r0
  obtain rfl : lz = lz_2 := Value.int.inj (jf.uniq (hh_1.at 0 rfl) hl1_2)
  have hl3_2 : 0 ≤ lz.toInt ∧ lz.toInt ≤ 24 := hl3_2
  rcases hl4_2 with ⟨rfl, hl5_2, hl0_2⟩ | ⟨lm_2, lf_2, hg_lx_2, hlm_2, hl6_2, hl7_2, hl8_2, hlw_2⟩
  · skip
    exact (by omega : False).elim
  · skip
    have hh_3 := hh_1.more (P1 := [(r0, 1, 1, .ref lx_2)]) (jP.cons hg_r0 hl2_2 jP.nil)
    clear hh_1
    have hh_4 := hh_3.addI (jQc.ie hl7_2 hg_lx_2 (by decide) (by decide))
    clear hh_3
    refine lv_iload_n hx hb dJx4a65c_remove_915e3_0 rfl (lv_at hl 1 rfl) ?_
    refine lv_aload_n hx hb dJx4a65c_remove_915e3_1 rfl (lv_at hl 0 rfl) ?_
    refine j7_read hx hb hown hK (C := RJx4a65c) (T := TJx4a65c) (N := 3) rfl hly_1_2 hlk_48 (hh_4.at 1 rfl) dJx4a65c_remove_915e3_2 ?_
    refine va_calli (A0 := jA base) (H0 := s.heap) (va_runS (As := [.int a1, .int lz]) (rest := []) ⟨hx, hb, hml, hown, hts⟩ (uJ15_checkIndex_7cf53 l dC dI ca base B hB hAp G0 s.heap a1 lz) (va_cwS 2 hts (jgS (jWr_28 _ (List.mem_of_getElem? (i := 7) rfl)) (jWr_28 _ (List.mem_of_getElem? (i := 8) rfl)) (jWr_28 _ (List.mem_of_getElem? (i := 9) rfl)) (jWr_28 _ (List.mem_of_getElem? (i := 10) rfl))) rfl rfl rfl (by decide +kernel) ⟨by rw [← hR]; exact Nat.le_of_ble_eq_true rfl, by rw [← hR]; exact Nat.le_of_ble_eq_true rfl⟩) ⟨fun a U g mk q => by obtain ⟨q0, q1, q2, qK, q10, q11⟩ := q; exact ⟨q0, q1, q2, jG.calling g mk a qK, q10, q11⟩, fun U hU hW => ⟨rfl, hU, hh_4.2.1, hG.step hW hU hh_4.1, jP.nil, by first | omega | (refine ⟨?_, ?_⟩ <;> (first | omega | rfl | assumption | decide | exact Or.inl rfl | exact Or.inr rfl | (simp only; omega)))⟩⟩ rfl rfl hl.1 rfl (lv_room (Nat.le_of_ble_eq_true rfl)) dJx4a65c_remove_915e3_5 ⟨Nat.zero_le _, Nat.zero_le _⟩) hh_4.1 (fun q _ h => h) (fun q h => h) (fun r_6 u_5 t_5 H_5 locs_5 ht_5 hvm_5 hr_6 hb_5 hz_5 hk_5 hS_5 => ?_)
    rw [ht_5] at hb_5
    obtain ⟨hb_51, hb_52, hb_53, hb_54, hb_55⟩ := hb_5
    have hh_5 : jSt (dC, dI) B base G0 G0 EJx4a65c_remove_915e3L3 s.heap 0 0 [(r0, 1, 1, .ref lx_2), (r0, 1, 2, .int lz)] [] [([(223, 0)], jQc dC dI (ca 9) lx_2 lm_2 lf_2), ([(1, 0), (1, 1), (1, 2)], jOw (dC, dI) G0 1 r0 s.heap), (jFl, jLs dC dI ca G0 3 none wl)] H_5 locs_5 := ((hh_4.call hb_51 hb_52 hb_53 hb_54 hS_5 rfl (L1 := [(r0, 1, 1, .ref lx_2), (r0, 1, 2, .int lz)]) [0, 1] rfl rfl (M1 := []) [] rfl rfl (I1 := [([(223, 0)], jQc dC dI (ca 9) lx_2 lm_2 lf_2), ([(1, 0), (1, 1), (1, 2)], jOw (dC, dI) G0 1 r0 s.heap), (jFl, jLs dC dI ca G0 3 none wl)]) [0, 1, 2] rfl rfl).more hb_55)
    clear hh_4 ht_5 hvm_5 hz_5 hk_5 hS_5 hb_51 hb_52 hb_53 hb_54 hb_55
    refine lv_pop hx hb dJx4a65c_remove_915e3_8 rfl ?_
    refine lv_aload_n hx hb dJx4a65c_remove_915e3_9 rfl (lv_at hl 0 rfl) ?_
    refine j7_read hx hb hown hK (C := RJx4a65c) (T := TJx4a65c) (N := 3) rfl hly_1_1 hlk_9 (hh_5.at 0 rfl) dJx4a65c_remove_915e3_10 ?_
    refine lv_astore_n (lv' := [(2, .ref lx_2), (0, .ref r0), (1, .int a1)]) hx hb dJx4a65c_remove_915e3_13 rfl hl (by decide) rfl (fun ls hl => ?_)
    refine lv_aload_n hx hb dJx4a65c_remove_915e3_14 rfl (lv_at hl 0 rfl) ?_
    refine lv_iload_n hx hb dJx4a65c_remove_915e3_15 rfl (lv_at hl 2 rfl) ?_
    refine j7_qaldI hx hb hK7.1 hh_5 hB223 0 rfl (by decide) hg_lx_2 (x := a1.toInt) (rfl) (by omega) (hh_5.iv 0 rfl) dJx4a65c_remove_915e3_16 (fun o_7 ho_7 heo_7 => ?_)
    rcases ho_7 with rfl | ⟨el_8, rfl, hg_el_8⟩
    · simp only [va_rf]
      exact absurd heo_7.symm (hl8_2 _ (by omega))
    · simp only [va_rf]
      refine lv_astore_n (lv' := [(3, .ref el_8), (2, .ref lx_2), (0, .ref r0), (1, .int a1)]) hx hb dJx4a65c_remove_915e3_17 rfl hl (by decide) rfl (fun ls hl => ?_)
      refine lv_aload_n hx hb dJx4a65c_remove_915e3_18 rfl (lv_at hl 2 rfl) ?_
      refine lv_aload_n hx hb dJx4a65c_remove_915e3_19 rfl (lv_at hl 1 rfl) ?_
      refine lv_iload_n hx hb dJx4a65c_remove_915e3_20 rfl (lv_at hl 3 rfl) ?_
      refine va_callv (A0 := jA base) (H0 := s.heap) (va_runV (As := [.ref lx_2, .int a1]) (rest := []) ⟨hx, hb, hml, hown, hts⟩ (uJx4a65c_fastRemove_b59b0L3 l dC dI ca base B hB hAp hB1 hB11 hB223 G0 H_5 r0 lx_2 a1 lm_2 lz wl) (cwV 2 hts (jgV (jWr_42 _ (List.mem_of_getElem? (i := 11) rfl)) (jWr_42 _ (List.mem_of_getElem? (i := 12) rfl)) (jWr_42 _ (List.mem_of_getElem? (i := 13) rfl)) (jWr_2 _ (List.mem_of_getElem? (i := 13) rfl)) (jWr_42 _ (List.mem_of_getElem? (i := 14) rfl))) rfl rfl rfl (by decide +kernel) ⟨by rw [← hR]; exact Nat.le_of_ble_eq_true rfl, by rw [← hR]; exact Nat.le_of_ble_eq_true rfl⟩) ⟨fun a U g mk q => by obtain ⟨q0, q1, q2, qK, q10, q11, q12, q13, q14, q15⟩ := q; exact ⟨q0, q1, q2, jG.calling g mk a qK, (jK7.calling g mk a q10), q11, q12, q13, q14, q15⟩, hh_5.recv (C := RJx4a65c) (T := TJx4a65c) (N := 3) hB1 rfl (by decide) hg_r0 hK, fun U hU hW => ⟨rfl, hU, hh_5.2.1, hG.step hW hU hh_5.1, (hK7.step hW hU hh_5.1), hg_r0, hg_lx_2, (hh_5.2.2.1.sub (L1 := [(r0, 1, 1, .ref lx_2), (r0, 1, 2, .int lz)]) [0, 1] rfl), (hh_5.2.2.2.2.2.2.2.2.sub (L1 := [(jFl, jLs dC dI ca G0 3 none wl)]) [2] rfl), by first | omega | (refine ⟨?_, ?_⟩ <;> (first | omega | rfl | assumption | decide | exact Or.inl rfl | exact Or.inr rfl | (simp only; omega)))⟩⟩ rfl rfl hl.1 rfl (lv_room (Nat.le_of_ble_eq_true rfl)) dJx4a65c_remove_915e3_21 ⟨Nat.zero_le _, Nat.zero_le _⟩) hh_5.1 (fun q _ h => h) (fun q h => h) (fun u_9 t_9 H_9 locs_9 ht_9 hvm_9 hr_10 hb_9 hz_9 hk_9 hS_9 => ?_)
      obtain ⟨qz_9, rfl⟩ : ∃ z, z = u_9 := ⟨_, rfl⟩
      rw [ht_9] at hb_9
      obtain ⟨hb_9, hbE_9⟩ := hb_9
      obtain ⟨hb_9, hbO_9⟩ := hb_9
      obtain ⟨hb_91, hb_92, hb_93, hb_94, hb_95⟩ := hb_9
      have hh_9 : jSt (dC, dI) B base G0 G0 EJx4a65c_remove_915e3L3 s.heap 0 0 [(r0, 1, 2, .int qz_9), (r0, 1, 1, .ref lx_2)] [] [(jFl, jLs dC dI ca G0 3 none wl)] H_9 locs_9 := (((hh_5.call hb_91 hb_92 hb_93 hb_94 hS_9 rfl (L1 := [(r0, 1, 1, .ref lx_2)]) [0] rfl rfl (M1 := []) [] rfl rfl (I1 := []) [] rfl rfl).more hb_95)).addIs hbE_9
      have hd_11 := jOw.tr (hh_5.iv 1 rfl) hh_5.2.2.2.2.1 hbO_9
      have hh_12 := hh_9.addI (jOw.ie (dC := dC) (dI := dI) (G0 := G0) (k := 1) (r := r0) (H0 := s.heap) (F := [(1, 0), (1, 1), (1, 2)]) (C := RJx4a65c) (T := TJx4a65c) (N := 3) rfl (by decide) hh_9.2.2.2.2.1 (hd_11))
      clear hh_9
      clear hh_5 ht_9 hvm_9 hz_9 hk_9 hS_9 hb_91 hb_92 hb_93 hb_94 hb_95
      clear  hbE_9
      refine lv_aload_n hx hb dJx4a65c_remove_915e3_24 rfl (lv_at hl 0 rfl) ?_
      rw [hQ]
      exact W.aret (v := .ref el_8) hx hb hr (Or.inl ⟨_, rfl⟩) (Or.inr ⟨_, rfl⟩) (fun t ht hW => ⟨⟨.ref el_8, qz_9, rfl, ⟨⟨_, rfl, hg_el_8⟩, by first | omega | rfl | assumption | decide | exact Or.inl rfl | exact Or.inr rfl | (simp only; omega)⟩, ⟨⟨hh_12.rt (M1 := [(r0, 1, 2, .int qz_9)]) [0] rfl ht, by rw [ht]; exact hh_12.iv 0 rfl⟩, by rw [ht]; exact hh_12.2.2.2.2.2.2.2.2.sub (L1 := [(jFl, jLs dC dI ca G0 3 none wl)]) [1] rfl⟩⟩, by rw [ht]; try exact hh_12.1.1, fun q h9 hq => by rw [ht]; try exact hh_12.1.2.1 q h9 hq⟩) hh_12.1.2.2 dJx4a65c_remove_915e3_25
end
