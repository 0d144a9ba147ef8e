section
def EX10_isSentenceS : List (Nat × Nat) := [(12, 4), (12, 5), (12, 7), (12, 8), (12, 10), (280, 0), (292, 0)]
def EX5_actS : List (Nat × Nat) := [(7, 5), (7, 10), (101, 0), (211, 0), (280, 0), (290, 0), (291, 0)]
def EX5_actSZ : List (Nat × Nat) := [(7, 5), (7, 10), (101, 0), (211, 0), (280, 0), (290, 0), (291, 0)]
def EX5_tacticS : List (Nat × Nat) := [(7, 5), (7, 10), (11, 8), (101, 0), (211, 0), (280, 0), (290, 0), (291, 0)]
set_option maxHeartbeats 4000000 in
set_option maxRecDepth 20000 in
theorem uX10_isSentenceS (l : Launch) (dC : Nat → ClassId) (dI : Nat → Nat → Nat) (ca : Nat → ClassId) (base : Nat) (B : jF) (hB : jBok B) (hAp : jAp (dC, dI)) (hB12 : ∀ n G a H, B 12 n G a H ↔ jOb (dC, dI) 12 11 (F12b n G) a H) (hB101 : ∀ n G a H, B 101 n G a H ↔ jAr (dC, dI) (ca 1) (fun j z => True) n a H) (hB280 : ∀ n G a H, B 280 n G a H ↔ jAr (dC, dI) (ca 1) (fun j z => -1 ≤ z.toInt) n a H) (hB292 : ∀ n G a H, B 292 n G a H ↔ jAr (dC, dI) (ca 1) (fun j z => 0 ≤ z.toInt ∧ z.toInt ≤ 8191) n a H) (hB293 : ∀ n G a H, B 293 n G a H ↔ jAr (dC, dI) (ca 1) (fun j z => -1 ≤ z.toInt ∧ z.toInt ≤ 8191) n a H) (G0 : jT) (H0 : Heap) (r0 : Nat) (tk : Int32) : Met l yX10_isSentence (jw yX10_isSentence cX10_isSentence 2 (some .boolean)) ({ frames := 69, cells := 0, slots := 0, locals := 2235 }) (va_Pc [.ref r0] (fun U => U.heap = H0 ∧ jX B base G0 [] H0 ∧ jG dC dI ca base U ∧ G0 r0 = some (12, 0) ∧ jP (dC, dI) G0 H0 [(r0, 12, 3, .int tk)] ∧ 0 ≤ tk.toInt ∧ tk.toInt ≤ 1500)) (va_Qi (S := Int32) (fun r u => (r = 0 ∨ r = 1) ∧ (r.toInt = 0 ∨ 3 ≤ tk.toInt ∨ (u.toInt ≠ 9 ∧ u.toInt ≠ 11 ∧ u.toInt ≠ 15))) (fun u t => jRt (dC, dI) B base G0 EX10_isSentenceS H0 [(r0, 12, 5, .int u)] t.heap) (jA base)) 0 0 (jA base) := by
  refine Met.ofW (cc := cX10_isSentence) (maxL := 2) (ret := (some .boolean)) (by decide) rfl ?_
  intro p e s m args below meth c s₁ Bd hml hv
  obtain ⟨rfl, hH0, hX, hG, hg_r0, hP0, hp0, hp1⟩ := hv
  have hK := hG.1
  have hx := Bd.exec
  have hb := Bd.bytes
  have hr := Bd.returns
  have hts := atoms_spec (ws := (jw yX10_isSentence cX10_isSentence 2 (some .boolean))) Bd.pre
  have htw : ∀ w ∈ jWl, w.before _ s = true := fun w h => hts w (List.mem_cons_of_mem _ h)
  have hown : s.vm.findClass RX10 = some m.cls := findClass_of_methodNamed Bd.named
  have hlocks := Bd.notSynchronized
  obtain ⟨Q, hQ⟩ : ∃ Q, Q = MQ below (va_Qi (S := Int32) (fun r u => (r = 0 ∨ r = 1) ∧ (r.toInt = 0 ∨ 3 ≤ tk.toInt ∨ (u.toInt ≠ 9 ∧ u.toInt ≠ 11 ∧ u.toInt ≠ 15))) (fun u t => jRt (dC, dI) B base G0 EX10_isSentenceS H0 [(r0, 12, 5, .int u)] t.heap) (jA base)) ([.ref r0] : List Value).toArray s 0 0 (jA base) := ⟨_, rfl⟩
  rw [← hQ]
  have hl := lv_entry ([.ref r0]) (n := 2) (Nat.le_of_ble_eq_true rfl)
  rw [lg_entry_eq]
  generalize (lg_sl ([.ref r0]) ++ List.replicate (2 - (lg_sl ([.ref r0])).length) Slot.unset).toArray = ls at hl ⊢
  have hl : lv_has ls 2 [(0, .ref r0)] := hl
  generalize hR : (headSpec (jw yX10_isSentence cX10_isSentence 2 (some .boolean)) ({ frames := 69, cells := 0, slots := 0, locals := 2235 })).room = R
  subst hH0
  have hh : jSt (dC, dI) B base G0 G0 EX10_isSentenceS s.heap 0 0 [(r0, 12, 3, .int tk)] [] [] s.heap [] := jSt.start hX hP0 jMc.nil jIs.nil
  clear hX hP0
  have hkm1 : ((-1) : Int32).toInt = (-1) := by decide
  have hk0 : (0 : Int32).toInt = 0 := by decide
  have hk1 : (1 : Int32).toInt = 1 := by decide
  have hk8 : (8 : Int32).toInt = 8 := by decide
  have hk46 : (46 : Int32).toInt = 46 := by decide
  have hk58 : (58 : Int32).toInt = 58 := by decide
  have hk110 : (110 : Int32).toInt = 110 := by decide
  have hly_12_1 := htw (u_lay RX10 TX10 1) (jWc_wsX100 _ (u_in_lay (by decide)))
  have hly_12_2 := htw (u_lay RX10 TX10 2) (jWc_wsX100 _ (u_in_lay (by decide)))
  have hly_12_3 := htw (u_lay RX10 TX10 3) (jWc_wsX100 _ (u_in_lay (by decide)))
  have hly_12_4 := htw (u_lay RX10 TX10 4) (jWc_wsX100 _ (u_in_lay (by decide)))
  have hly_12_5 := htw (u_lay RX10 TX10 5) (jWc_wsX100 _ (u_in_lay (by decide)))
  have hly_12_7 := htw (u_lay RX10 TX10 7) (jWc_wsX100 _ (u_in_lay (by decide)))
  have hly_12_8 := htw (u_lay RX10 TX10 8) (jWc_wsX100 _ (u_in_lay (by decide)))
  have hly_12_10 := htw (u_lay RX10 TX10 10) (jWc_wsX100 _ (u_in_lay (by decide)))
  have hlk_83 := (htw (.fieldLink RX10 83 "ProofServer$Syntax" "at" "I") (jWr_79 _ (List.mem_of_getElem? (i := 5) rfl)))
  have hlk_86 := (htw (.fieldLink RX10 86 "ProofServer$Syntax" "toldCount" "I") (jWr_79 _ (List.mem_of_getElem? (i := 6) rfl)))
  have hlk_89 := (htw (.fieldLink RX10 89 "ProofServer$Syntax" "nodeCount" "I") (jWr_79 _ (List.mem_of_getElem? (i := 7) rfl)))
  have hlk_92 := (htw (.fieldLink RX10 92 "ProofServer$Syntax" "terms" "I") (jWr_79 _ (List.mem_of_getElem? (i := 8) rfl)))
  have hlk_28 := (htw (.fieldLink RX10 28 "ProofServer$Syntax" "tokens" "I") (jWr_36 _ (List.mem_of_getElem? (i := 23) rfl)))
  have hlk_9 := (htw (.fieldLink RX10 9 "ProofServer$Syntax" "kinds" "[I") (jWr_8 _ (List.mem_of_getElem? (i := 8) rfl)))
  have hlk_15 := (htw (.fieldLink RX10 15 "ProofServer$Syntax" "values" "[I") (jWr_8 _ (List.mem_of_getElem? (i := 9) rfl)))
  have hlk_95 := (htw (.fieldLink RX10 95 "ProofServer$Syntax" "word" "I") (jWr_79 _ (List.mem_of_getElem? (i := 9) rfl)))
  refine lv_aload_n hx hb dX10_isSentence_0 rfl (lv_at hl 0 rfl) ?_
  refine lv_iconst (v := 1) hx hb dX10_isSentence_1 (by decide) ?_
  refine j7_put hx hb hown hK hh hB hAp hB12 (C := RX10) (T := TX10) (N := 11) rfl (by decide) hg_r0 (i := 4) (by decide) hly_12_4 rfl hlk_83 rfl (ty := .int) (v := .int 1) (by decide +kernel) rfl rfl (⟨_, rfl, by omega, by omega⟩) rfl (L1 := [(r0, 12, 3, .int tk)]) [0] rfl rfl rfl dX10_isSentence_2 (fun H_1 locs_1 hh_1 => ?_)
  clear hh
  refine lv_aload_n hx hb dX10_isSentence_5 rfl (lv_at hl 0 rfl) ?_
  refine lv_iconst (v := 0) hx hb dX10_isSentence_6 (by decide) ?_
  refine j7_put hx hb hown hK hh_1 hB hAp hB12 (C := RX10) (T := TX10) (N := 11) rfl (by decide) hg_r0 (i := 7) (by decide) hly_12_7 rfl hlk_86 rfl (ty := .int) (v := .int 0) (by decide +kernel) rfl rfl (⟨_, rfl, by omega, by omega⟩) rfl (L1 := [(r0, 12, 4, .int 1), (r0, 12, 3, .int tk)]) [0, 1] rfl rfl rfl dX10_isSentence_7 (fun H_2 locs_2 hh_2 => ?_)
  clear hh_1
  refine lv_aload_n hx hb dX10_isSentence_10 rfl (lv_at hl 0 rfl) ?_
  refine lv_iconst (v := 0) hx hb dX10_isSentence_11 (by decide) ?_
  refine j7_put hx hb hown hK hh_2 hB hAp hB12 (C := RX10) (T := TX10) (N := 11) rfl (by decide) hg_r0 (i := 10) (by decide) hly_12_10 rfl hlk_89 rfl (ty := .int) (v := .int 0) (by decide +kernel) rfl rfl (⟨_, rfl, by omega, by omega⟩) rfl (L1 := [(r0, 12, 7, .int 0), (r0, 12, 4, .int 1), (r0, 12, 3, .int tk)]) [0, 1, 2] rfl rfl rfl dX10_isSentence_12 (fun H_3 locs_3 hh_3 => ?_)
  clear hh_2
  refine lv_aload_n hx hb dX10_isSentence_15 rfl (lv_at hl 0 rfl) ?_
  refine lv_iconst (v := 0) hx hb dX10_isSentence_16 (by decide) ?_
  refine j7_put hx hb hown hK hh_3 hB hAp hB12 (C := RX10) (T := TX10) (N := 11) rfl (by decide) hg_r0 (i := 8) (by decide) hly_12_8 rfl hlk_92 rfl (ty := .int) (v := .int 0) (by decide +kernel) rfl rfl (⟨_, rfl⟩) rfl (L1 := [(r0, 12, 10, .int 0), (r0, 12, 7, .int 0), (r0, 12, 4, .int 1), (r0, 12, 3, .int tk)]) [0, 1, 2, 3] rfl rfl rfl dX10_isSentence_17 (fun H_4 locs_4 hh_4 => ?_)
  clear hh_3
  refine lv_aload_n hx hb dX10_isSentence_20 rfl (lv_at hl 0 rfl) ?_
  refine lv_aload_n hx hb dX10_isSentence_21 rfl (lv_at hl 0 rfl) ?_
  refine j7_read hx hb hown hK (C := RX10) (T := TX10) (N := 11) rfl hly_12_3 hlk_28 (hh_4.at 4 rfl) dX10_isSentence_22 ?_
  have C49 : ∀ (w0_5 : Int32) (H_5 : Heap) (locs_5 : List Loc), jSt (dC, dI) B base G0 G0 EX10_isSentenceS s.heap 0 0 [(r0, 12, 8, .int 0), (r0, 12, 10, .int 0), (r0, 12, 7, .int 0), (r0, 12, 4, .int 1), (r0, 12, 3, .int tk)] [] [] H_5 locs_5 → (w0_5.toInt = -1 ∨ 0 < tk.toInt) → ∀ ls : Array Slot, lv_has ls 2 [(0, .ref r0)] → W p l e R s m ([.ref r0] : List Value).toArray below meth c H_5 locs_5 0 0 Q (F0 m 49 ls [.int w0_5, .ref r0]) := by
    intro w0_5 H_5 locs_5 hh_5  hi_5 ls hl
    refine j7_put hx hb hown hK hh_5 hB hAp hB12 (C := RX10) (T := TX10) (N := 11) rfl (by decide) hg_r0 (i := 5) (by decide) hly_12_5 rfl hlk_95 rfl (ty := .int) (v := .int w0_5) (by decide +kernel) rfl rfl (⟨_, rfl⟩) rfl (L1 := [(r0, 12, 8, .int 0), (r0, 12, 10, .int 0), (r0, 12, 7, .int 0), (r0, 12, 4, .int 1), (r0, 12, 3, .int tk)]) [0, 1, 2, 3, 4] rfl rfl rfl dX10_isSentence_49 (fun H_6 locs_6 hh_6 => ?_)
    clear hh_5
    refine lv_aload_n hx hb dX10_isSentence_52 rfl (lv_at hl 0 rfl) ?_
    refine j7_read hx hb hown hK (C := RX10) (T := TX10) (N := 11) rfl hly_12_5 hlk_95 (hh_6.at 0 rfl) dX10_isSentence_53 ?_
    have C294 : ∀ (v1_7 : Int32) (wa_7 : Int32) (H_7 : Heap) (locs_7 : List Loc), jSt (dC, dI) B base G0 G0 EX10_isSentenceS s.heap 0 0 [(r0, 12, 4, .int wa_7), (r0, 12, 5, .int w0_5), (r0, 12, 3, .int tk)] [] [] H_7 locs_7 → (v1_7 = 0 ∨ v1_7 = 1) → (0 ≤ wa_7.toInt ∧ wa_7.toInt ≤ tk.toInt + 3 ∧ (v1_7.toInt = 0 ∨ 2 ≤ wa_7.toInt ∨ (w0_5.toInt ≠ 9 ∧ w0_5.toInt ≠ 11 ∧ w0_5.toInt ≠ 15))) → ∀ ls : Array Slot, lv_has ls 2 [(0, .ref r0), (1, .int v1_7)] → W p l e R s m ([.ref r0] : List Value).toArray below meth c H_7 locs_7 0 0 Q (F0 m 294 ls []) := by
      intro v1_7 wa_7 H_7 locs_7 hh_7 hb_v1_7 hi_7 ls hl
      obtain ⟨hi_7_0, hi_7_1, hi_7_2⟩ := hi_7
      have hb_v1_7' := jb_01 hb_v1_7
      refine lv_iload_n hx hb dX10_isSentence_294 rfl (lv_at hl 1 rfl) ?_
      refine lv_if_eq (tgt := 324) hx hb dX10_isSentence_295 (by decide) (fun c_8 => ?_) (fun c_8 => ?_)
      · skip
        have c_8' : v1_7.toInt = 0 := jb_eq (rfl) ((by decide)) c_8
        refine lv_iconst (v := 0) hx hb dX10_isSentence_324 (by decide) ?_
        rw [hQ]
        exact W.zret (v := 0) hx hb hr (jb_nz (Or.inl rfl)) (fun t ht hW => ⟨⟨0, w0_5, rfl, ⟨(Or.inl rfl), by first | omega | rfl | assumption | decide | exact Or.inl rfl | exact Or.inr rfl | (simp only; omega)⟩, hh_7.rt (M1 := [(r0, 12, 5, .int w0_5)]) [1] rfl ht⟩, by rw [ht]; try exact hh_7.1.1, fun q h9 hq => by rw [ht]; try exact hh_7.1.2.1 q h9 hq⟩) hh_7.1.2.2 dX10_isSentence_325
      · skip
        have c_8' : v1_7.toInt ≠ 0 := jb_eq_n (rfl) ((by decide)) c_8
        refine lv_aload_n hx hb dX10_isSentence_298 rfl (lv_at hl 0 rfl) ?_
        refine j7_read hx hb hown hK (C := RX10) (T := TX10) (N := 11) rfl hly_12_4 hlk_83 (hh_7.at 0 rfl) dX10_isSentence_299 ?_
        refine lv_aload_n hx hb dX10_isSentence_302 rfl (lv_at hl 0 rfl) ?_
        refine j7_read hx hb hown hK (C := RX10) (T := TX10) (N := 11) rfl hly_12_3 hlk_28 (hh_7.at 2 rfl) dX10_isSentence_303 ?_
        refine lv_iconst (v := 1) hx hb dX10_isSentence_306 (by decide) ?_
        refine lv_isub hx hb dX10_isSentence_307 ?_
        refine lv_topi (fun z_9 ez_9 => ?_)
        have hz_9 : z_9.toInt = tk.toInt - 1 := by rw [ez_9]; exact jb_isub2 (rfl) ((by decide)) (by omega)
        refine lv_icmp_ne (tgt := 324) hx hb dX10_isSentence_308 (by decide) (fun c_10 => ?_) (fun c_10 => ?_)
        · skip
          have c_10' : wa_7.toInt ≠ z_9.toInt := jb_ne (rfl) (rfl) c_10
          refine lv_iconst (v := 0) hx hb dX10_isSentence_324 (by decide) ?_
          rw [hQ]
          exact W.zret (v := 0) hx hb hr (jb_nz (Or.inl rfl)) (fun t ht hW => ⟨⟨0, w0_5, rfl, ⟨(Or.inl rfl), by first | omega | rfl | assumption | decide | exact Or.inl rfl | exact Or.inr rfl | (simp only; omega)⟩, hh_7.rt (M1 := [(r0, 12, 5, .int w0_5)]) [1] rfl ht⟩, by rw [ht]; try exact hh_7.1.1, fun q h9 hq => by rw [ht]; try exact hh_7.1.2.1 q h9 hq⟩) hh_7.1.2.2 dX10_isSentence_325
        · skip
          have c_10' : wa_7.toInt = z_9.toInt := jb_ne_n (rfl) (rfl) c_10
          refine lv_aload_n hx hb dX10_isSentence_311 rfl (lv_at hl 0 rfl) ?_
          refine va_calli (A0 := jA base) (H0 := s.heap) (va_runV (As := []) (rest := []) ⟨hx, hb, hml, hown, hts⟩ (uX10_peekB l dC dI ca base B hB hAp hB12 hB101 G0 H_7 r0 tk wa_7) (cwV 0 hts (jgV (jWr_79 _ (List.mem_of_getElem? (i := 18) rfl)) (jWr_79 _ (List.mem_of_getElem? (i := 19) rfl)) (jWr_79 _ (List.mem_of_getElem? (i := 20) rfl)) (jWr_4 _ (List.mem_of_getElem? (i := 14) rfl)) (jWr_79 _ (List.mem_of_getElem? (i := 21) rfl))) rfl rfl rfl (by decide +kernel) ⟨by rw [← hR]; exact Nat.le_of_ble_eq_true rfl, by rw [← hR]; exact Nat.le_of_ble_eq_true rfl⟩) ⟨fun a U g mk q => by obtain ⟨q0, q1, q2, qK, q10, q11, q12⟩ := q; exact ⟨q0, q1, q2, jG.calling g mk a qK, q10, q11, q12⟩, hh_7.recv (C := RX10) (T := TX10) (N := 11) hB12 rfl (by decide) hg_r0 hK, fun U hU hW => ⟨rfl, hU, hh_7.2.1, hG.step hW hU hh_7.1, hg_r0, (hh_7.2.2.1.sub (L1 := [(r0, 12, 3, .int tk), (r0, 12, 4, .int wa_7)]) [2, 0] rfl), by first | omega | (refine ⟨?_, ?_, ?_, ?_⟩ <;> (first | omega | rfl | assumption | decide | exact Or.inl rfl | exact Or.inr rfl | (simp only; omega)))⟩⟩ rfl rfl hl.1 rfl (lv_room (Nat.le_of_ble_eq_true rfl)) dX10_isSentence_312 ⟨Nat.zero_le _, Nat.zero_le _⟩) hh_7.1 (fun q _ h => h) (fun q h => h) (fun r_12 u_11 t_11 H_11 locs_11 ht_11 hvm_11 hr_12 hb_11 hz_11 hk_11 hS_11 => ?_)
          rw [ht_11] at hb_11
          obtain ⟨hb_111, hb_112, hb_113, hb_114, hb_115⟩ := hb_11
          have hh_11 : jSt (dC, dI) B base G0 G0 EX10_isSentenceS s.heap 0 0 [(r0, 12, 4, .int wa_7), (r0, 12, 5, .int w0_5), (r0, 12, 3, .int tk)] [] [] H_11 locs_11 := ((hh_7.call hb_111 hb_112 hb_113 hb_114 hS_11 rfl (L1 := [(r0, 12, 4, .int wa_7), (r0, 12, 5, .int w0_5), (r0, 12, 3, .int tk)]) [0, 1, 2] rfl rfl (M1 := []) [] rfl rfl (I1 := []) [] rfl rfl).more hb_115)
          clear hh_7 ht_11 hvm_11 hz_11 hk_11 hS_11 hb_111 hb_112 hb_113 hb_114 hb_115
          refine lv_bipush (v := 46) hx hb dX10_isSentence_315 (by decide) ?_
          refine lv_icmp_ne (tgt := 324) hx hb dX10_isSentence_317 (by decide) (fun c_13 => ?_) (fun c_13 => ?_)
          · skip
            have c_13' : r_12.toInt ≠ 46 := jb_ne (rfl) ((by decide)) c_13
            try clear hr_12
            refine lv_iconst (v := 0) hx hb dX10_isSentence_324 (by decide) ?_
            rw [hQ]
            exact W.zret (v := 0) hx hb hr (jb_nz (Or.inl rfl)) (fun t ht hW => ⟨⟨0, w0_5, rfl, ⟨(Or.inl rfl), by first | omega | rfl | assumption | decide | exact Or.inl rfl | exact Or.inr rfl | (simp only; omega)⟩, hh_11.rt (M1 := [(r0, 12, 5, .int w0_5)]) [1] rfl ht⟩, by rw [ht]; try exact hh_11.1.1, fun q h9 hq => by rw [ht]; try exact hh_11.1.2.1 q h9 hq⟩) hh_11.1.2.2 dX10_isSentence_325
          · skip
            have c_13' : r_12.toInt = 46 := jb_ne_n (rfl) ((by decide)) c_13
            first | (have hr_12q := hr_12.resolve_left (by omega); clear hr_12) | (have hr_12q := hr_12.resolve_right (by omega); clear hr_12) | try clear hr_12
            refine lv_iconst (v := 1) hx hb dX10_isSentence_320 (by decide) ?_
            refine lv_goto (tgt := 325) hx hb dX10_isSentence_321 (by decide) ?_
            rw [hQ]
            exact W.zret (v := 1) hx hb hr (jb_nz (Or.inr rfl)) (fun t ht hW => ⟨⟨1, w0_5, rfl, ⟨(Or.inr rfl), by first | omega | rfl | assumption | decide | exact Or.inl rfl | exact Or.inr rfl | (simp only; omega)⟩, hh_11.rt (M1 := [(r0, 12, 5, .int w0_5)]) [1] rfl ht⟩, by rw [ht]; try exact hh_11.1.1, fun q h9 hq => by rw [ht]; try exact hh_11.1.2.1 q h9 hq⟩) hh_11.1.2.2 dX10_isSentence_325
    have C210 : ∀ (H_15 : Heap) (locs_15 : List Loc), jSt (dC, dI) B base G0 G0 EX10_isSentenceS s.heap 0 0 [(r0, 12, 5, .int w0_5), (r0, 12, 8, .int 0), (r0, 12, 10, .int 0), (r0, 12, 7, .int 0), (r0, 12, 4, .int 1), (r0, 12, 3, .int tk)] [] [] H_15 locs_15 → (9 ≤ w0_5.toInt ∧ w0_5.toInt ≤ 20) → ∀ ls : Array Slot, lv_has ls 2 [(0, .ref r0)] → W p l e R s m ([.ref r0] : List Value).toArray below meth c H_15 locs_15 0 0 Q (F0 m 210 ls []) := by
      intro  H_15 locs_15 hh_15  hi_15 ls hl
      obtain ⟨hi_15_0, hi_15_1⟩ := hi_15
      refine lv_aload_n hx hb dX10_isSentence_210 rfl (lv_at hl 0 rfl) ?_
      refine va_calli (A0 := jA base) (H0 := s.heap) (va_runV (As := []) (rest := []) ⟨hx, hb, hml, hown, hts⟩ (uX10_isNameB l dC dI ca base B hB hAp hB12 hB101 hB292 hB293 G0 H_15 r0 tk 1) (cwV 0 hts (jgV (jWr_79 _ (List.mem_of_getElem? (i := 10) rfl)) (jWr_79 _ (List.mem_of_getElem? (i := 11) rfl)) (jWr_79 _ (List.mem_of_getElem? (i := 12) rfl)) (jWr_4 _ (List.mem_of_getElem? (i := 14) rfl)) (jWr_79 _ (List.mem_of_getElem? (i := 13) rfl))) rfl rfl rfl (by decide +kernel) ⟨by rw [← hR]; exact Nat.le_of_ble_eq_true rfl, by rw [← hR]; exact Nat.le_of_ble_eq_true rfl⟩) ⟨fun a U g mk q => by obtain ⟨q0, q1, q2, qK, q10, q11, q12⟩ := q; exact ⟨q0, q1, q2, jG.calling g mk a qK, q10, q11, q12⟩, hh_15.recv (C := RX10) (T := TX10) (N := 11) hB12 rfl (by decide) hg_r0 hK, fun U hU hW => ⟨rfl, hU, hh_15.2.1, hG.step hW hU hh_15.1, hg_r0, (hh_15.2.2.1.sub (L1 := [(r0, 12, 3, .int tk), (r0, 12, 4, .int 1)]) [5, 4] rfl), by first | omega | (refine ⟨?_, ?_, ?_, ?_, ?_⟩ <;> (first | omega | rfl | assumption | decide | exact Or.inl rfl | exact Or.inr rfl | (simp only; omega)))⟩⟩ rfl rfl hl.1 rfl (lv_room (Nat.le_of_ble_eq_true rfl)) dX10_isSentence_211 ⟨Nat.zero_le _, Nat.zero_le _⟩) hh_15.1 (fun q _ h => h) (fun q h => h) (fun r_17 u_16 t_16 H_16 locs_16 ht_16 hvm_16 hr_17 hb_16 hz_16 hk_16 hS_16 => ?_)
      obtain ⟨qa_16, rfl⟩ : ∃ z, z = u_16 := ⟨_, rfl⟩
      rw [ht_16] at hb_16
      obtain ⟨hb_161, hb_162, hb_163, hb_164, hb_165⟩ := hb_16
      have hh_16 : jSt (dC, dI) B base G0 G0 EX10_isSentenceS s.heap 0 0 [(r0, 12, 4, .int qa_16), (r0, 12, 5, .int w0_5), (r0, 12, 8, .int 0), (r0, 12, 10, .int 0), (r0, 12, 3, .int tk)] [] [] H_16 locs_16 := ((hh_15.call hb_161 hb_162 hb_163 hb_164 hS_16 rfl (L1 := [(r0, 12, 5, .int w0_5), (r0, 12, 8, .int 0), (r0, 12, 10, .int 0), (r0, 12, 3, .int tk)]) [0, 1, 2, 5] rfl rfl (M1 := []) [] rfl rfl (I1 := []) [] rfl rfl).more hb_165)
      clear hh_15 ht_16 hvm_16 hz_16 hk_16 hS_16 hb_161 hb_162 hb_163 hb_164 hb_165
      obtain ⟨hr_17b, hr_17p⟩ := hr_17
      obtain ⟨hr_17p_0, hr_17p_1⟩ := hr_17p
      have hr_17' := jb_01 hr_17b
      refine lv_istore_n (lv' := [(1, .int r_17), (0, .ref r0)]) hx hb dX10_isSentence_214 rfl hl (by decide) rfl (fun ls hl => ?_)
      refine lv_goto (tgt := 294) hx hb dX10_isSentence_215 (by decide) ?_
      exact C294 r_17 qa_16 _ _ (hh_16.sub (L1 := [(r0, 12, 4, .int qa_16), (r0, 12, 5, .int w0_5), (r0, 12, 3, .int tk)]) [0, 1, 4] rfl (M1 := []) [] rfl (I1 := []) [] rfl) (hr_17b) (by first | omega | (refine ⟨?_, ?_, ?_⟩ <;> (first | omega | rfl | assumption | decide | exact Or.inl rfl | exact Or.inr rfl | (simp only; omega)))) _ (lv_sub hl [1, 0] rfl)
    have C205 : ∀ (H_18 : Heap) (locs_18 : List Loc), jSt (dC, dI) B base G0 G0 EX10_isSentenceS s.heap 0 0 [(r0, 12, 5, .int w0_5), (r0, 12, 8, .int 0), (r0, 12, 10, .int 0), (r0, 12, 7, .int 0), (r0, 12, 4, .int 1), (r0, 12, 3, .int tk)] [] [] H_18 locs_18 → (w0_5.toInt = 7 ∨ w0_5.toInt = 8 ∨ w0_5.toInt = 12 ∨ w0_5.toInt = 13 ∨ w0_5.toInt = 14 ∨ w0_5.toInt = 19) → ∀ ls : Array Slot, lv_has ls 2 [(0, .ref r0)] → W p l e R s m ([.ref r0] : List Value).toArray below meth c H_18 locs_18 0 0 Q (F0 m 205 ls []) := by
      intro  H_18 locs_18 hh_18  hi_18 ls hl
      refine lv_iconst (v := 1) hx hb dX10_isSentence_205 (by decide) ?_
      refine lv_istore_n (lv' := [(1, .int 1), (0, .ref r0)]) hx hb dX10_isSentence_206 rfl hl (by decide) rfl (fun ls hl => ?_)
      refine lv_goto (tgt := 294) hx hb dX10_isSentence_207 (by decide) ?_
      exact C294 1 1 _ _ (hh_18.sub (L1 := [(r0, 12, 4, .int 1), (r0, 12, 5, .int w0_5), (r0, 12, 3, .int tk)]) [4, 0, 5] rfl (M1 := []) [] rfl (I1 := []) [] rfl) (Or.inr rfl) (by first | omega | (refine ⟨?_, ?_, ?_⟩ <;> (first | omega | rfl | assumption | decide | exact Or.inl rfl | exact Or.inr rfl | (simp only; omega)))) _ (lv_sub hl [1, 0] rfl)
    have C171 : ∀ (H_19 : Heap) (locs_19 : List Loc), jSt (dC, dI) B base G0 G0 EX10_isSentenceS s.heap 0 0 [(r0, 12, 5, .int w0_5), (r0, 12, 8, .int 0), (r0, 12, 10, .int 0), (r0, 12, 7, .int 0), (r0, 12, 4, .int 1), (r0, 12, 3, .int tk)] [] [] H_19 locs_19 → (w0_5.toInt = 5 ∨ w0_5.toInt = 6 ∨ w0_5.toInt = 21) → ∀ ls : Array Slot, lv_has ls 2 [(0, .ref r0)] → W p l e R s m ([.ref r0] : List Value).toArray below meth c H_19 locs_19 0 0 Q (F0 m 171 ls []) := by
      intro  H_19 locs_19 hh_19  hi_19 ls hl
      refine lv_aload_n hx hb dX10_isSentence_171 rfl (lv_at hl 0 rfl) ?_
      refine va_calli (A0 := jA base) (H0 := s.heap) (va_runV (As := []) (rest := []) ⟨hx, hb, hml, hown, hts⟩ (uX10_isNameB l dC dI ca base B hB hAp hB12 hB101 hB292 hB293 G0 H_19 r0 tk 1) (cwV 0 hts (jgV (jWr_79 _ (List.mem_of_getElem? (i := 10) rfl)) (jWr_79 _ (List.mem_of_getElem? (i := 11) rfl)) (jWr_79 _ (List.mem_of_getElem? (i := 12) rfl)) (jWr_4 _ (List.mem_of_getElem? (i := 14) rfl)) (jWr_79 _ (List.mem_of_getElem? (i := 13) rfl))) rfl rfl rfl (by decide +kernel) ⟨by rw [← hR]; exact Nat.le_of_ble_eq_true rfl, by rw [← hR]; exact Nat.le_of_ble_eq_true rfl⟩) ⟨fun a U g mk q => by obtain ⟨q0, q1, q2, qK, q10, q11, q12⟩ := q; exact ⟨q0, q1, q2, jG.calling g mk a qK, q10, q11, q12⟩, hh_19.recv (C := RX10) (T := TX10) (N := 11) hB12 rfl (by decide) hg_r0 hK, fun U hU hW => ⟨rfl, hU, hh_19.2.1, hG.step hW hU hh_19.1, hg_r0, (hh_19.2.2.1.sub (L1 := [(r0, 12, 3, .int tk), (r0, 12, 4, .int 1)]) [5, 4] rfl), by first | omega | (refine ⟨?_, ?_, ?_, ?_, ?_⟩ <;> (first | omega | rfl | assumption | decide | exact Or.inl rfl | exact Or.inr rfl | (simp only; omega)))⟩⟩ rfl rfl hl.1 rfl (lv_room (Nat.le_of_ble_eq_true rfl)) dX10_isSentence_172 ⟨Nat.zero_le _, Nat.zero_le _⟩) hh_19.1 (fun q _ h => h) (fun q h => h) (fun r_21 u_20 t_20 H_20 locs_20 ht_20 hvm_20 hr_21 hb_20 hz_20 hk_20 hS_20 => ?_)
      obtain ⟨qa_20, rfl⟩ : ∃ z, z = u_20 := ⟨_, rfl⟩
      rw [ht_20] at hb_20
      obtain ⟨hb_201, hb_202, hb_203, hb_204, hb_205⟩ := hb_20
      have hh_20 : jSt (dC, dI) B base G0 G0 EX10_isSentenceS s.heap 0 0 [(r0, 12, 4, .int qa_20), (r0, 12, 5, .int w0_5), (r0, 12, 8, .int 0), (r0, 12, 10, .int 0), (r0, 12, 3, .int tk)] [] [] H_20 locs_20 := ((hh_19.call hb_201 hb_202 hb_203 hb_204 hS_20 rfl (L1 := [(r0, 12, 5, .int w0_5), (r0, 12, 8, .int 0), (r0, 12, 10, .int 0), (r0, 12, 3, .int tk)]) [0, 1, 2, 5] rfl rfl (M1 := []) [] rfl rfl (I1 := []) [] rfl rfl).more hb_205)
      clear hh_19 ht_20 hvm_20 hz_20 hk_20 hS_20 hb_201 hb_202 hb_203 hb_204 hb_205
      obtain ⟨hr_21b, hr_21p⟩ := hr_21
      obtain ⟨hr_21p_0, hr_21p_1⟩ := hr_21p
      have hr_21' := jb_01 hr_21b
      refine lv_if_eq (tgt := 200) hx hb dX10_isSentence_175 (by decide) (fun c_22 => ?_) (fun c_22 => ?_)
      · skip
        have c_22' : r_21.toInt = 0 := jb_eq (rfl) ((by decide)) c_22
        first | (have hr_21p_1q := hr_21p_1.resolve_left (by omega); clear hr_21p_1) | (have hr_21p_1q := hr_21p_1.resolve_right (by omega); clear hr_21p_1) | skip
        refine lv_iconst (v := 0) hx hb dX10_isSentence_200 (by decide) ?_
        refine lv_istore_n (lv' := [(1, .int 0), (0, .ref r0)]) hx hb dX10_isSentence_201 rfl hl (by decide) rfl (fun ls hl => ?_)
        refine lv_goto (tgt := 294) hx hb dX10_isSentence_202 (by decide) ?_
        exact C294 0 qa_20 _ _ (hh_20.sub (L1 := [(r0, 12, 4, .int qa_20), (r0, 12, 5, .int w0_5), (r0, 12, 3, .int tk)]) [0, 1, 4] rfl (M1 := []) [] rfl (I1 := []) [] rfl) (Or.inl rfl) (by first | omega | (refine ⟨?_, ?_, ?_⟩ <;> (first | omega | rfl | assumption | decide | exact Or.inl rfl | exact Or.inr rfl | (simp only; omega)))) _ (lv_sub hl [1, 0] rfl)
      · skip
        have c_22' : r_21.toInt ≠ 0 := jb_eq_n (rfl) ((by decide)) c_22
        first | (have hr_21p_1q := hr_21p_1.resolve_left (by omega); clear hr_21p_1) | (have hr_21p_1q := hr_21p_1.resolve_right (by omega); clear hr_21p_1) | skip
        refine lv_aload_n hx hb dX10_isSentence_178 rfl (lv_at hl 0 rfl) ?_
        refine lv_bipush (v := 58) hx hb dX10_isSentence_179 (by decide) ?_
        refine va_calli (A0 := jA base) (H0 := s.heap) (va_runV (As := [.int 58]) (rest := []) ⟨hx, hb, hml, hown, hts⟩ (uX10_isSignB l dC dI ca base B hB hAp hB12 hB101 G0 H_20 r0 58 tk qa_20) (cwV 1 hts (jgV (jWr_80 _ (List.mem_of_getElem? (i := 2) rfl)) (jWr_80 _ (List.mem_of_getElem? (i := 3) rfl)) (jWr_80 _ (List.mem_of_getElem? (i := 4) rfl)) (jWr_4 _ (List.mem_of_getElem? (i := 14) rfl)) (jWr_80 _ (List.mem_of_getElem? (i := 5) rfl))) rfl rfl rfl (by decide +kernel) ⟨by rw [← hR]; exact Nat.le_of_ble_eq_true rfl, by rw [← hR]; exact Nat.le_of_ble_eq_true rfl⟩) ⟨fun a U g mk q => by obtain ⟨q0, q1, q2, qK, q10, q11, q12⟩ := q; exact ⟨q0, q1, q2, jG.calling g mk a qK, q10, q11, q12⟩, hh_20.recv (C := RX10) (T := TX10) (N := 11) hB12 rfl (by decide) hg_r0 hK, fun U hU hW => ⟨rfl, hU, hh_20.2.1, hG.step hW hU hh_20.1, hg_r0, (hh_20.2.2.1.sub (L1 := [(r0, 12, 3, .int tk), (r0, 12, 4, .int qa_20)]) [4, 0] rfl), by first | omega | (refine ⟨?_, ?_, ?_, ?_, ?_⟩ <;> (first | omega | rfl | assumption | decide | exact Or.inl rfl | exact Or.inr rfl | (simp only; omega)))⟩⟩ rfl rfl hl.1 rfl (lv_room (Nat.le_of_ble_eq_true rfl)) dX10_isSentence_181 ⟨Nat.zero_le _, Nat.zero_le _⟩) hh_20.1 (fun q _ h => h) (fun q h => h) (fun r_24 u_23 t_23 H_23 locs_23 ht_23 hvm_23 hr_24 hb_23 hz_23 hk_23 hS_23 => ?_)
        obtain ⟨qa_23, rfl⟩ : ∃ z, z = u_23 := ⟨_, rfl⟩
        rw [ht_23] at hb_23
        obtain ⟨hb_231, hb_232, hb_233, hb_234, hb_235⟩ := hb_23
        have hh_23 : jSt (dC, dI) B base G0 G0 EX10_isSentenceS s.heap 0 0 [(r0, 12, 4, .int qa_23), (r0, 12, 5, .int w0_5), (r0, 12, 8, .int 0), (r0, 12, 10, .int 0), (r0, 12, 3, .int tk)] [] [] H_23 locs_23 := ((hh_20.call hb_231 hb_232 hb_233 hb_234 hS_23 rfl (L1 := [(r0, 12, 5, .int w0_5), (r0, 12, 8, .int 0), (r0, 12, 10, .int 0), (r0, 12, 3, .int tk)]) [1, 2, 3, 4] rfl rfl (M1 := []) [] rfl rfl (I1 := []) [] rfl rfl).more hb_235)
        clear hh_20 ht_23 hvm_23 hz_23 hk_23 hS_23 hb_231 hb_232 hb_233 hb_234 hb_235
        obtain ⟨hr_24b, hr_24p⟩ := hr_24
        obtain ⟨hr_24p_0, hr_24p_1⟩ := hr_24p
        have hr_24' := jb_01 hr_24b
        refine lv_if_eq (tgt := 200) hx hb dX10_isSentence_184 (by decide) (fun c_25 => ?_) (fun c_25 => ?_)
        · skip
          have c_25' : r_24.toInt = 0 := jb_eq (rfl) ((by decide)) c_25
          first | (have hr_24p_1q := hr_24p_1.resolve_left (by omega); clear hr_24p_1) | (have hr_24p_1q := hr_24p_1.resolve_right (by omega); clear hr_24p_1) | skip
          refine lv_iconst (v := 0) hx hb dX10_isSentence_200 (by decide) ?_
          refine lv_istore_n (lv' := [(1, .int 0), (0, .ref r0)]) hx hb dX10_isSentence_201 rfl hl (by decide) rfl (fun ls hl => ?_)
          refine lv_goto (tgt := 294) hx hb dX10_isSentence_202 (by decide) ?_
          exact C294 0 qa_23 _ _ (hh_23.sub (L1 := [(r0, 12, 4, .int qa_23), (r0, 12, 5, .int w0_5), (r0, 12, 3, .int tk)]) [0, 1, 4] rfl (M1 := []) [] rfl (I1 := []) [] rfl) (Or.inl rfl) (by first | omega | (refine ⟨?_, ?_, ?_⟩ <;> (first | omega | rfl | assumption | decide | exact Or.inl rfl | exact Or.inr rfl | (simp only; omega)))) _ (lv_sub hl [1, 0] rfl)
        · skip
          have c_25' : r_24.toInt ≠ 0 := jb_eq_n (rfl) ((by decide)) c_25
          first | (have hr_24p_1q := hr_24p_1.resolve_left (by omega); clear hr_24p_1) | (have hr_24p_1q := hr_24p_1.resolve_right (by omega); clear hr_24p_1) | skip
          refine lv_aload_n hx hb dX10_isSentence_187 rfl (lv_at hl 0 rfl) ?_
          refine lv_iconst (v := 0) hx hb dX10_isSentence_188 (by decide) ?_
          refine lv_iconst (v := 0) hx hb dX10_isSentence_189 (by decide) ?_
          refine va_calli (A0 := jA base) (H0 := s.heap) (va_runV (As := [.int 0, .int 0]) (rest := []) ⟨hx, hb, hml, hown, hts⟩ ((aX10_isOneChainB l dC dI ca base B hB hAp hB12 hB101 hB280 hB293 12).2 2 G0 H_23 r0 0 0 tk qa_23 0) (cwV 2 hts (jgV (jWr_80 _ (List.mem_of_getElem? (i := 6) rfl)) (jWr_80 _ (List.mem_of_getElem? (i := 7) rfl)) (jWr_80 _ (List.mem_of_getElem? (i := 8) rfl)) (jWr_4 _ (List.mem_of_getElem? (i := 14) rfl)) (jWr_80 _ (List.mem_of_getElem? (i := 9) rfl))) rfl rfl rfl (by decide +kernel) ⟨by rw [← hR]; exact Nat.le_of_ble_eq_true rfl, by rw [← hR]; exact Nat.le_of_ble_eq_true rfl⟩) ⟨fun a U g mk q => by obtain ⟨q0, q1, q2, qK, q10, q11, q12⟩ := q; exact ⟨q0, q1, q2, jG.calling g mk a qK, q10, q11, q12⟩, hh_23.recv (C := RX10) (T := TX10) (N := 11) hB12 rfl (by decide) hg_r0 hK, fun U hU hW => ⟨rfl, hU, hh_23.2.1, hG.step hW hU hh_23.1, hg_r0, (hh_23.2.2.1.sub (L1 := [(r0, 12, 3, .int tk), (r0, 12, 4, .int qa_23), (r0, 12, 10, .int 0)]) [4, 0, 3] rfl), by first | omega | (refine ⟨?_, ?_, ?_, ?_, ?_, ?_, ?_, ?_, ?_, ?_, ?_⟩ <;> (first | omega | rfl | assumption | decide | exact Or.inl rfl | exact Or.inr rfl | (simp only; omega)))⟩⟩ rfl rfl hl.1 rfl (lv_room (Nat.le_of_ble_eq_true rfl)) dX10_isSentence_190 ⟨Nat.zero_le _, Nat.zero_le _⟩) hh_23.1 (fun q _ h => h) (fun q h => h) (fun r_27 u_26 t_26 H_26 locs_26 ht_26 hvm_26 hr_27 hb_26 hz_26 hk_26 hS_26 => ?_)
          obtain ⟨qa_26, qc_26⟩ := u_26
          rw [ht_26] at hb_26
          obtain ⟨hb_261, hb_262, hb_263, hb_264, hb_265⟩ := hb_26
          have hh_26 : jSt (dC, dI) B base G0 G0 EX10_isSentenceS s.heap 0 0 [(r0, 12, 4, .int qa_26), (r0, 12, 10, .int qc_26), (r0, 12, 5, .int w0_5), (r0, 12, 8, .int 0), (r0, 12, 3, .int tk)] [] [] H_26 locs_26 := ((hh_23.call hb_261 hb_262 hb_263 hb_264 hS_26 rfl (L1 := [(r0, 12, 5, .int w0_5), (r0, 12, 8, .int 0), (r0, 12, 3, .int tk)]) [1, 2, 4] rfl rfl (M1 := []) [] rfl rfl (I1 := []) [] rfl rfl).more hb_265)
          clear hh_23 ht_26 hvm_26 hz_26 hk_26 hS_26 hb_261 hb_262 hb_263 hb_264 hb_265
          try simp only at hr_27
          obtain ⟨hr_27b, hr_27p⟩ := hr_27
          obtain ⟨hr_27p_0, hr_27p_1, hr_27p_2, hr_27p_3, hr_27p_4⟩ := hr_27p
          have hr_27' := jb_01 hr_27b
          refine lv_if_eq (tgt := 200) hx hb dX10_isSentence_193 (by decide) (fun c_28 => ?_) (fun c_28 => ?_)
          · skip
            have c_28' : r_27.toInt = 0 := jb_eq (rfl) ((by decide)) c_28
            first | (have hr_27p_4q := hr_27p_4.resolve_left (by omega); clear hr_27p_4) | (have hr_27p_4q := hr_27p_4.resolve_right (by omega); clear hr_27p_4) | skip
            refine lv_iconst (v := 0) hx hb dX10_isSentence_200 (by decide) ?_
            refine lv_istore_n (lv' := [(1, .int 0), (0, .ref r0)]) hx hb dX10_isSentence_201 rfl hl (by decide) rfl (fun ls hl => ?_)
            refine lv_goto (tgt := 294) hx hb dX10_isSentence_202 (by decide) ?_
            exact C294 0 qa_26 _ _ (hh_26.sub (L1 := [(r0, 12, 4, .int qa_26), (r0, 12, 5, .int w0_5), (r0, 12, 3, .int tk)]) [0, 2, 4] rfl (M1 := []) [] rfl (I1 := []) [] rfl) (Or.inl rfl) (by first | omega | (refine ⟨?_, ?_, ?_⟩ <;> (first | omega | rfl | assumption | decide | exact Or.inl rfl | exact Or.inr rfl | (simp only; omega)))) _ (lv_sub hl [1, 0] rfl)
          · skip
            have c_28' : r_27.toInt ≠ 0 := jb_eq_n (rfl) ((by decide)) c_28
            first | (have hr_27p_4q := hr_27p_4.resolve_left (by omega); clear hr_27p_4) | (have hr_27p_4q := hr_27p_4.resolve_right (by omega); clear hr_27p_4) | skip
            refine lv_iconst (v := 1) hx hb dX10_isSentence_196 (by decide) ?_
            refine lv_goto (tgt := 201) hx hb dX10_isSentence_197 (by decide) ?_
            refine lv_istore_n (lv' := [(1, .int 1), (0, .ref r0)]) hx hb dX10_isSentence_201 rfl hl (by decide) rfl (fun ls hl => ?_)
            refine lv_goto (tgt := 294) hx hb dX10_isSentence_202 (by decide) ?_
            exact C294 1 qa_26 _ _ (hh_26.sub (L1 := [(r0, 12, 4, .int qa_26), (r0, 12, 5, .int w0_5), (r0, 12, 3, .int tk)]) [0, 2, 4] rfl (M1 := []) [] rfl (I1 := []) [] rfl) (Or.inr rfl) (by first | omega | (refine ⟨?_, ?_, ?_⟩ <;> (first | omega | rfl | assumption | decide | exact Or.inl rfl | exact Or.inr rfl | (simp only; omega)))) _ (lv_sub hl [1, 0] rfl)
    have C148 : ∀ (H_29 : Heap) (locs_29 : List Loc), jSt (dC, dI) B base G0 G0 EX10_isSentenceS s.heap 0 0 [(r0, 12, 5, .int w0_5), (r0, 12, 8, .int 0), (r0, 12, 10, .int 0), (r0, 12, 7, .int 0), (r0, 12, 4, .int 1), (r0, 12, 3, .int tk)] [] [] H_29 locs_29 → (3 ≤ w0_5.toInt ∧ w0_5.toInt ≤ 4) → ∀ ls : Array Slot, lv_has ls 2 [(0, .ref r0)] → W p l e R s m ([.ref r0] : List Value).toArray below meth c H_29 locs_29 0 0 Q (F0 m 148 ls []) := by
      intro  H_29 locs_29 hh_29  hi_29 ls hl
      obtain ⟨hi_29_0, hi_29_1⟩ := hi_29
      refine lv_aload_n hx hb dX10_isSentence_148 rfl (lv_at hl 0 rfl) ?_
      refine va_calli (A0 := jA base) (H0 := s.heap) (va_runV (As := []) (rest := []) ⟨hx, hb, hml, hown, hts⟩ (uX10_isNameB l dC dI ca base B hB hAp hB12 hB101 hB292 hB293 G0 H_29 r0 tk 1) (cwV 0 hts (jgV (jWr_79 _ (List.mem_of_getElem? (i := 10) rfl)) (jWr_79 _ (List.mem_of_getElem? (i := 11) rfl)) (jWr_79 _ (List.mem_of_getElem? (i := 12) rfl)) (jWr_4 _ (List.mem_of_getElem? (i := 14) rfl)) (jWr_79 _ (List.mem_of_getElem? (i := 13) rfl))) rfl rfl rfl (by decide +kernel) ⟨by rw [← hR]; exact Nat.le_of_ble_eq_true rfl, by rw [← hR]; exact Nat.le_of_ble_eq_true rfl⟩) ⟨fun a U g mk q => by obtain ⟨q0, q1, q2, qK, q10, q11, q12⟩ := q; exact ⟨q0, q1, q2, jG.calling g mk a qK, q10, q11, q12⟩, hh_29.recv (C := RX10) (T := TX10) (N := 11) hB12 rfl (by decide) hg_r0 hK, fun U hU hW => ⟨rfl, hU, hh_29.2.1, hG.step hW hU hh_29.1, hg_r0, (hh_29.2.2.1.sub (L1 := [(r0, 12, 3, .int tk), (r0, 12, 4, .int 1)]) [5, 4] rfl), by first | omega | (refine ⟨?_, ?_, ?_, ?_, ?_⟩ <;> (first | omega | rfl | assumption | decide | exact Or.inl rfl | exact Or.inr rfl | (simp only; omega)))⟩⟩ rfl rfl hl.1 rfl (lv_room (Nat.le_of_ble_eq_true rfl)) dX10_isSentence_149 ⟨Nat.zero_le _, Nat.zero_le _⟩) hh_29.1 (fun q _ h => h) (fun q h => h) (fun r_31 u_30 t_30 H_30 locs_30 ht_30 hvm_30 hr_31 hb_30 hz_30 hk_30 hS_30 => ?_)
      obtain ⟨qa_30, rfl⟩ : ∃ z, z = u_30 := ⟨_, rfl⟩
      rw [ht_30] at hb_30
      obtain ⟨hb_301, hb_302, hb_303, hb_304, hb_305⟩ := hb_30
      have hh_30 : jSt (dC, dI) B base G0 G0 EX10_isSentenceS s.heap 0 0 [(r0, 12, 4, .int qa_30), (r0, 12, 5, .int w0_5), (r0, 12, 8, .int 0), (r0, 12, 10, .int 0), (r0, 12, 3, .int tk)] [] [] H_30 locs_30 := ((hh_29.call hb_301 hb_302 hb_303 hb_304 hS_30 rfl (L1 := [(r0, 12, 5, .int w0_5), (r0, 12, 8, .int 0), (r0, 12, 10, .int 0), (r0, 12, 3, .int tk)]) [0, 1, 2, 5] rfl rfl (M1 := []) [] rfl rfl (I1 := []) [] rfl rfl).more hb_305)
      clear hh_29 ht_30 hvm_30 hz_30 hk_30 hS_30 hb_301 hb_302 hb_303 hb_304 hb_305
      obtain ⟨hr_31b, hr_31p⟩ := hr_31
      obtain ⟨hr_31p_0, hr_31p_1⟩ := hr_31p
      have hr_31' := jb_01 hr_31b
      refine lv_if_eq (tgt := 166) hx hb dX10_isSentence_152 (by decide) (fun c_32 => ?_) (fun c_32 => ?_)
      · skip
        have c_32' : r_31.toInt = 0 := jb_eq (rfl) ((by decide)) c_32
        first | (have hr_31p_1q := hr_31p_1.resolve_left (by omega); clear hr_31p_1) | (have hr_31p_1q := hr_31p_1.resolve_right (by omega); clear hr_31p_1) | skip
        refine lv_iconst (v := 0) hx hb dX10_isSentence_166 (by decide) ?_
        refine lv_istore_n (lv' := [(1, .int 0), (0, .ref r0)]) hx hb dX10_isSentence_167 rfl hl (by decide) rfl (fun ls hl => ?_)
        refine lv_goto (tgt := 294) hx hb dX10_isSentence_168 (by decide) ?_
        exact C294 0 qa_30 _ _ (hh_30.sub (L1 := [(r0, 12, 4, .int qa_30), (r0, 12, 5, .int w0_5), (r0, 12, 3, .int tk)]) [0, 1, 4] rfl (M1 := []) [] rfl (I1 := []) [] rfl) (Or.inl rfl) (by first | omega | (refine ⟨?_, ?_, ?_⟩ <;> (first | omega | rfl | assumption | decide | exact Or.inl rfl | exact Or.inr rfl | (simp only; omega)))) _ (lv_sub hl [1, 0] rfl)
      · skip
        have c_32' : r_31.toInt ≠ 0 := jb_eq_n (rfl) ((by decide)) c_32
        first | (have hr_31p_1q := hr_31p_1.resolve_left (by omega); clear hr_31p_1) | (have hr_31p_1q := hr_31p_1.resolve_right (by omega); clear hr_31p_1) | skip
        refine lv_aload_n hx hb dX10_isSentence_155 rfl (lv_at hl 0 rfl) ?_
        refine va_calli (A0 := jA base) (H0 := s.heap) (va_runV (As := []) (rest := []) ⟨hx, hb, hml, hown, hts⟩ (uX10_isArityB l dC dI ca base B hB hAp hB12 hB101 hB293 G0 H_30 r0 tk qa_30) (cwV 0 hts (jgV (jWr_79 _ (List.mem_of_getElem? (i := 22) rfl)) (jWr_79 _ (List.mem_of_getElem? (i := 23) rfl)) (jWr_80 _ (List.mem_of_getElem? (i := 0) rfl)) (jWr_4 _ (List.mem_of_getElem? (i := 14) rfl)) (jWr_80 _ (List.mem_of_getElem? (i := 1) rfl))) rfl rfl rfl (by decide +kernel) ⟨by rw [← hR]; exact Nat.le_of_ble_eq_true rfl, by rw [← hR]; exact Nat.le_of_ble_eq_true rfl⟩) ⟨fun a U g mk q => by obtain ⟨q0, q1, q2, qK, q10, q11, q12⟩ := q; exact ⟨q0, q1, q2, jG.calling g mk a qK, q10, q11, q12⟩, hh_30.recv (C := RX10) (T := TX10) (N := 11) hB12 rfl (by decide) hg_r0 hK, fun U hU hW => ⟨rfl, hU, hh_30.2.1, hG.step hW hU hh_30.1, hg_r0, (hh_30.2.2.1.sub (L1 := [(r0, 12, 3, .int tk), (r0, 12, 4, .int qa_30)]) [4, 0] rfl), by first | omega | (refine ⟨?_, ?_, ?_, ?_, ?_⟩ <;> (first | omega | rfl | assumption | decide | exact Or.inl rfl | exact Or.inr rfl | (simp only; omega)))⟩⟩ rfl rfl hl.1 rfl (lv_room (Nat.le_of_ble_eq_true rfl)) dX10_isSentence_156 ⟨Nat.zero_le _, Nat.zero_le _⟩) hh_30.1 (fun q _ h => h) (fun q h => h) (fun r_34 u_33 t_33 H_33 locs_33 ht_33 hvm_33 hr_34 hb_33 hz_33 hk_33 hS_33 => ?_)
        obtain ⟨qa_33, rfl⟩ : ∃ z, z = u_33 := ⟨_, rfl⟩
        rw [ht_33] at hb_33
        obtain ⟨hb_331, hb_332, hb_333, hb_334, hb_335⟩ := hb_33
        have hh_33 : jSt (dC, dI) B base G0 G0 EX10_isSentenceS s.heap 0 0 [(r0, 12, 4, .int qa_33), (r0, 12, 5, .int w0_5), (r0, 12, 10, .int 0), (r0, 12, 3, .int tk)] [] [] H_33 locs_33 := ((hh_30.call hb_331 hb_332 hb_333 hb_334 hS_33 rfl (L1 := [(r0, 12, 5, .int w0_5), (r0, 12, 10, .int 0), (r0, 12, 3, .int tk)]) [1, 3, 4] rfl rfl (M1 := []) [] rfl rfl (I1 := []) [] rfl rfl).more hb_335)
        clear hh_30 ht_33 hvm_33 hz_33 hk_33 hS_33 hb_331 hb_332 hb_333 hb_334 hb_335
        obtain ⟨hr_34b, hr_34p⟩ := hr_34
        obtain ⟨hr_34p_0, hr_34p_1⟩ := hr_34p
        have hr_34' := jb_01 hr_34b
        refine lv_if_eq (tgt := 166) hx hb dX10_isSentence_159 (by decide) (fun c_35 => ?_) (fun c_35 => ?_)
        · skip
          have c_35' : r_34.toInt = 0 := jb_eq (rfl) ((by decide)) c_35
          first | (have hr_34p_1q := hr_34p_1.resolve_left (by omega); clear hr_34p_1) | (have hr_34p_1q := hr_34p_1.resolve_right (by omega); clear hr_34p_1) | skip
          refine lv_iconst (v := 0) hx hb dX10_isSentence_166 (by decide) ?_
          refine lv_istore_n (lv' := [(1, .int 0), (0, .ref r0)]) hx hb dX10_isSentence_167 rfl hl (by decide) rfl (fun ls hl => ?_)
          refine lv_goto (tgt := 294) hx hb dX10_isSentence_168 (by decide) ?_
          exact C294 0 qa_33 _ _ (hh_33.sub (L1 := [(r0, 12, 4, .int qa_33), (r0, 12, 5, .int w0_5), (r0, 12, 3, .int tk)]) [0, 1, 3] rfl (M1 := []) [] rfl (I1 := []) [] rfl) (Or.inl rfl) (by first | omega | (refine ⟨?_, ?_, ?_⟩ <;> (first | omega | rfl | assumption | decide | exact Or.inl rfl | exact Or.inr rfl | (simp only; omega)))) _ (lv_sub hl [1, 0] rfl)
        · skip
          have c_35' : r_34.toInt ≠ 0 := jb_eq_n (rfl) ((by decide)) c_35
          first | (have hr_34p_1q := hr_34p_1.resolve_left (by omega); clear hr_34p_1) | (have hr_34p_1q := hr_34p_1.resolve_right (by omega); clear hr_34p_1) | skip
          refine lv_iconst (v := 1) hx hb dX10_isSentence_162 (by decide) ?_
          refine lv_goto (tgt := 167) hx hb dX10_isSentence_163 (by decide) ?_
          refine lv_istore_n (lv' := [(1, .int 1), (0, .ref r0)]) hx hb dX10_isSentence_167 rfl hl (by decide) rfl (fun ls hl => ?_)
          refine lv_goto (tgt := 294) hx hb dX10_isSentence_168 (by decide) ?_
          exact C294 1 qa_33 _ _ (hh_33.sub (L1 := [(r0, 12, 4, .int qa_33), (r0, 12, 5, .int w0_5), (r0, 12, 3, .int tk)]) [0, 1, 3] rfl (M1 := []) [] rfl (I1 := []) [] rfl) (Or.inr rfl) (by first | omega | (refine ⟨?_, ?_, ?_⟩ <;> (first | omega | rfl | assumption | decide | exact Or.inl rfl | exact Or.inr rfl | (simp only; omega)))) _ (lv_sub hl [1, 0] rfl)
    rcases (by omega : (w0_5.toInt < 3 ∨ 21 < w0_5.toInt) ∨ w0_5.toInt = 3 ∨ w0_5.toInt = 4 ∨ w0_5.toInt = 5 ∨ w0_5.toInt = 6 ∨ w0_5.toInt = 7 ∨ w0_5.toInt = 8 ∨ w0_5.toInt = 9 ∨ w0_5.toInt = 10 ∨ w0_5.toInt = 11 ∨ w0_5.toInt = 12 ∨ w0_5.toInt = 13 ∨ w0_5.toInt = 14 ∨ w0_5.toInt = 15 ∨ w0_5.toInt = 16 ∨ w0_5.toInt = 17 ∨ w0_5.toInt = 18 ∨ w0_5.toInt = 19 ∨ w0_5.toInt = 20 ∨ w0_5.toInt = 21) with c_14 | c_14 | c_14 | c_14 | c_14 | c_14 | c_14 | c_14 | c_14 | c_14 | c_14 | c_14 | c_14 | c_14 | c_14 | c_14 | c_14 | c_14 | c_14 | c_14
    · refine lv_tableOut (tgt := 292) hx hb dX10_isSentence_56 c_14 (by decide) ?_
      refine lv_iconst (v := 0) hx hb dX10_isSentence_292 (by decide) ?_
      refine lv_istore_n (lv' := [(1, .int 0), (0, .ref r0)]) hx hb dX10_isSentence_293 rfl hl (by decide) rfl (fun ls hl => ?_)
      exact C294 0 1 _ _ (hh_6.sub (L1 := [(r0, 12, 4, .int 1), (r0, 12, 5, .int w0_5), (r0, 12, 3, .int tk)]) [4, 0, 5] rfl (M1 := []) [] rfl (I1 := []) [] rfl) (Or.inl rfl) (by first | omega | (refine ⟨?_, ?_, ?_⟩ <;> (first | omega | rfl | assumption | decide | exact Or.inl rfl | exact Or.inr rfl | (simp only; omega)))) _ (lv_sub hl [1, 0] rfl)
    · refine lv_tableIn (off := 92) (tgt := 148) hx hb dX10_isSentence_56 (by omega) (by omega) (by rw [c_14]; rfl) (by decide) ?_
      exact C148  _ _ hh_6 (by first | omega | (refine ⟨?_, ?_⟩ <;> (first | omega | rfl | assumption | decide | exact Or.inl rfl | exact Or.inr rfl | (simp only; omega)))) _ (lv_sub hl [0] rfl)
    · refine lv_tableIn (off := 92) (tgt := 148) hx hb dX10_isSentence_56 (by omega) (by omega) (by rw [c_14]; rfl) (by decide) ?_
      exact C148  _ _ hh_6 (by first | omega | (refine ⟨?_, ?_⟩ <;> (first | omega | rfl | assumption | decide | exact Or.inl rfl | exact Or.inr rfl | (simp only; omega)))) _ (lv_sub hl [0] rfl)
    · refine lv_tableIn (off := 115) (tgt := 171) hx hb dX10_isSentence_56 (by omega) (by omega) (by rw [c_14]; rfl) (by decide) ?_
      exact C171  _ _ hh_6 (by first | omega | rfl | assumption | decide | exact Or.inl rfl | exact Or.inr rfl | (simp only; omega)) _ (lv_sub hl [0] rfl)
    · refine lv_tableIn (off := 115) (tgt := 171) hx hb dX10_isSentence_56 (by omega) (by omega) (by rw [c_14]; rfl) (by decide) ?_
      exact C171  _ _ hh_6 (by first | omega | rfl | assumption | decide | exact Or.inl rfl | exact Or.inr rfl | (simp only; omega)) _ (lv_sub hl [0] rfl)
    · refine lv_tableIn (off := 149) (tgt := 205) hx hb dX10_isSentence_56 (by omega) (by omega) (by rw [c_14]; rfl) (by decide) ?_
      exact C205  _ _ hh_6 (by first | omega | rfl | assumption | decide | exact Or.inl rfl | exact Or.inr rfl | (simp only; omega)) _ (lv_sub hl [0] rfl)
    · refine lv_tableIn (off := 149) (tgt := 205) hx hb dX10_isSentence_56 (by omega) (by omega) (by rw [c_14]; rfl) (by decide) ?_
      exact C205  _ _ hh_6 (by first | omega | rfl | assumption | decide | exact Or.inl rfl | exact Or.inr rfl | (simp only; omega)) _ (lv_sub hl [0] rfl)
    · refine lv_tableIn (off := 154) (tgt := 210) hx hb dX10_isSentence_56 (by omega) (by omega) (by rw [c_14]; rfl) (by decide) ?_
      exact C210  _ _ hh_6 (by first | omega | (refine ⟨?_, ?_⟩ <;> (first | omega | rfl | assumption | decide | exact Or.inl rfl | exact Or.inr rfl | (simp only; omega)))) _ (lv_sub hl [0] rfl)
    · refine lv_tableIn (off := 154) (tgt := 210) hx hb dX10_isSentence_56 (by omega) (by omega) (by rw [c_14]; rfl) (by decide) ?_
      exact C210  _ _ hh_6 (by first | omega | (refine ⟨?_, ?_⟩ <;> (first | omega | rfl | assumption | decide | exact Or.inl rfl | exact Or.inr rfl | (simp only; omega)))) _ (lv_sub hl [0] rfl)
    · refine lv_tableIn (off := 154) (tgt := 210) hx hb dX10_isSentence_56 (by omega) (by omega) (by rw [c_14]; rfl) (by decide) ?_
      exact C210  _ _ hh_6 (by first | omega | (refine ⟨?_, ?_⟩ <;> (first | omega | rfl | assumption | decide | exact Or.inl rfl | exact Or.inr rfl | (simp only; omega)))) _ (lv_sub hl [0] rfl)
    · refine lv_tableIn (off := 149) (tgt := 205) hx hb dX10_isSentence_56 (by omega) (by omega) (by rw [c_14]; rfl) (by decide) ?_
      exact C205  _ _ hh_6 (by first | omega | rfl | assumption | decide | exact Or.inl rfl | exact Or.inr rfl | (simp only; omega)) _ (lv_sub hl [0] rfl)
    · refine lv_tableIn (off := 149) (tgt := 205) hx hb dX10_isSentence_56 (by omega) (by omega) (by rw [c_14]; rfl) (by decide) ?_
      exact C205  _ _ hh_6 (by first | omega | rfl | assumption | decide | exact Or.inl rfl | exact Or.inr rfl | (simp only; omega)) _ (lv_sub hl [0] rfl)
    · refine lv_tableIn (off := 149) (tgt := 205) hx hb dX10_isSentence_56 (by omega) (by omega) (by rw [c_14]; rfl) (by decide) ?_
      exact C205  _ _ hh_6 (by first | omega | rfl | assumption | decide | exact Or.inl rfl | exact Or.inr rfl | (simp only; omega)) _ (lv_sub hl [0] rfl)
    · refine lv_tableIn (off := 162) (tgt := 218) hx hb dX10_isSentence_56 (by omega) (by omega) (by rw [c_14]; rfl) (by decide) ?_
      refine lv_aload_n hx hb dX10_isSentence_218 rfl (lv_at hl 0 rfl) ?_
      refine va_calli (A0 := jA base) (H0 := s.heap) (va_runV (As := []) (rest := []) ⟨hx, hb, hml, hown, hts⟩ (uX10_isNameB l dC dI ca base B hB hAp hB12 hB101 hB292 hB293 G0 H_6 r0 tk 1) (cwV 0 hts (jgV (jWr_79 _ (List.mem_of_getElem? (i := 10) rfl)) (jWr_79 _ (List.mem_of_getElem? (i := 11) rfl)) (jWr_79 _ (List.mem_of_getElem? (i := 12) rfl)) (jWr_4 _ (List.mem_of_getElem? (i := 14) rfl)) (jWr_79 _ (List.mem_of_getElem? (i := 13) rfl))) rfl rfl rfl (by decide +kernel) ⟨by rw [← hR]; exact Nat.le_of_ble_eq_true rfl, by rw [← hR]; exact Nat.le_of_ble_eq_true rfl⟩) ⟨fun a U g mk q => by obtain ⟨q0, q1, q2, qK, q10, q11, q12⟩ := q; exact ⟨q0, q1, q2, jG.calling g mk a qK, q10, q11, q12⟩, hh_6.recv (C := RX10) (T := TX10) (N := 11) hB12 rfl (by decide) hg_r0 hK, fun U hU hW => ⟨rfl, hU, hh_6.2.1, hG.step hW hU hh_6.1, hg_r0, (hh_6.2.2.1.sub (L1 := [(r0, 12, 3, .int tk), (r0, 12, 4, .int 1)]) [5, 4] rfl), by first | omega | (refine ⟨?_, ?_, ?_, ?_, ?_⟩ <;> (first | omega | rfl | assumption | decide | exact Or.inl rfl | exact Or.inr rfl | (simp only; omega)))⟩⟩ rfl rfl hl.1 rfl (lv_room (Nat.le_of_ble_eq_true rfl)) dX10_isSentence_219 ⟨Nat.zero_le _, Nat.zero_le _⟩) hh_6.1 (fun q _ h => h) (fun q h => h) (fun r_37 u_36 t_36 H_36 locs_36 ht_36 hvm_36 hr_37 hb_36 hz_36 hk_36 hS_36 => ?_)
      obtain ⟨qa_36, rfl⟩ : ∃ z, z = u_36 := ⟨_, rfl⟩
      rw [ht_36] at hb_36
      obtain ⟨hb_361, hb_362, hb_363, hb_364, hb_365⟩ := hb_36
      have hh_36 : jSt (dC, dI) B base G0 G0 EX10_isSentenceS s.heap 0 0 [(r0, 12, 4, .int qa_36), (r0, 12, 5, .int w0_5), (r0, 12, 8, .int 0), (r0, 12, 10, .int 0), (r0, 12, 3, .int tk)] [] [] H_36 locs_36 := ((hh_6.call hb_361 hb_362 hb_363 hb_364 hS_36 rfl (L1 := [(r0, 12, 5, .int w0_5), (r0, 12, 8, .int 0), (r0, 12, 10, .int 0), (r0, 12, 3, .int tk)]) [0, 1, 2, 5] rfl rfl (M1 := []) [] rfl rfl (I1 := []) [] rfl rfl).more hb_365)
      clear hh_6 ht_36 hvm_36 hz_36 hk_36 hS_36 hb_361 hb_362 hb_363 hb_364 hb_365
      obtain ⟨hr_37b, hr_37p⟩ := hr_37
      obtain ⟨hr_37p_0, hr_37p_1⟩ := hr_37p
      have hr_37' := jb_01 hr_37b
      refine lv_if_eq (tgt := 243) hx hb dX10_isSentence_222 (by decide) (fun c_38 => ?_) (fun c_38 => ?_)
      · skip
        have c_38' : r_37.toInt = 0 := jb_eq (rfl) ((by decide)) c_38
        first | (have hr_37p_1q := hr_37p_1.resolve_left (by omega); clear hr_37p_1) | (have hr_37p_1q := hr_37p_1.resolve_right (by omega); clear hr_37p_1) | skip
        refine lv_iconst (v := 0) hx hb dX10_isSentence_243 (by decide) ?_
        refine lv_istore_n (lv' := [(1, .int 0), (0, .ref r0)]) hx hb dX10_isSentence_244 rfl hl (by decide) rfl (fun ls hl => ?_)
        refine lv_goto (tgt := 294) hx hb dX10_isSentence_245 (by decide) ?_
        exact C294 0 qa_36 _ _ (hh_36.sub (L1 := [(r0, 12, 4, .int qa_36), (r0, 12, 5, .int w0_5), (r0, 12, 3, .int tk)]) [0, 1, 4] rfl (M1 := []) [] rfl (I1 := []) [] rfl) (Or.inl rfl) (by first | omega | (refine ⟨?_, ?_, ?_⟩ <;> (first | omega | rfl | assumption | decide | exact Or.inl rfl | exact Or.inr rfl | (simp only; omega)))) _ (lv_sub hl [1, 0] rfl)
      · skip
        have c_38' : r_37.toInt ≠ 0 := jb_eq_n (rfl) ((by decide)) c_38
        first | (have hr_37p_1q := hr_37p_1.resolve_left (by omega); clear hr_37p_1) | (have hr_37p_1q := hr_37p_1.resolve_right (by omega); clear hr_37p_1) | skip
        refine lv_aload_n hx hb dX10_isSentence_225 rfl (lv_at hl 0 rfl) ?_
        refine va_calli (A0 := jA base) (H0 := s.heap) (va_runV (As := []) (rest := []) ⟨hx, hb, hml, hown, hts⟩ (uX10_isNameB l dC dI ca base B hB hAp hB12 hB101 hB292 hB293 G0 H_36 r0 tk qa_36) (cwV 0 hts (jgV (jWr_79 _ (List.mem_of_getElem? (i := 10) rfl)) (jWr_79 _ (List.mem_of_getElem? (i := 11) rfl)) (jWr_79 _ (List.mem_of_getElem? (i := 12) rfl)) (jWr_4 _ (List.mem_of_getElem? (i := 14) rfl)) (jWr_79 _ (List.mem_of_getElem? (i := 13) rfl))) rfl rfl rfl (by decide +kernel) ⟨by rw [← hR]; exact Nat.le_of_ble_eq_true rfl, by rw [← hR]; exact Nat.le_of_ble_eq_true rfl⟩) ⟨fun a U g mk q => by obtain ⟨q0, q1, q2, qK, q10, q11, q12⟩ := q; exact ⟨q0, q1, q2, jG.calling g mk a qK, q10, q11, q12⟩, hh_36.recv (C := RX10) (T := TX10) (N := 11) hB12 rfl (by decide) hg_r0 hK, fun U hU hW => ⟨rfl, hU, hh_36.2.1, hG.step hW hU hh_36.1, hg_r0, (hh_36.2.2.1.sub (L1 := [(r0, 12, 3, .int tk), (r0, 12, 4, .int qa_36)]) [4, 0] rfl), by first | omega | (refine ⟨?_, ?_, ?_, ?_, ?_⟩ <;> (first | omega | rfl | assumption | decide | exact Or.inl rfl | exact Or.inr rfl | (simp only; omega)))⟩⟩ rfl rfl hl.1 rfl (lv_room (Nat.le_of_ble_eq_true rfl)) dX10_isSentence_226 ⟨Nat.zero_le _, Nat.zero_le _⟩) hh_36.1 (fun q _ h => h) (fun q h => h) (fun r_40 u_39 t_39 H_39 locs_39 ht_39 hvm_39 hr_40 hb_39 hz_39 hk_39 hS_39 => ?_)
        obtain ⟨qa_39, rfl⟩ : ∃ z, z = u_39 := ⟨_, rfl⟩
        rw [ht_39] at hb_39
        obtain ⟨hb_391, hb_392, hb_393, hb_394, hb_395⟩ := hb_39
        have hh_39 : jSt (dC, dI) B base G0 G0 EX10_isSentenceS s.heap 0 0 [(r0, 12, 4, .int qa_39), (r0, 12, 5, .int w0_5), (r0, 12, 8, .int 0), (r0, 12, 10, .int 0), (r0, 12, 3, .int tk)] [] [] H_39 locs_39 := ((hh_36.call hb_391 hb_392 hb_393 hb_394 hS_39 rfl (L1 := [(r0, 12, 5, .int w0_5), (r0, 12, 8, .int 0), (r0, 12, 10, .int 0), (r0, 12, 3, .int tk)]) [1, 2, 3, 4] rfl rfl (M1 := []) [] rfl rfl (I1 := []) [] rfl rfl).more hb_395)
        clear hh_36 ht_39 hvm_39 hz_39 hk_39 hS_39 hb_391 hb_392 hb_393 hb_394 hb_395
        obtain ⟨hr_40b, hr_40p⟩ := hr_40
        obtain ⟨hr_40p_0, hr_40p_1⟩ := hr_40p
        have hr_40' := jb_01 hr_40b
        refine lv_if_eq (tgt := 243) hx hb dX10_isSentence_229 (by decide) (fun c_41 => ?_) (fun c_41 => ?_)
        · skip
          have c_41' : r_40.toInt = 0 := jb_eq (rfl) ((by decide)) c_41
          first | (have hr_40p_1q := hr_40p_1.resolve_left (by omega); clear hr_40p_1) | (have hr_40p_1q := hr_40p_1.resolve_right (by omega); clear hr_40p_1) | skip
          refine lv_iconst (v := 0) hx hb dX10_isSentence_243 (by decide) ?_
          refine lv_istore_n (lv' := [(1, .int 0), (0, .ref r0)]) hx hb dX10_isSentence_244 rfl hl (by decide) rfl (fun ls hl => ?_)
          refine lv_goto (tgt := 294) hx hb dX10_isSentence_245 (by decide) ?_
          exact C294 0 qa_39 _ _ (hh_39.sub (L1 := [(r0, 12, 4, .int qa_39), (r0, 12, 5, .int w0_5), (r0, 12, 3, .int tk)]) [0, 1, 4] rfl (M1 := []) [] rfl (I1 := []) [] rfl) (Or.inl rfl) (by first | omega | (refine ⟨?_, ?_, ?_⟩ <;> (first | omega | rfl | assumption | decide | exact Or.inl rfl | exact Or.inr rfl | (simp only; omega)))) _ (lv_sub hl [1, 0] rfl)
        · skip
          have c_41' : r_40.toInt ≠ 0 := jb_eq_n (rfl) ((by decide)) c_41
          first | (have hr_40p_1q := hr_40p_1.resolve_left (by omega); clear hr_40p_1) | (have hr_40p_1q := hr_40p_1.resolve_right (by omega); clear hr_40p_1) | skip
          refine lv_aload_n hx hb dX10_isSentence_232 rfl (lv_at hl 0 rfl) ?_
          refine va_calli (A0 := jA base) (H0 := s.heap) (va_runV (As := []) (rest := []) ⟨hx, hb, hml, hown, hts⟩ (uX10_isNameB l dC dI ca base B hB hAp hB12 hB101 hB292 hB293 G0 H_39 r0 tk qa_39) (cwV 0 hts (jgV (jWr_79 _ (List.mem_of_getElem? (i := 10) rfl)) (jWr_79 _ (List.mem_of_getElem? (i := 11) rfl)) (jWr_79 _ (List.mem_of_getElem? (i := 12) rfl)) (jWr_4 _ (List.mem_of_getElem? (i := 14) rfl)) (jWr_79 _ (List.mem_of_getElem? (i := 13) rfl))) rfl rfl rfl (by decide +kernel) ⟨by rw [← hR]; exact Nat.le_of_ble_eq_true rfl, by rw [← hR]; exact Nat.le_of_ble_eq_true rfl⟩) ⟨fun a U g mk q => by obtain ⟨q0, q1, q2, qK, q10, q11, q12⟩ := q; exact ⟨q0, q1, q2, jG.calling g mk a qK, q10, q11, q12⟩, hh_39.recv (C := RX10) (T := TX10) (N := 11) hB12 rfl (by decide) hg_r0 hK, fun U hU hW => ⟨rfl, hU, hh_39.2.1, hG.step hW hU hh_39.1, hg_r0, (hh_39.2.2.1.sub (L1 := [(r0, 12, 3, .int tk), (r0, 12, 4, .int qa_39)]) [4, 0] rfl), by first | omega | (refine ⟨?_, ?_, ?_, ?_, ?_⟩ <;> (first | omega | rfl | assumption | decide | exact Or.inl rfl | exact Or.inr rfl | (simp only; omega)))⟩⟩ rfl rfl hl.1 rfl (lv_room (Nat.le_of_ble_eq_true rfl)) dX10_isSentence_233 ⟨Nat.zero_le _, Nat.zero_le _⟩) hh_39.1 (fun q _ h => h) (fun q h => h) (fun r_43 u_42 t_42 H_42 locs_42 ht_42 hvm_42 hr_43 hb_42 hz_42 hk_42 hS_42 => ?_)
          obtain ⟨qa_42, rfl⟩ : ∃ z, z = u_42 := ⟨_, rfl⟩
          rw [ht_42] at hb_42
          obtain ⟨hb_421, hb_422, hb_423, hb_424, hb_425⟩ := hb_42
          have hh_42 : jSt (dC, dI) B base G0 G0 EX10_isSentenceS s.heap 0 0 [(r0, 12, 4, .int qa_42), (r0, 12, 5, .int w0_5), (r0, 12, 8, .int 0), (r0, 12, 10, .int 0), (r0, 12, 3, .int tk)] [] [] H_42 locs_42 := ((hh_39.call hb_421 hb_422 hb_423 hb_424 hS_42 rfl (L1 := [(r0, 12, 5, .int w0_5), (r0, 12, 8, .int 0), (r0, 12, 10, .int 0), (r0, 12, 3, .int tk)]) [1, 2, 3, 4] rfl rfl (M1 := []) [] rfl rfl (I1 := []) [] rfl rfl).more hb_425)
          clear hh_39 ht_42 hvm_42 hz_42 hk_42 hS_42 hb_421 hb_422 hb_423 hb_424 hb_425
          obtain ⟨hr_43b, hr_43p⟩ := hr_43
          obtain ⟨hr_43p_0, hr_43p_1⟩ := hr_43p
          have hr_43' := jb_01 hr_43b
          refine lv_if_eq (tgt := 243) hx hb dX10_isSentence_236 (by decide) (fun c_44 => ?_) (fun c_44 => ?_)
          · skip
            have c_44' : r_43.toInt = 0 := jb_eq (rfl) ((by decide)) c_44
            first | (have hr_43p_1q := hr_43p_1.resolve_left (by omega); clear hr_43p_1) | (have hr_43p_1q := hr_43p_1.resolve_right (by omega); clear hr_43p_1) | skip
            refine lv_iconst (v := 0) hx hb dX10_isSentence_243 (by decide) ?_
            refine lv_istore_n (lv' := [(1, .int 0), (0, .ref r0)]) hx hb dX10_isSentence_244 rfl hl (by decide) rfl (fun ls hl => ?_)
            refine lv_goto (tgt := 294) hx hb dX10_isSentence_245 (by decide) ?_
            exact C294 0 qa_42 _ _ (hh_42.sub (L1 := [(r0, 12, 4, .int qa_42), (r0, 12, 5, .int w0_5), (r0, 12, 3, .int tk)]) [0, 1, 4] rfl (M1 := []) [] rfl (I1 := []) [] rfl) (Or.inl rfl) (by first | omega | (refine ⟨?_, ?_, ?_⟩ <;> (first | omega | rfl | assumption | decide | exact Or.inl rfl | exact Or.inr rfl | (simp only; omega)))) _ (lv_sub hl [1, 0] rfl)
          · skip
            have c_44' : r_43.toInt ≠ 0 := jb_eq_n (rfl) ((by decide)) c_44
            first | (have hr_43p_1q := hr_43p_1.resolve_left (by omega); clear hr_43p_1) | (have hr_43p_1q := hr_43p_1.resolve_right (by omega); clear hr_43p_1) | skip
            refine lv_iconst (v := 1) hx hb dX10_isSentence_239 (by decide) ?_
            refine lv_goto (tgt := 244) hx hb dX10_isSentence_240 (by decide) ?_
            refine lv_istore_n (lv' := [(1, .int 1), (0, .ref r0)]) hx hb dX10_isSentence_244 rfl hl (by decide) rfl (fun ls hl => ?_)
            refine lv_goto (tgt := 294) hx hb dX10_isSentence_245 (by decide) ?_
            exact C294 1 qa_42 _ _ (hh_42.sub (L1 := [(r0, 12, 4, .int qa_42), (r0, 12, 5, .int w0_5), (r0, 12, 3, .int tk)]) [0, 1, 4] rfl (M1 := []) [] rfl (I1 := []) [] rfl) (Or.inr rfl) (by first | omega | (refine ⟨?_, ?_, ?_⟩ <;> (first | omega | rfl | assumption | decide | exact Or.inl rfl | exact Or.inr rfl | (simp only; omega)))) _ (lv_sub hl [1, 0] rfl)
    · refine lv_tableIn (off := 154) (tgt := 210) hx hb dX10_isSentence_56 (by omega) (by omega) (by rw [c_14]; rfl) (by decide) ?_
      exact C210  _ _ hh_6 (by first | omega | (refine ⟨?_, ?_⟩ <;> (first | omega | rfl | assumption | decide | exact Or.inl rfl | exact Or.inr rfl | (simp only; omega)))) _ (lv_sub hl [0] rfl)
    · refine lv_tableIn (off := 192) (tgt := 248) hx hb dX10_isSentence_56 (by omega) (by omega) (by rw [c_14]; rfl) (by decide) ?_
      refine lv_aload_n hx hb dX10_isSentence_248 rfl (lv_at hl 0 rfl) ?_
      refine lv_bipush (v := 8) hx hb dX10_isSentence_249 (by decide) ?_
      refine lv_iconst (v := 0) hx hb dX10_isSentence_251 (by decide) ?_
      obtain ⟨v_47, hv_47, hh_48⟩ := hh_6.pin (C := RX10) (T := TX10) (N := 11) hB12 rfl (by decide) hg_r0 (i := 9) (by decide) rfl
      obtain ⟨nodes_49, rfl, hg_nodes_49⟩ := hv_47
      obtain ⟨f_fn_50, hh_50⟩ := hh_48.cpin hB280 (by decide) (by decide) hg_nodes_49
      clear hh_48
      refine va_calli (A0 := jA base) (H0 := s.heap) (va_runV (As := [.int 8, .int 0]) (rest := []) ⟨hx, hb, hml, hown, hts⟩ (aX10_isTermB l dC dI ca base B hB hAp hB12 hB101 hB280 hB293 12 G0 H_6 r0 8 0 tk 1 0 nodes_49 f_fn_50) (cwV 2 hts (jgV (jWr_81 _ (List.mem_of_getElem? (i := 0) rfl)) (jWr_81 _ (List.mem_of_getElem? (i := 1) rfl)) (jWr_81 _ (List.mem_of_getElem? (i := 2) rfl)) (jWr_4 _ (List.mem_of_getElem? (i := 14) rfl)) (jWr_81 _ (List.mem_of_getElem? (i := 3) rfl))) rfl rfl rfl (by decide +kernel) ⟨by rw [← hR]; exact Nat.le_of_ble_eq_true rfl, by rw [← hR]; exact Nat.le_of_ble_eq_true rfl⟩) ⟨fun a U g mk q => by obtain ⟨q0, q1, q2, qK, q10, q11, q12, q13, q14⟩ := q; exact ⟨q0, q1, q2, jG.calling g mk a qK, q10, q11, q12, q13, q14⟩, hh_50.recv (C := RX10) (T := TX10) (N := 11) hB12 rfl (by decide) hg_r0 hK, fun U hU hW => ⟨rfl, hU, hh_50.2.1, hG.step hW hU hh_50.1, hg_r0, hg_nodes_49, (hh_50.2.2.1.sub (L1 := [(r0, 12, 3, .int tk), (r0, 12, 4, .int 1), (r0, 12, 10, .int 0), (r0, 12, 9, .ref nodes_49)]) [6, 5, 3, 0] rfl), (hh_50.2.2.2.2.2.2.2.1.sub (L1 := [(nodes_49, 280, 3000, ca 1, f_fn_50)]) [0] rfl), by first | omega | (refine ⟨?_, ?_, ?_, ?_, ?_, ?_, ?_, ?_, ?_, ?_, ?_⟩ <;> (first | omega | rfl | assumption | decide | exact Or.inl rfl | exact Or.inr rfl | (simp only; omega)))⟩⟩ rfl rfl hl.1 rfl (lv_room (Nat.le_of_ble_eq_true rfl)) dX10_isSentence_252 ⟨Nat.zero_le _, Nat.zero_le _⟩) hh_50.1 (fun q _ h => h) (fun q h => h) (fun r_46 u_45 t_45 H_45 locs_45 ht_45 hvm_45 hr_46 hb_45 hz_45 hk_45 hS_45 => ?_)
      obtain ⟨qa_45, qc_45, fn2_45⟩ := u_45
      rw [ht_45] at hb_45
      obtain ⟨⟨hb_451, hb_452, hb_453, hb_454, hb_455⟩, hb_456⟩ := hb_45
      have hh_45 : jSt (dC, dI) B base G0 G0 EX10_isSentenceS s.heap 0 0 [(r0, 12, 4, .int qa_45), (r0, 12, 10, .int qc_45), (r0, 12, 9, .ref nodes_49), (r0, 12, 5, .int w0_5), (r0, 12, 8, .int 0), (r0, 12, 7, .int 0), (r0, 12, 3, .int tk)] [(nodes_49, 280, 3000, ca 1, fn2_45)] [] H_45 locs_45 := ((hh_50.call hb_451 hb_452 hb_453 hb_454 hS_45 rfl (L1 := [(r0, 12, 9, .ref nodes_49), (r0, 12, 5, .int w0_5), (r0, 12, 8, .int 0), (r0, 12, 7, .int 0), (r0, 12, 3, .int tk)]) [0, 1, 2, 4, 6] rfl rfl (M1 := []) [] rfl rfl (I1 := []) [] rfl rfl).more hb_455).moreM hb_456
      clear hh_50 ht_45 hvm_45 hz_45 hk_45 hS_45 hb_451 hb_452 hb_453 hb_454 hb_455
      clear hb_456
      try simp only at hr_46
      obtain ⟨hr_46b, hr_46p⟩ := hr_46
      obtain ⟨hr_46p_0, hr_46p_1, hr_46p_2, hr_46p_3, hr_46p_4, hr_46p_5, hr_46p_6⟩ := hr_46p
      have hr_46' := jb_01 hr_46b
      refine lv_istore_n (lv' := [(1, .int r_46), (0, .ref r0)]) hx hb dX10_isSentence_255 rfl hl (by decide) rfl (fun ls hl => ?_)
      refine lv_goto (tgt := 294) hx hb dX10_isSentence_256 (by decide) ?_
      exact C294 r_46 qa_45 _ _ (hh_45.sub (L1 := [(r0, 12, 4, .int qa_45), (r0, 12, 5, .int w0_5), (r0, 12, 3, .int tk)]) [0, 3, 6] rfl (M1 := []) [] rfl (I1 := []) [] rfl) (hr_46b) (by first | omega | (refine ⟨?_, ?_, ?_⟩ <;> (first | omega | rfl | assumption | decide | exact Or.inl rfl | exact Or.inr rfl | (simp only; omega)))) _ (lv_sub hl [1, 0] rfl)
    · refine lv_tableIn (off := 203) (tgt := 259) hx hb dX10_isSentence_56 (by omega) (by omega) (by rw [c_14]; rfl) (by decide) ?_
      refine lv_aload_n hx hb dX10_isSentence_259 rfl (lv_at hl 0 rfl) ?_
      refine va_calli (A0 := jA base) (H0 := s.heap) (va_runV (As := []) (rest := []) ⟨hx, hb, hml, hown, hts⟩ (uX10_isNameB l dC dI ca base B hB hAp hB12 hB101 hB292 hB293 G0 H_6 r0 tk 1) (cwV 0 hts (jgV (jWr_79 _ (List.mem_of_getElem? (i := 10) rfl)) (jWr_79 _ (List.mem_of_getElem? (i := 11) rfl)) (jWr_79 _ (List.mem_of_getElem? (i := 12) rfl)) (jWr_4 _ (List.mem_of_getElem? (i := 14) rfl)) (jWr_79 _ (List.mem_of_getElem? (i := 13) rfl))) rfl rfl rfl (by decide +kernel) ⟨by rw [← hR]; exact Nat.le_of_ble_eq_true rfl, by rw [← hR]; exact Nat.le_of_ble_eq_true rfl⟩) ⟨fun a U g mk q => by obtain ⟨q0, q1, q2, qK, q10, q11, q12⟩ := q; exact ⟨q0, q1, q2, jG.calling g mk a qK, q10, q11, q12⟩, hh_6.recv (C := RX10) (T := TX10) (N := 11) hB12 rfl (by decide) hg_r0 hK, fun U hU hW => ⟨rfl, hU, hh_6.2.1, hG.step hW hU hh_6.1, hg_r0, (hh_6.2.2.1.sub (L1 := [(r0, 12, 3, .int tk), (r0, 12, 4, .int 1)]) [5, 4] rfl), by first | omega | (refine ⟨?_, ?_, ?_, ?_, ?_⟩ <;> (first | omega | rfl | assumption | decide | exact Or.inl rfl | exact Or.inr rfl | (simp only; omega)))⟩⟩ rfl rfl hl.1 rfl (lv_room (Nat.le_of_ble_eq_true rfl)) dX10_isSentence_260 ⟨Nat.zero_le _, Nat.zero_le _⟩) hh_6.1 (fun q _ h => h) (fun q h => h) (fun r_52 u_51 t_51 H_51 locs_51 ht_51 hvm_51 hr_52 hb_51 hz_51 hk_51 hS_51 => ?_)
      obtain ⟨qa_51, rfl⟩ : ∃ z, z = u_51 := ⟨_, rfl⟩
      rw [ht_51] at hb_51
      obtain ⟨hb_511, hb_512, hb_513, hb_514, hb_515⟩ := hb_51
      have hh_51 : jSt (dC, dI) B base G0 G0 EX10_isSentenceS s.heap 0 0 [(r0, 12, 4, .int qa_51), (r0, 12, 5, .int w0_5), (r0, 12, 8, .int 0), (r0, 12, 10, .int 0), (r0, 12, 3, .int tk)] [] [] H_51 locs_51 := ((hh_6.call hb_511 hb_512 hb_513 hb_514 hS_51 rfl (L1 := [(r0, 12, 5, .int w0_5), (r0, 12, 8, .int 0), (r0, 12, 10, .int 0), (r0, 12, 3, .int tk)]) [0, 1, 2, 5] rfl rfl (M1 := []) [] rfl rfl (I1 := []) [] rfl rfl).more hb_515)
      clear hh_6 ht_51 hvm_51 hz_51 hk_51 hS_51 hb_511 hb_512 hb_513 hb_514 hb_515
      obtain ⟨hr_52b, hr_52p⟩ := hr_52
      obtain ⟨hr_52p_0, hr_52p_1⟩ := hr_52p
      have hr_52' := jb_01 hr_52b
      refine lv_if_eq (tgt := 287) hx hb dX10_isSentence_263 (by decide) (fun c_53 => ?_) (fun c_53 => ?_)
      · skip
        have c_53' : r_52.toInt = 0 := jb_eq (rfl) ((by decide)) c_53
        first | (have hr_52p_1q := hr_52p_1.resolve_left (by omega); clear hr_52p_1) | (have hr_52p_1q := hr_52p_1.resolve_right (by omega); clear hr_52p_1) | skip
        refine lv_iconst (v := 0) hx hb dX10_isSentence_287 (by decide) ?_
        refine lv_istore_n (lv' := [(1, .int 0), (0, .ref r0)]) hx hb dX10_isSentence_288 rfl hl (by decide) rfl (fun ls hl => ?_)
        refine lv_goto (tgt := 294) hx hb dX10_isSentence_289 (by decide) ?_
        exact C294 0 qa_51 _ _ (hh_51.sub (L1 := [(r0, 12, 4, .int qa_51), (r0, 12, 5, .int w0_5), (r0, 12, 3, .int tk)]) [0, 1, 4] rfl (M1 := []) [] rfl (I1 := []) [] rfl) (Or.inl rfl) (by first | omega | (refine ⟨?_, ?_, ?_⟩ <;> (first | omega | rfl | assumption | decide | exact Or.inl rfl | exact Or.inr rfl | (simp only; omega)))) _ (lv_sub hl [1, 0] rfl)
      · skip
        have c_53' : r_52.toInt ≠ 0 := jb_eq_n (rfl) ((by decide)) c_53
        first | (have hr_52p_1q := hr_52p_1.resolve_left (by omega); clear hr_52p_1) | (have hr_52p_1q := hr_52p_1.resolve_right (by omega); clear hr_52p_1) | skip
        refine lv_aload_n hx hb dX10_isSentence_266 rfl (lv_at hl 0 rfl) ?_
        refine lv_bipush (v := 8) hx hb dX10_isSentence_267 (by decide) ?_
        refine lv_iconst (v := 0) hx hb dX10_isSentence_269 (by decide) ?_
        obtain ⟨v_56, hv_56, hh_57⟩ := hh_51.pin (C := RX10) (T := TX10) (N := 11) hB12 rfl (by decide) hg_r0 (i := 9) (by decide) rfl
        obtain ⟨nodes_58, rfl, hg_nodes_58⟩ := hv_56
        obtain ⟨f_fn_59, hh_59⟩ := hh_57.cpin hB280 (by decide) (by decide) hg_nodes_58
        clear hh_57
        refine va_calli (A0 := jA base) (H0 := s.heap) (va_runV (As := [.int 8, .int 0]) (rest := []) ⟨hx, hb, hml, hown, hts⟩ (aX10_isTermB l dC dI ca base B hB hAp hB12 hB101 hB280 hB293 12 G0 H_51 r0 8 0 tk qa_51 0 nodes_58 f_fn_59) (cwV 2 hts (jgV (jWr_81 _ (List.mem_of_getElem? (i := 0) rfl)) (jWr_81 _ (List.mem_of_getElem? (i := 1) rfl)) (jWr_81 _ (List.mem_of_getElem? (i := 2) rfl)) (jWr_4 _ (List.mem_of_getElem? (i := 14) rfl)) (jWr_81 _ (List.mem_of_getElem? (i := 3) rfl))) rfl rfl rfl (by decide +kernel) ⟨by rw [← hR]; exact Nat.le_of_ble_eq_true rfl, by rw [← hR]; exact Nat.le_of_ble_eq_true rfl⟩) ⟨fun a U g mk q => by obtain ⟨q0, q1, q2, qK, q10, q11, q12, q13, q14⟩ := q; exact ⟨q0, q1, q2, jG.calling g mk a qK, q10, q11, q12, q13, q14⟩, hh_59.recv (C := RX10) (T := TX10) (N := 11) hB12 rfl (by decide) hg_r0 hK, fun U hU hW => ⟨rfl, hU, hh_59.2.1, hG.step hW hU hh_59.1, hg_r0, hg_nodes_58, (hh_59.2.2.1.sub (L1 := [(r0, 12, 3, .int tk), (r0, 12, 4, .int qa_51), (r0, 12, 10, .int 0), (r0, 12, 9, .ref nodes_58)]) [5, 1, 4, 0] rfl), (hh_59.2.2.2.2.2.2.2.1.sub (L1 := [(nodes_58, 280, 3000, ca 1, f_fn_59)]) [0] rfl), by first | omega | (refine ⟨?_, ?_, ?_, ?_, ?_, ?_, ?_, ?_, ?_, ?_, ?_⟩ <;> (first | omega | rfl | assumption | decide | exact Or.inl rfl | exact Or.inr rfl | (simp only; omega)))⟩⟩ rfl rfl hl.1 rfl (lv_room (Nat.le_of_ble_eq_true rfl)) dX10_isSentence_270 ⟨Nat.zero_le _, Nat.zero_le _⟩) hh_59.1 (fun q _ h => h) (fun q h => h) (fun r_55 u_54 t_54 H_54 locs_54 ht_54 hvm_54 hr_55 hb_54 hz_54 hk_54 hS_54 => ?_)
        obtain ⟨qa_54, qc_54, fn2_54⟩ := u_54
        rw [ht_54] at hb_54
        obtain ⟨⟨hb_541, hb_542, hb_543, hb_544, hb_545⟩, hb_546⟩ := hb_54
        have hh_54 : jSt (dC, dI) B base G0 G0 EX10_isSentenceS s.heap 0 0 [(r0, 12, 4, .int qa_54), (r0, 12, 10, .int qc_54), (r0, 12, 9, .ref nodes_58), (r0, 12, 5, .int w0_5), (r0, 12, 8, .int 0), (r0, 12, 3, .int tk)] [(nodes_58, 280, 3000, ca 1, fn2_54)] [] H_54 locs_54 := ((hh_59.call hb_541 hb_542 hb_543 hb_544 hS_54 rfl (L1 := [(r0, 12, 9, .ref nodes_58), (r0, 12, 5, .int w0_5), (r0, 12, 8, .int 0), (r0, 12, 3, .int tk)]) [0, 2, 3, 5] rfl rfl (M1 := []) [] rfl rfl (I1 := []) [] rfl rfl).more hb_545).moreM hb_546
        clear hh_59 ht_54 hvm_54 hz_54 hk_54 hS_54 hb_541 hb_542 hb_543 hb_544 hb_545
        clear hb_546
        try simp only at hr_55
        obtain ⟨hr_55b, hr_55p⟩ := hr_55
        obtain ⟨hr_55p_0, hr_55p_1, hr_55p_2, hr_55p_3, hr_55p_4, hr_55p_5, hr_55p_6⟩ := hr_55p
        have hr_55' := jb_01 hr_55b
        refine lv_if_eq (tgt := 287) hx hb dX10_isSentence_273 (by decide) (fun c_60 => ?_) (fun c_60 => ?_)
        · skip
          have c_60' : r_55.toInt = 0 := jb_eq (rfl) ((by decide)) c_60
          first | (have hr_55p_4q := hr_55p_4.resolve_left (by omega); clear hr_55p_4) | (have hr_55p_4q := hr_55p_4.resolve_right (by omega); clear hr_55p_4) | skip
          first | (have hr_55p_6q := hr_55p_6.resolve_left (by omega); clear hr_55p_6) | (have hr_55p_6q := hr_55p_6.resolve_right (by omega); clear hr_55p_6) | skip
          refine lv_iconst (v := 0) hx hb dX10_isSentence_287 (by decide) ?_
          refine lv_istore_n (lv' := [(1, .int 0), (0, .ref r0)]) hx hb dX10_isSentence_288 rfl hl (by decide) rfl (fun ls hl => ?_)
          refine lv_goto (tgt := 294) hx hb dX10_isSentence_289 (by decide) ?_
          exact C294 0 qa_54 _ _ (hh_54.sub (L1 := [(r0, 12, 4, .int qa_54), (r0, 12, 5, .int w0_5), (r0, 12, 3, .int tk)]) [0, 3, 5] rfl (M1 := []) [] rfl (I1 := []) [] rfl) (Or.inl rfl) (by first | omega | (refine ⟨?_, ?_, ?_⟩ <;> (first | omega | rfl | assumption | decide | exact Or.inl rfl | exact Or.inr rfl | (simp only; omega)))) _ (lv_sub hl [1, 0] rfl)
        · skip
          have c_60' : r_55.toInt ≠ 0 := jb_eq_n (rfl) ((by decide)) c_60
          first | (have hr_55p_4q := hr_55p_4.resolve_left (by omega); clear hr_55p_4) | (have hr_55p_4q := hr_55p_4.resolve_right (by omega); clear hr_55p_4) | skip
          first | (have hr_55p_6q := hr_55p_6.resolve_left (by omega); clear hr_55p_6) | (have hr_55p_6q := hr_55p_6.resolve_right (by omega); clear hr_55p_6) | skip
          refine lv_aload_n hx hb dX10_isSentence_276 rfl (lv_at hl 0 rfl) ?_
          refine va_calli (A0 := jA base) (H0 := s.heap) (va_runV (As := []) (rest := []) ⟨hx, hb, hml, hown, hts⟩ (uX10_isNameB l dC dI ca base B hB hAp hB12 hB101 hB292 hB293 G0 H_54 r0 tk qa_54) (cwV 0 hts (jgV (jWr_79 _ (List.mem_of_getElem? (i := 10) rfl)) (jWr_79 _ (List.mem_of_getElem? (i := 11) rfl)) (jWr_79 _ (List.mem_of_getElem? (i := 12) rfl)) (jWr_4 _ (List.mem_of_getElem? (i := 14) rfl)) (jWr_79 _ (List.mem_of_getElem? (i := 13) rfl))) rfl rfl rfl (by decide +kernel) ⟨by rw [← hR]; exact Nat.le_of_ble_eq_true rfl, by rw [← hR]; exact Nat.le_of_ble_eq_true rfl⟩) ⟨fun a U g mk q => by obtain ⟨q0, q1, q2, qK, q10, q11, q12⟩ := q; exact ⟨q0, q1, q2, jG.calling g mk a qK, q10, q11, q12⟩, hh_54.recv (C := RX10) (T := TX10) (N := 11) hB12 rfl (by decide) hg_r0 hK, fun U hU hW => ⟨rfl, hU, hh_54.2.1, hG.step hW hU hh_54.1, hg_r0, (hh_54.2.2.1.sub (L1 := [(r0, 12, 3, .int tk), (r0, 12, 4, .int qa_54)]) [5, 0] rfl), by first | omega | (refine ⟨?_, ?_, ?_, ?_, ?_⟩ <;> (first | omega | rfl | assumption | decide | exact Or.inl rfl | exact Or.inr rfl | (simp only; omega)))⟩⟩ rfl rfl hl.1 rfl (lv_room (Nat.le_of_ble_eq_true rfl)) dX10_isSentence_277 ⟨Nat.zero_le _, Nat.zero_le _⟩) hh_54.1 (fun q _ h => h) (fun q h => h) (fun r_62 u_61 t_61 H_61 locs_61 ht_61 hvm_61 hr_62 hb_61 hz_61 hk_61 hS_61 => ?_)
          obtain ⟨qa_61, rfl⟩ : ∃ z, z = u_61 := ⟨_, rfl⟩
          rw [ht_61] at hb_61
          obtain ⟨hb_611, hb_612, hb_613, hb_614, hb_615⟩ := hb_61
          have hh_61 : jSt (dC, dI) B base G0 G0 EX10_isSentenceS s.heap 0 0 [(r0, 12, 4, .int qa_61), (r0, 12, 10, .int qc_54), (r0, 12, 9, .ref nodes_58), (r0, 12, 5, .int w0_5), (r0, 12, 8, .int 0), (r0, 12, 3, .int tk)] [(nodes_58, 280, 3000, ca 1, fn2_54)] [] H_61 locs_61 := ((hh_54.call hb_611 hb_612 hb_613 hb_614 hS_61 rfl (L1 := [(r0, 12, 10, .int qc_54), (r0, 12, 9, .ref nodes_58), (r0, 12, 5, .int w0_5), (r0, 12, 8, .int 0), (r0, 12, 3, .int tk)]) [1, 2, 3, 4, 5] rfl rfl (M1 := [(nodes_58, 280, 3000, ca 1, fn2_54)]) [0] rfl rfl (I1 := []) [] rfl rfl).more hb_615)
          clear hh_54 ht_61 hvm_61 hz_61 hk_61 hS_61 hb_611 hb_612 hb_613 hb_614 hb_615
          obtain ⟨hr_62b, hr_62p⟩ := hr_62
          obtain ⟨hr_62p_0, hr_62p_1⟩ := hr_62p
          have hr_62' := jb_01 hr_62b
          refine lv_if_eq (tgt := 287) hx hb dX10_isSentence_280 (by decide) (fun c_63 => ?_) (fun c_63 => ?_)
          · skip
            have c_63' : r_62.toInt = 0 := jb_eq (rfl) ((by decide)) c_63
            first | (have hr_55p_4q := hr_55p_4.resolve_left (by omega); clear hr_55p_4) | (have hr_55p_4q := hr_55p_4.resolve_right (by omega); clear hr_55p_4) | skip
            first | (have hr_55p_6q := hr_55p_6.resolve_left (by omega); clear hr_55p_6) | (have hr_55p_6q := hr_55p_6.resolve_right (by omega); clear hr_55p_6) | skip
            first | (have hr_62p_1q := hr_62p_1.resolve_left (by omega); clear hr_62p_1) | (have hr_62p_1q := hr_62p_1.resolve_right (by omega); clear hr_62p_1) | skip
            refine lv_iconst (v := 0) hx hb dX10_isSentence_287 (by decide) ?_
            refine lv_istore_n (lv' := [(1, .int 0), (0, .ref r0)]) hx hb dX10_isSentence_288 rfl hl (by decide) rfl (fun ls hl => ?_)
            refine lv_goto (tgt := 294) hx hb dX10_isSentence_289 (by decide) ?_
            exact C294 0 qa_61 _ _ (hh_61.sub (L1 := [(r0, 12, 4, .int qa_61), (r0, 12, 5, .int w0_5), (r0, 12, 3, .int tk)]) [0, 3, 5] rfl (M1 := []) [] rfl (I1 := []) [] rfl) (Or.inl rfl) (by first | omega | (refine ⟨?_, ?_, ?_⟩ <;> (first | omega | rfl | assumption | decide | exact Or.inl rfl | exact Or.inr rfl | (simp only; omega)))) _ (lv_sub hl [1, 0] rfl)
          · skip
            have c_63' : r_62.toInt ≠ 0 := jb_eq_n (rfl) ((by decide)) c_63
            first | (have hr_55p_4q := hr_55p_4.resolve_left (by omega); clear hr_55p_4) | (have hr_55p_4q := hr_55p_4.resolve_right (by omega); clear hr_55p_4) | skip
            first | (have hr_55p_6q := hr_55p_6.resolve_left (by omega); clear hr_55p_6) | (have hr_55p_6q := hr_55p_6.resolve_right (by omega); clear hr_55p_6) | skip
            first | (have hr_62p_1q := hr_62p_1.resolve_left (by omega); clear hr_62p_1) | (have hr_62p_1q := hr_62p_1.resolve_right (by omega); clear hr_62p_1) | skip
            refine lv_iconst (v := 1) hx hb dX10_isSentence_283 (by decide) ?_
            refine lv_goto (tgt := 288) hx hb dX10_isSentence_284 (by decide) ?_
            refine lv_istore_n (lv' := [(1, .int 1), (0, .ref r0)]) hx hb dX10_isSentence_288 rfl hl (by decide) rfl (fun ls hl => ?_)
            refine lv_goto (tgt := 294) hx hb dX10_isSentence_289 (by decide) ?_
            exact C294 1 qa_61 _ _ (hh_61.sub (L1 := [(r0, 12, 4, .int qa_61), (r0, 12, 5, .int w0_5), (r0, 12, 3, .int tk)]) [0, 3, 5] rfl (M1 := []) [] rfl (I1 := []) [] rfl) (Or.inr rfl) (by first | omega | (refine ⟨?_, ?_, ?_⟩ <;> (first | omega | rfl | assumption | decide | exact Or.inl rfl | exact Or.inr rfl | (simp only; omega)))) _ (lv_sub hl [1, 0] rfl)
    · refine lv_tableIn (off := 149) (tgt := 205) hx hb dX10_isSentence_56 (by omega) (by omega) (by rw [c_14]; rfl) (by decide) ?_
      exact C205  _ _ hh_6 (by first | omega | rfl | assumption | decide | exact Or.inl rfl | exact Or.inr rfl | (simp only; omega)) _ (lv_sub hl [0] rfl)
    · refine lv_tableIn (off := 154) (tgt := 210) hx hb dX10_isSentence_56 (by omega) (by omega) (by rw [c_14]; rfl) (by decide) ?_
      exact C210  _ _ hh_6 (by first | omega | (refine ⟨?_, ?_⟩ <;> (first | omega | rfl | assumption | decide | exact Or.inl rfl | exact Or.inr rfl | (simp only; omega)))) _ (lv_sub hl [0] rfl)
    · refine lv_tableIn (off := 115) (tgt := 171) hx hb dX10_isSentence_56 (by omega) (by omega) (by rw [c_14]; rfl) (by decide) ?_
      exact C171  _ _ hh_6 (by first | omega | rfl | assumption | decide | exact Or.inl rfl | exact Or.inr rfl | (simp only; omega)) _ (lv_sub hl [0] rfl)
  refine lv_if_le (tgt := 48) hx hb dX10_isSentence_25 (by decide) (fun c_64 => ?_) (fun c_64 => ?_)
  · skip
    have c_64' : tk.toInt ≤ 0 := jb_le (rfl) ((by decide)) c_64
    refine lv_iconst (v := (-1)) hx hb dX10_isSentence_48 (by decide) ?_
    exact C49 (-1) _ _ hh_4 (by first | omega | rfl | assumption | decide | exact Or.inl rfl | exact Or.inr rfl | (simp only; omega)) _ (lv_sub hl [0] rfl)
  · skip
    have c_64' : tk.toInt > 0 := jb_le_n (rfl) ((by decide)) c_64
    refine lv_aload_n hx hb dX10_isSentence_28 rfl (lv_at hl 0 rfl) ?_
    obtain ⟨v_65, hv_65, hh_66⟩ := hh_4.pin (C := RX10) (T := TX10) (N := 11) hB12 rfl (by decide) hg_r0 (i := 1) (by decide) rfl
    clear hh_4
    obtain ⟨kinds_67, rfl, hg_kinds_67⟩ := hv_65
    refine j7_read hx hb hown hK (C := RX10) (T := TX10) (N := 11) rfl hly_12_1 hlk_9 (hh_66.at 0 rfl) dX10_isSentence_29 ?_
    refine lv_iconst (v := 0) hx hb dX10_isSentence_32 (by decide) ?_
    refine j7_iald hx hb hK hh_66 hB101 1 rfl (by decide) hg_kinds_67 (x := 0) ((by decide)) (by omega) dX10_isSentence_33 (fun z_68 (hz_68 : True) => ?_)
    refine lv_bipush (v := 110) hx hb dX10_isSentence_34 (by decide) ?_
    refine lv_icmp_ne (tgt := 48) hx hb dX10_isSentence_36 (by decide) (fun c_69 => ?_) (fun c_69 => ?_)
    · skip
      have c_69' : z_68.toInt ≠ 110 := jb_ne (rfl) ((by decide)) c_69
      refine lv_iconst (v := (-1)) hx hb dX10_isSentence_48 (by decide) ?_
      exact C49 (-1) _ _ (hh_66.sub (L1 := [(r0, 12, 8, .int 0), (r0, 12, 10, .int 0), (r0, 12, 7, .int 0), (r0, 12, 4, .int 1), (r0, 12, 3, .int tk)]) [1, 2, 3, 4, 5] rfl (M1 := []) [] rfl (I1 := []) [] rfl) (by first | omega | rfl | assumption | decide | exact Or.inl rfl | exact Or.inr rfl | (simp only; omega)) _ (lv_sub hl [0] rfl)
    · skip
      have c_69' : z_68.toInt = 110 := jb_ne_n (rfl) ((by decide)) c_69
      refine lv_aload_n hx hb dX10_isSentence_39 rfl (lv_at hl 0 rfl) ?_
      obtain ⟨v_70, hv_70, hh_71⟩ := hh_66.pin (C := RX10) (T := TX10) (N := 11) hB12 rfl (by decide) hg_r0 (i := 2) (by decide) rfl
      clear hh_66
      obtain ⟨values_72, rfl, hg_values_72⟩ := hv_70
      refine j7_read hx hb hown hK (C := RX10) (T := TX10) (N := 11) rfl hly_12_2 hlk_15 (hh_71.at 0 rfl) dX10_isSentence_40 ?_
      refine lv_iconst (v := 0) hx hb dX10_isSentence_43 (by decide) ?_
      refine j7_iald hx hb hK hh_71 hB293 1 rfl (by decide) hg_values_72 (x := 0) ((by decide)) (by omega) dX10_isSentence_44 (fun z_73 (hz_73 : -1 ≤ z_73.toInt ∧ z_73.toInt ≤ 8191) => ?_)
      refine lv_goto (tgt := 49) hx hb dX10_isSentence_45 (by decide) ?_
      exact C49 z_73 _ _ (hh_71.sub (L1 := [(r0, 12, 8, .int 0), (r0, 12, 10, .int 0), (r0, 12, 7, .int 0), (r0, 12, 4, .int 1), (r0, 12, 3, .int tk)]) [2, 3, 4, 5, 6] rfl (M1 := []) [] rfl (I1 := []) [] rfl) (by first | omega | rfl | assumption | decide | exact Or.inl rfl | exact Or.inr rfl | (simp only; omega)) _ (lv_sub hl [0] rfl)
set_option maxHeartbeats 4000000 in
set_option maxRecDepth 20000 in
theorem uX5_actS (l : Launch) (dC : Nat → ClassId) (dI : Nat → Nat → Nat) (ca : Nat → ClassId) (base : Nat) (B : jF) (hB : jBok B) (hAp : jAp (dC, dI)) (hB5 : ∀ n G a H, B 5 n G a H ↔ jOb (dC, dI) 5 4 (F5 n G) a H) (hB7 : ∀ n G a H, B 7 n G a H ↔ jOb (dC, dI) 7 11 (F7 n G) a H) (hB12 : ∀ n G a H, B 12 n G a H ↔ jOb (dC, dI) 12 11 (F12b n G) a H) (hB101 : ∀ n G a H, B 101 n G a H ↔ jAr (dC, dI) (ca 1) (fun j z => True) n a H) (hB211 : ∀ n G a H, B 211 n G a H ↔ jAq (dC, dI) (ca 7) (jQh) n G a H) (hB280 : ∀ n G a H, B 280 n G a H ↔ jAr (dC, dI) (ca 1) (fun j z => -1 ≤ z.toInt) n a H) (hB290 : ∀ n G a H, B 290 n G a H ↔ jAr (dC, dI) (ca 1) (fun j z => 0 ≤ z.toInt ∧ z.toInt ≤ 3000) n a H) (hB291 : ∀ n G a H, B 291 n G a H ↔ jAr (dC, dI) (ca 1) (fun j z => 0 ≤ z.toInt ∧ z.toInt ≤ 3000) n a H) (hB292 : ∀ n G a H, B 292 n G a H ↔ jAr (dC, dI) (ca 1) (fun j z => 0 ≤ z.toInt ∧ z.toInt ≤ 8191) n a H) (hB313 : ∀ n G a H, B 313 n G a H ↔ jAq (dC, dI) (ca 8) (jQk 280 80) n G a H) (hB315 : ∀ n G a H, B 315 n G a H ↔ jAqZ (dC, dI) (ca 8) n a H) (G0 : jT) (H0 : Heap) (r0 : Nat) (r1 : Nat) (r2 : Nat) (n1 : Nat) (n2 : Nat) (pf : Int32) (sy : Nat) (wd : Int32) (gx : Nat) (LC LS : Nat) : Met l yX5_act (jw yX5_act cX5_act 9 (some .int)) ({ frames := 5, cells := LC - H0.size, slots := LS - jTot H0, locals := 159 }) (va_Pc [.ref r0, .ref r1, .ref r2] (fun U => U.heap = H0 ∧ jX B base G0 [] H0 ∧ jG dC dI ca base U ∧ jK2 dC dI ca U ∧ jK5 dC dI ca U ∧ G0 r0 = some (7, 0) ∧ G0 r1 = some (5, n1) ∧ G0 r2 = some (280, n2) ∧ G0 sy = some (12, 0) ∧ jP (dC, dI) G0 H0 [(r0, 7, 10, .int pf), (r0, 7, 1, .ref sy), (sy, 12, 5, .int wd)] ∧ jIs (dC, dI) G0 H0 [(jFg, jFr dC dI ca G0 r0)] ∧ H0.size + 16 ≤ LC ∧ jTot H0 + (168 + 336 * gx) ≤ LS ∧ 0 ≤ pf.toInt ∧ pf.toInt ≤ 50 ∧ n1 % 10 = 1 ∧ n2 ≤ 80 ∧ (gx = 1 ∨ (wd.toInt ≠ 9 ∧ wd.toInt ≠ 11 ∧ wd.toInt ≠ 15)))) (va_Qi (S := Int32 × jT) (fun r u => (pf.toInt ≤ u.1.toInt ∧ u.1.toInt ≤ pf.toInt + 8)) (fun u t => jRa (dC, dI) B base G0 u.2 EX5_actS H0 (16) ((168 + 336 * gx)) [(r0, 7, 10, .int u.1)] t.heap ∧ (jNk [0, 1, 2, 3, 4, 6, 7, 8, 9, 10, 11, 12, 13, 14, 15, 16, 17, 175]) G0 u.2 ∧ jIs (dC, dI) u.2 t.heap [(jFg, jFr dC dI ca u.2 r0)]) (jA base)) (LC - H0.size) (LS - jTot H0) (jA base) := by
  refine Met.ofW (cc := cX5_act) (maxL := 9) (ret := (some .int)) (by decide) rfl ?_
  intro p e s m args below meth c s₁ Bd hml hv
  obtain ⟨rfl, hH0, hX, hG, hK2, hK5, hg_r0, hg_r1, hg_r2, hg_sy, hP0, hI0, hLC0, hLS0, hp0, hp1, hp2, hp3, hp4⟩ := hv
  have hK := hG.1
  have hx := Bd.exec
  have hb := Bd.bytes
  have hr := Bd.returns
  have hts := atoms_spec (ws := (jw yX5_act cX5_act 9 (some .int))) Bd.pre
  have htw : ∀ w ∈ jWl, w.before _ s = true := fun w h => hts w (List.mem_cons_of_mem _ h)
  have hown : s.vm.findClass RX5 = some m.cls := findClass_of_methodNamed Bd.named
  have hlocks := Bd.notSynchronized
  obtain ⟨Q, hQ⟩ : ∃ Q, Q = MQ below (va_Qi (S := Int32 × jT) (fun r u => (pf.toInt ≤ u.1.toInt ∧ u.1.toInt ≤ pf.toInt + 8)) (fun u t => jRa (dC, dI) B base G0 u.2 EX5_actS H0 (16) ((168 + 336 * gx)) [(r0, 7, 10, .int u.1)] t.heap ∧ (jNk [0, 1, 2, 3, 4, 6, 7, 8, 9, 10, 11, 12, 13, 14, 15, 16, 17, 175]) G0 u.2 ∧ jIs (dC, dI) u.2 t.heap [(jFg, jFr dC dI ca u.2 r0)]) (jA base)) ([.ref r0, .ref r1, .ref r2] : List Value).toArray s (LC - H0.size) (LS - jTot H0) (jA base) := ⟨_, rfl⟩
  rw [← hQ]
  have hl := lv_entry ([.ref r0, .ref r1, .ref r2]) (n := 9) (Nat.le_of_ble_eq_true rfl)
  rw [lg_entry_eq]
  generalize (lg_sl ([.ref r0, .ref r1, .ref r2]) ++ List.replicate (9 - (lg_sl ([.ref r0, .ref r1, .ref r2])).length) Slot.unset).toArray = ls at hl ⊢
  have hl : lv_has ls 9 [(0, .ref r0), (1, .ref r1), (2, .ref r2)] := hl
  generalize hR : (headSpec (jw yX5_act cX5_act 9 (some .int)) ({ frames := 5, cells := LC - H0.size, slots := LS - jTot H0, locals := 159 })).room = R
  subst hH0
  have hh : jSt (dC, dI) B base G0 G0 EX5_actS s.heap 0 0 [(r0, 7, 10, .int pf), (r0, 7, 1, .ref sy), (sy, 12, 5, .int wd)] [] [(jFg, jFr dC dI ca G0 r0)] s.heap [] := jSt.start hX hP0 jMc.nil hI0
  clear hX hP0
  have hkm1 : ((-1) : Int32).toInt = (-1) := by decide
  have hk0 : (0 : Int32).toInt = 0 := by decide
  have hk1 : (1 : Int32).toInt = 1 := by decide
  have hk2 : (2 : Int32).toInt = 2 := by decide
  have hk3 : (3 : Int32).toInt = 3 := by decide
  have hk4 : (4 : Int32).toInt = 4 := by decide
  have hk6 : (6 : Int32).toInt = 6 := by decide
  have hk8 : (8 : Int32).toInt = 8 := by decide
  have hk15 : (15 : Int32).toInt = 15 := by decide
  have hly_5_3 := htw (u_lay RX3 TX3 3) (jWc_wsX30 _ (u_in_lay (by decide)))
  have hly_7_1 := htw (u_lay RX5 TX5 1) (jWc_wsX50 _ (u_in_lay (by decide)))
  have hly_12_5 := htw (u_lay RX10 TX10 5) (jWc_wsX100 _ (u_in_lay (by decide)))
  have hly_12_9 := htw (u_lay RX10 TX10 9) (jWc_wsX100 _ (u_in_lay (by decide)))
  have hly_12_10 := htw (u_lay RX10 TX10 10) (jWc_wsX100 _ (u_in_lay (by decide)))
  have hlk_190 := (htw (.fieldLink RX5 190 "ProofServer$Goal" "formula" "[I") (jWr_84 _ (List.mem_of_getElem? (i := 15) rfl)))
  have hlk_23 := (htw (.fieldLink RX5 23 "ProofServer$Kernel" "syntax" "LProofServer$Syntax;") (jWr_4 _ (List.mem_of_getElem? (i := 15) rfl)))
  have hlk_74 := (htw (.fieldLink RX5 74 "ProofServer$Syntax" "word" "I") (jWr_78 _ (List.mem_of_getElem? (i := 19) rfl)))
  have hlk_121 := (htw (.fieldLink RX5 121 "ProofServer$Syntax" "nodes" "[I") (jWr_82 _ (List.mem_of_getElem? (i := 7) rfl)))
  have hlk_114 := (htw (.fieldLink RX5 114 "ProofServer$Syntax" "nodeCount" "I") (jWr_82 _ (List.mem_of_getElem? (i := 5) rfl)))
  have hbs : base ≤ s.heap.size := Nat.le_of_lt (Nat.lt_of_le_of_lt (hh.ab hg_r0).1 (hh.ab hg_r0).2)
  have hRc : R.cells = LC - s.heap.size := by rw [← hR]; rfl
  have hRs : R.slots = LS - jTot s.heap := by rw [← hR]; rfl
  refine lv_aload_n hx hb dX5_act_0 rfl (lv_at hl 1 rfl) ?_
  obtain ⟨v_1, hv_1, hh_2⟩ := hh.pin (C := RX3) (T := TX3) (N := 4) hB5 rfl (by decide) hg_r1 (i := 3) (by decide) rfl
  clear hh
  rcases hv_1 with ⟨rfl, hcv_1⟩ | ⟨formula_3, nformula_3, rfl, hg_formula_3, hn_formula_3, hcv_1, hdv_1⟩
  · exact absurd hcv_1 (by omega)
  refine j7_read hx hb hown hK (C := RX3) (T := TX3) (N := 4) rfl hly_5_3 hlk_190 (hh_2.at 0 rfl) dX5_act_1 ?_
  refine lv_astore_n (lv' := [(3, .ref formula_3), (0, .ref r0), (1, .ref r1), (2, .ref r2)]) hx hb dX5_act_4 rfl hl (by decide) rfl (fun ls hl => ?_)
  refine lv_aload_n hx hb dX5_act_5 rfl (lv_at hl 0 rfl) ?_
  refine j7_len hx hb hK hh_2 hB280 1 rfl (by decide) hg_formula_3 (by omega) dX5_act_6 (fun z_4 hz_4 => ?_)
  have C20 : ∀ (w0_5 : Int32) (H_5 : Heap) (locs_5 : List Loc), jSt (dC, dI) B base G0 G0 EX5_actS s.heap 0 0 [(r1, 5, 3, .ref formula_3), (r0, 7, 10, .int pf), (r0, 7, 1, .ref sy), (sy, 12, 5, .int wd)] [] [(jFg, jFr dC dI ca G0 r0)] H_5 locs_5 → (0 ≤ w0_5.toInt) → ∀ ls : Array Slot, lv_has ls 9 [(0, .ref r0), (1, .ref r1), (2, .ref r2), (3, .ref formula_3)] → W p l e R s m ([.ref r0, .ref r1, .ref r2] : List Value).toArray below meth c H_5 locs_5 0 0 Q (F0 m 20 ls [.int w0_5]) := by
    intro w0_5 H_5 locs_5 hh_5  hi_5 ls hl
    refine lv_istore (lv' := [(4, .int w0_5), (0, .ref r0), (1, .ref r1), (2, .ref r2), (3, .ref formula_3)]) hx hb dX5_act_20 hl (by decide) rfl (fun ls hl => ?_)
    refine lv_aload_n hx hb dX5_act_22 rfl (lv_at hl 4 rfl) ?_
    refine lv_iconst (v := 1) hx hb dX5_act_23 (by decide) ?_
    refine lv_aload_n hx hb dX5_act_24 rfl (lv_at hl 4 rfl) ?_
    refine j7_len hx hb hK hh_5 hB280 1 rfl (by decide) hg_formula_3 (by omega) dX5_act_25 (fun z_6 hz_6 => ?_)
    have hsz_7 := hh_5.2.2.2.2.2.1
    have htt_7 := hh_5.2.2.2.2.2.2.1
    refine W.room (fun hrc_7 hrs_7 => ?_)
    refine va_calli (A0 := jA base) (H0 := s.heap) (va_runSN (As := [.ref formula_3, .int 1, .int z_6]) (rest := []) ⟨hx, hb, hml, hown, hts⟩ (uX11_endOfB l dC dI ca base B hB hAp hB280 G0 H_5 formula_3 1 z_6 nformula_3) ⟨va_cnB 3 hts (jgW (jWr_32 _ (List.mem_of_getElem? (i := 4) rfl))) rfl rfl rfl (hG.2.2.1 RX5 183 yX11_endOf "ProofServer" (List.mem_of_getElem? (i := 1460) (by decide +kernel))) (htw (.initialized RX11) (jWr_1 _ (List.mem_of_getElem? (i := 2) rfl))) (by decide +kernel) ⟨by rw [← hR]; exact Nat.le_of_ble_eq_true rfl, by rw [← hR]; exact Nat.le_of_ble_eq_true rfl⟩, htw (.static yX11_endOf) (jWr_32 _ (List.mem_of_getElem? (i := 3) rfl)), trivial⟩ ⟨fun a U g mk q => by obtain ⟨q0, q1, q2, qK, q10, q11, q12⟩ := q; exact ⟨q0, q1, q2, jG.calling g mk a qK, q10, q11, q12⟩, fun U hU hW => ⟨rfl, hU, hh_5.2.1, hG.step hW hU hh_5.1, hg_formula_3, jP.nil, by first | omega | (refine ⟨?_, ?_, ?_⟩ <;> (first | omega | rfl | assumption | decide | exact Or.inl rfl | exact Or.inr rfl | (simp only; omega)))⟩⟩ rfl rfl hl.1 rfl (lv_room (Nat.le_of_ble_eq_true rfl)) dX5_act_26 ⟨by rw [hRc]; show _ + 0 ≤ _; omega, by rw [hRs]; show _ + 0 ≤ _; omega⟩) hh_5.1 (fun q _ h => h) (fun q h => h) (fun r_8 u_7 t_7 H_7 locs_7 ht_7 hvm_7 hr_8 hb_7 hz_7 hk_7 hS_7 => ?_)
    rw [ht_7] at hb_7
    obtain ⟨hb_71, hb_72, hb_73, hb_74, hb_75⟩ := hb_7
    have hh_7 : jSt (dC, dI) B base G0 G0 EX5_actS s.heap 0 0 [(r1, 5, 3, .ref formula_3), (r0, 7, 10, .int pf), (r0, 7, 1, .ref sy), (sy, 12, 5, .int wd)] [] [(jFg, jFr dC dI ca G0 r0)] H_7 locs_7 := ((hh_5.call hb_71 hb_72 hb_73 hb_74 hS_7 rfl (L1 := [(r1, 5, 3, .ref formula_3), (r0, 7, 10, .int pf), (r0, 7, 1, .ref sy), (sy, 12, 5, .int wd)]) [0, 1, 2, 3] rfl rfl (M1 := []) [] rfl rfl (I1 := [(jFg, jFr dC dI ca G0 r0)]) [0] rfl rfl).more hb_75)
    clear hh_5 ht_7 hvm_7 hz_7 hk_7 hS_7 hb_71 hb_72 hb_73 hb_74 hb_75
    obtain ⟨hr_8_0, hr_8_1⟩ := hr_8
    refine lv_istore (lv' := [(5, .int r_8), (4, .int w0_5), (0, .ref r0), (1, .ref r1), (2, .ref r2), (3, .ref formula_3)]) hx hb dX5_act_29 hl (by decide) rfl (fun ls hl => ?_)
    have hmd : 1 ≤ r_8.toInt ∧ r_8.toInt ≤ 81 := by omega
    refine lv_aload_n hx hb dX5_act_31 rfl (lv_at hl 2 rfl) ?_
    refine j7_read hx hb hown hK (C := RX5) (T := TX5) (N := 11) rfl hly_7_1 hlk_23 (hh_7.at 2 rfl) dX5_act_32 ?_
    refine j7_read hx hb hown hK (C := RX10) (T := TX10) (N := 11) rfl hly_12_5 hlk_74 (hh_7.at 3 rfl) dX5_act_35 ?_
    rcases (by omega : (wd.toInt < 9 ∨ 20 < wd.toInt) ∨ wd.toInt = 9 ∨ wd.toInt = 10 ∨ wd.toInt = 11 ∨ wd.toInt = 12 ∨ wd.toInt = 13 ∨ wd.toInt = 14 ∨ wd.toInt = 15 ∨ wd.toInt = 16 ∨ wd.toInt = 17 ∨ wd.toInt = 18 ∨ wd.toInt = 19 ∨ wd.toInt = 20) with c_9 | c_9 | c_9 | c_9 | c_9 | c_9 | c_9 | c_9 | c_9 | c_9 | c_9 | c_9 | c_9
    · refine lv_tableOut (tgt := 395) hx hb dX5_act_38 c_9 (by decide) ?_
      refine lv_aload_n hx hb dX5_act_395 rfl (lv_at hl 2 rfl) ?_
      refine lv_aload_n hx hb dX5_act_396 rfl (lv_at hl 3 rfl) ?_
      have hsz_10 := hh_7.2.2.2.2.2.1
      have htt_10 := hh_7.2.2.2.2.2.2.1
      refine W.room (fun hrc_10 hrs_10 => ?_)
      refine va_calli (A0 := jA base) (H0 := s.heap) (va_runV (As := [.ref r1]) (rest := []) ⟨hx, hb, hml, hown, hts⟩ (uX5_have l dC dI ca base B hB hAp hB5 hB7 hB12 hB101 hB211 hB280 hB292 hB313 G0 H_7 r0 r1 n1 pf LC LS) (cwV 1 hts (jgV (jWr_88 _ (List.mem_of_getElem? (i := 16) rfl)) (jWr_88 _ (List.mem_of_getElem? (i := 17) rfl)) (jWr_88 _ (List.mem_of_getElem? (i := 18) rfl)) (jWr_2 _ (List.mem_of_getElem? (i := 4) rfl)) (jWr_88 _ (List.mem_of_getElem? (i := 19) rfl))) rfl rfl rfl (by decide +kernel) ⟨by rw [← hR]; exact Nat.le_of_ble_eq_true rfl, by rw [← hR]; exact Nat.le_of_ble_eq_true rfl⟩) ⟨fun a U g mk q => by obtain ⟨q0, q1, q2, qK, q10, q11, q12, q13, q14, q15, q16⟩ := q; exact ⟨q0, q1, q2, jG.calling g mk a qK, (va_K.moved (Vm.Alike.refl U.vm) q10), (jK5.moved (Vm.Alike.refl U.vm) q11), q12, q13, q14, q15, q16⟩, hh_7.recv (C := RX5) (T := TX5) (N := 11) hB7 rfl (by decide) hg_r0 hK, fun U hU hW => ⟨rfl, hU, hh_7.2.1, hG.step hW hU hh_7.1, va_K.moved hW.alike hK2, jK5.moved hW.alike hK5, hg_r0, hg_r1, (hh_7.2.2.1.sub (L1 := [(r0, 7, 10, .int pf)]) [1] rfl), (hh_7.2.2.2.2.2.2.2.2.sub (L1 := [(jFg, jFr dC dI ca G0 r0)]) [0] rfl), by first | omega | (refine ⟨?_, ?_, ?_⟩ <;> (first | omega | rfl | assumption | decide | exact Or.inl rfl | exact Or.inr rfl | (simp only; omega)))⟩⟩ rfl rfl hl.1 rfl (lv_room (Nat.le_of_ble_eq_true rfl)) dX5_act_397 ⟨by rw [hRc]; omega, by rw [hRs]; omega⟩) hh_7.1 (fun q _ h => h) (fun q h => h) (fun r_11 u_10 t_10 H_10 locs_10 ht_10 hvm_10 hr_11 hb_10 hz_10 hk_10 hS_10 => ?_)
      obtain ⟨qf_10, G_10⟩ := u_10
      rw [ht_10] at hb_10
      simp only at hb_10
      obtain ⟨⟨hb_101, hb_102, hb_103, hb_104, hb_105, hb_106⟩, hN_10, hbE_10⟩ := hb_10
      have hh_10 : jSt (dC, dI) B base G0 G_10 EX5_actS s.heap (0 + (5)) (0 + (150)) [(r0, 7, 10, .int qf_10), (r1, 5, 3, .ref formula_3), (r0, 7, 1, .ref sy), (sy, 12, 5, .int wd)] [] [] H_10 locs_10 := (hh_7.callG hb_101 hb_102 hb_103 hb_104 hb_105 hS_10 rfl (L1 := [(r1, 5, 3, .ref formula_3), (r0, 7, 1, .ref sy), (sy, 12, 5, .int wd)]) [0, 2, 3] rfl rfl (M1 := []) [] rfl rfl (I1 := []) [] rfl rfl).more hb_106
      have hNn_10 : (jNk [0, 1, 2, 3, 4, 6, 7, 8, 9, 10, 11, 12, 13, 14, 15, 16, 17, 175]) G0 G_10 := (jNk.rf).tr hN_10
      have hg_12 := hb_102 _ _ hg_r0
      have hg_13 := hb_102 _ _ hg_r1
      have hg_14 := hb_102 _ _ hg_r2
      have hg_15 := hb_102 _ _ hg_formula_3
      have hg_16 := hb_102 _ _ hg_sy
      have hh_17 := hh_10.addIs hbE_10
      try simp only at hr_11
      obtain ⟨hr_11_0, hr_11_1⟩ := hr_11
      have hsz_18 := hh_17.2.2.2.2.2.1
      have htt_18 := hh_17.2.2.2.2.2.2.1
      refine W.room (fun hrc_18 hrs_18 => ?_)
      refine W.widen (k := LC - s.heap.size) (n := LS - jTot s.heap) (by omega) (by omega) ?_
      rw [hQ]
      exact W.iret (v := r_11) hx hb hr (fun t ht hW => ⟨⟨r_11, (qf_10, G_10), rfl, by (try dsimp only); exact ⟨(by first | omega | rfl | assumption | fail), (by first | omega | rfl | assumption | fail)⟩, ⟨hh_17.ra (by first | omega | (simp only; omega)) (by first | omega | (simp only; omega)) (M1 := [(r0, 7, 10, .int qf_10)]) [0] rfl ht, hNn_10, by rw [ht]; exact hh_17.2.2.2.2.2.2.2.2.sub (L1 := [(jFg, jFr dC dI ca G_10 r0)]) [0] rfl⟩⟩, by rw [ht]; try exact hh_17.1.1, fun q h9 hq => by rw [ht]; try exact hh_17.1.2.1 q h9 hq⟩) hh_17.1.2.2 dX5_act_400
    · refine lv_tableIn (off := 62) (tgt := 100) hx hb dX5_act_38 (by omega) (by omega) (by rw [c_9]; rfl) (by decide) ?_
      refine lv_aload_n hx hb dX5_act_100 rfl (lv_at hl 2 rfl) ?_
      refine lv_aload_n hx hb dX5_act_101 rfl (lv_at hl 3 rfl) ?_
      refine lv_iload hx hb dX5_act_102 (lv_at hl 1 rfl) ?_
      refine lv_iload hx hb dX5_act_104 (lv_at hl 0 rfl) ?_
      have hsz_19 := hh_7.2.2.2.2.2.1
      have htt_19 := hh_7.2.2.2.2.2.2.1
      refine W.room (fun hrc_19 hrs_19 => ?_)
      refine va_calli (A0 := jA base) (H0 := s.heap) (va_runV (As := [.ref r1, .int w0_5, .int r_8]) (rest := []) ⟨hx, hb, hml, hown, hts⟩ (uX5_intro l dC dI ca base B hB hAp hB5 hB7 hB12 hB101 hB211 hB280 hB290 hB291 hB292 hB313 G0 H_7 r0 r1 w0_5 r_8 n1 pf LC LS) (cwV 3 hts (jgV (jWr_84 _ (List.mem_of_getElem? (i := 16) rfl)) (jWr_84 _ (List.mem_of_getElem? (i := 17) rfl)) (jWr_84 _ (List.mem_of_getElem? (i := 18) rfl)) (jWr_2 _ (List.mem_of_getElem? (i := 4) rfl)) (jWr_84 _ (List.mem_of_getElem? (i := 19) rfl))) rfl rfl rfl (by decide +kernel) ⟨by rw [← hR]; exact Nat.le_of_ble_eq_true rfl, by rw [← hR]; exact Nat.le_of_ble_eq_true rfl⟩) ⟨fun a U g mk q => by obtain ⟨q0, q1, q2, qK, q10, q11, q12, q13, q14, q15, q16⟩ := q; exact ⟨q0, q1, q2, jG.calling g mk a qK, (va_K.moved (Vm.Alike.refl U.vm) q10), (jK5.moved (Vm.Alike.refl U.vm) q11), q12, q13, q14, q15, q16⟩, hh_7.recv (C := RX5) (T := TX5) (N := 11) hB7 rfl (by decide) hg_r0 hK, fun U hU hW => ⟨rfl, hU, hh_7.2.1, hG.step hW hU hh_7.1, va_K.moved hW.alike hK2, jK5.moved hW.alike hK5, hg_r0, hg_r1, (hh_7.2.2.1.sub (L1 := [(r0, 7, 10, .int pf)]) [1] rfl), (hh_7.2.2.2.2.2.2.2.2.sub (L1 := [(jFg, jFr dC dI ca G0 r0)]) [0] rfl), by first | omega | (refine ⟨?_, ?_, ?_, ?_⟩ <;> (first | omega | rfl | assumption | decide | exact Or.inl rfl | exact Or.inr rfl | (simp only; omega)))⟩⟩ rfl rfl hl.1 rfl (lv_room (Nat.le_of_ble_eq_true rfl)) dX5_act_106 ⟨by rw [hRc]; omega, by rw [hRs]; omega⟩) hh_7.1 (fun q _ h => h) (fun q h => h) (fun r_20 u_19 t_19 H_19 locs_19 ht_19 hvm_19 hr_20 hb_19 hz_19 hk_19 hS_19 => ?_)
      obtain ⟨qf_19, G_19⟩ := u_19
      rw [ht_19] at hb_19
      simp only at hb_19
      obtain ⟨⟨hb_191, hb_192, hb_193, hb_194, hb_195, hb_196⟩, hN_19, hbE_19⟩ := hb_19
      have hh_19 : jSt (dC, dI) B base G0 G_19 EX5_actS s.heap (0 + (6)) (0 + (200)) [(r0, 7, 10, .int qf_19), (r1, 5, 3, .ref formula_3), (r0, 7, 1, .ref sy), (sy, 12, 5, .int wd)] [] [] H_19 locs_19 := (hh_7.callG hb_191 hb_192 hb_193 hb_194 hb_195 hS_19 rfl (L1 := [(r1, 5, 3, .ref formula_3), (r0, 7, 1, .ref sy), (sy, 12, 5, .int wd)]) [0, 2, 3] rfl rfl (M1 := []) [] rfl rfl (I1 := []) [] rfl rfl).more hb_196
      have hNn_19 : (jNk [0, 1, 2, 3, 4, 6, 7, 8, 9, 10, 11, 12, 13, 14, 15, 16, 17, 175]) G0 G_19 := (jNk.rf).tr hN_19
      have hg_21 := hb_192 _ _ hg_r0
      have hg_22 := hb_192 _ _ hg_r1
      have hg_23 := hb_192 _ _ hg_r2
      have hg_24 := hb_192 _ _ hg_formula_3
      have hg_25 := hb_192 _ _ hg_sy
      have hh_26 := hh_19.addIs hbE_19
      try simp only at hr_20
      obtain ⟨hr_20_0, hr_20_1⟩ := hr_20
      have hsz_27 := hh_26.2.2.2.2.2.1
      have htt_27 := hh_26.2.2.2.2.2.2.1
      refine W.room (fun hrc_27 hrs_27 => ?_)
      refine W.widen (k := LC - s.heap.size) (n := LS - jTot s.heap) (by omega) (by omega) ?_
      rw [hQ]
      exact W.iret (v := r_20) hx hb hr (fun t ht hW => ⟨⟨r_20, (qf_19, G_19), rfl, by (try dsimp only); exact ⟨(by first | omega | rfl | assumption | fail), (by first | omega | rfl | assumption | fail)⟩, ⟨hh_26.ra (by first | omega | (simp only; omega)) (by first | omega | (simp only; omega)) (M1 := [(r0, 7, 10, .int qf_19)]) [0] rfl ht, hNn_19, by rw [ht]; exact hh_26.2.2.2.2.2.2.2.2.sub (L1 := [(jFg, jFr dC dI ca G_19 r0)]) [0] rfl⟩⟩, by rw [ht]; try exact hh_26.1.1, fun q h9 hq => by rw [ht]; try exact hh_26.1.2.1 q h9 hq⟩) hh_26.1.2.2 dX5_act_109
    · refine lv_tableIn (off := 72) (tgt := 110) hx hb dX5_act_38 (by omega) (by omega) (by rw [c_9]; rfl) (by decide) ?_
      refine lv_aload_n hx hb dX5_act_110 rfl (lv_at hl 4 rfl) ?_
      refine lv_ifnull hx hb dX5_act_111 ?_
      refine lv_aload_n hx hb dX5_act_114 rfl (lv_at hl 4 rfl) ?_
      refine lv_aload_n hx hb dX5_act_115 rfl (lv_at hl 5 rfl) ?_
      have hsz_28 := hh_7.2.2.2.2.2.1
      have htt_28 := hh_7.2.2.2.2.2.2.1
      refine W.room (fun hrc_28 hrs_28 => ?_)
      refine va_calli (A0 := jA base) (H0 := s.heap) (va_runS (As := [.ref r2, .ref formula_3]) (rest := []) ⟨hx, hb, hml, hown, hts⟩ (uX5_areSameB l dC dI ca base B hB hAp hB280 G0 H_7 r2 formula_3 n2 nformula_3) (va_cwS 2 hts (jgS (jWr_86 _ (List.mem_of_getElem? (i := 6) rfl)) (jWr_86 _ (List.mem_of_getElem? (i := 7) rfl)) (jWr_2 _ (List.mem_of_getElem? (i := 4) rfl)) (jWr_86 _ (List.mem_of_getElem? (i := 8) rfl))) rfl rfl rfl (by decide +kernel) ⟨by rw [← hR]; exact Nat.le_of_ble_eq_true rfl, by rw [← hR]; exact Nat.le_of_ble_eq_true rfl⟩) ⟨fun a U g mk q => by obtain ⟨q0, q1, q2, qK, q10, q11, q12, q13⟩ := q; exact ⟨q0, q1, q2, jG.calling g mk a qK, q10, q11, q12, q13⟩, fun U hU hW => ⟨rfl, hU, hh_7.2.1, hG.step hW hU hh_7.1, hg_r2, hg_formula_3, jP.nil, by first | omega | (refine ⟨?_, ?_⟩ <;> (first | omega | rfl | assumption | decide | exact Or.inl rfl | exact Or.inr rfl | (simp only; omega)))⟩⟩ rfl rfl hl.1 rfl (lv_room (Nat.le_of_ble_eq_true rfl)) dX5_act_116 ⟨by rw [hRc]; show _ + 0 ≤ _; omega, by rw [hRs]; show _ + 0 ≤ _; omega⟩) hh_7.1 (fun q _ h => h) (fun q h => h) (fun r_29 u_28 t_28 H_28 locs_28 ht_28 hvm_28 hr_29 hb_28 hz_28 hk_28 hS_28 => ?_)
      rw [ht_28] at hb_28
      obtain ⟨hb_281, hb_282, hb_283, hb_284, hb_285⟩ := hb_28
      have hh_28 : jSt (dC, dI) B base G0 G0 EX5_actS s.heap 0 0 [(r1, 5, 3, .ref formula_3), (r0, 7, 10, .int pf), (r0, 7, 1, .ref sy), (sy, 12, 5, .int wd)] [] [(jFg, jFr dC dI ca G0 r0)] H_28 locs_28 := ((hh_7.call hb_281 hb_282 hb_283 hb_284 hS_28 rfl (L1 := [(r1, 5, 3, .ref formula_3), (r0, 7, 10, .int pf), (r0, 7, 1, .ref sy), (sy, 12, 5, .int wd)]) [0, 1, 2, 3] rfl rfl (M1 := []) [] rfl rfl (I1 := [(jFg, jFr dC dI ca G0 r0)]) [0] rfl rfl).more hb_285)
      clear hh_7 ht_28 hvm_28 hz_28 hk_28 hS_28 hb_281 hb_282 hb_283 hb_284 hb_285
      obtain ⟨hr_29b, hr_29p⟩ := hr_29
      have hr_29' := jb_01 hr_29b
      refine lv_if_eq (tgt := 126) hx hb dX5_act_119 (by decide) (fun c_30 => ?_) (fun c_30 => ?_)
      · skip
        have c_30' : r_29.toInt = 0 := jb_eq (rfl) ((by decide)) c_30
        refine lv_bipush (v := 8) hx hb dX5_act_126 (by decide) ?_
        have hsz_31 := hh_28.2.2.2.2.2.1
        have htt_31 := hh_28.2.2.2.2.2.2.1
        refine W.room (fun hrc_31 hrs_31 => ?_)
        refine W.widen (k := LC - s.heap.size) (n := LS - jTot s.heap) (by omega) (by omega) ?_
        rw [hQ]
        exact W.iret (v := 8) hx hb hr (fun t ht hW => ⟨⟨8, (pf, G0), rfl, by (try dsimp only); exact ⟨(by first | omega | rfl | assumption | fail), (by first | omega | rfl | assumption | fail)⟩, ⟨hh_28.ra (by first | omega | (simp only; omega)) (by first | omega | (simp only; omega)) (M1 := [(r0, 7, 10, .int pf)]) [1] rfl ht, jNk.rf, by rw [ht]; exact hh_28.2.2.2.2.2.2.2.2.sub (L1 := [(jFg, jFr dC dI ca G0 r0)]) [0] rfl⟩⟩, by rw [ht]; try exact hh_28.1.1, fun q h9 hq => by rw [ht]; try exact hh_28.1.2.1 q h9 hq⟩) hh_28.1.2.2 dX5_act_128
      · skip
        have c_30' : r_29.toInt ≠ 0 := jb_eq_n (rfl) ((by decide)) c_30
        refine lv_iconst (v := 0) hx hb dX5_act_122 (by decide) ?_
        refine lv_goto (tgt := 128) hx hb dX5_act_123 (by decide) ?_
        have hsz_32 := hh_28.2.2.2.2.2.1
        have htt_32 := hh_28.2.2.2.2.2.2.1
        refine W.room (fun hrc_32 hrs_32 => ?_)
        refine W.widen (k := LC - s.heap.size) (n := LS - jTot s.heap) (by omega) (by omega) ?_
        rw [hQ]
        exact W.iret (v := 0) hx hb hr (fun t ht hW => ⟨⟨0, (pf, G0), rfl, by (try dsimp only); exact ⟨(by first | omega | rfl | assumption | fail), (by first | omega | rfl | assumption | fail)⟩, ⟨hh_28.ra (by first | omega | (simp only; omega)) (by first | omega | (simp only; omega)) (M1 := [(r0, 7, 10, .int pf)]) [1] rfl ht, jNk.rf, by rw [ht]; exact hh_28.2.2.2.2.2.2.2.2.sub (L1 := [(jFg, jFr dC dI ca G0 r0)]) [0] rfl⟩⟩, by rw [ht]; try exact hh_28.1.1, fun q h9 hq => by rw [ht]; try exact hh_28.1.2.1 q h9 hq⟩) hh_28.1.2.2 dX5_act_128
    · refine lv_tableIn (off := 91) (tgt := 129) hx hb dX5_act_38 (by omega) (by omega) (by rw [c_9]; rfl) (by decide) ?_
      refine lv_aload_n hx hb dX5_act_129 rfl (lv_at hl 4 rfl) ?_
      refine lv_ifnonnull (tgt := 137) hx hb dX5_act_130 (by decide) ?_
      refine lv_aload_n hx hb dX5_act_137 rfl (lv_at hl 2 rfl) ?_
      refine lv_aload_n hx hb dX5_act_138 rfl (lv_at hl 4 rfl) ?_
      refine lv_aload_n hx hb dX5_act_139 rfl (lv_at hl 5 rfl) ?_
      obtain ⟨v_35, hv_35, hh_36⟩ := hh_7.pin (C := RX5) (T := TX5) (N := 11) hB7 rfl (by decide) hg_r0 (i := 6) (by decide) rfl
      obtain ⟨termFrom_37, rfl, hg_termFrom_37⟩ := hv_35
      obtain ⟨v_38, hv_38, hh_39⟩ := hh_36.pin (C := RX5) (T := TX5) (N := 11) hB7 rfl (by decide) hg_r0 (i := 7) (by decide) rfl
      obtain ⟨termSize_40, rfl, hg_termSize_40⟩ := hv_38
      obtain ⟨f_ff_41, hh_41⟩ := hh_39.cpin hB280 (by decide) (by decide) hg_r2
      clear hh_39
      obtain ⟨f_fx_42, hh_42⟩ := hh_41.cpin hB290 (by decide) (by decide) hg_termFrom_37
      clear hh_41
      obtain ⟨f_ft_43, hh_43⟩ := hh_42.cpin hB291 (by decide) (by decide) hg_termSize_40
      clear hh_42
      have hsz_33 := hh_43.2.2.2.2.2.1
      have htt_33 := hh_43.2.2.2.2.2.2.1
      refine W.room (fun hrc_33 hrs_33 => ?_)
      refine va_calli (A0 := jA base) (H0 := s.heap) (va_runV (As := [.ref r2, .ref formula_3]) (rest := []) ⟨hx, hb, hml, hown, hts⟩ (uX5_premisesFor l dC dI ca base B hB hAp hB7 hB101 hB280 hB290 hB291 G0 H_7 r0 r2 formula_3 n2 nformula_3 termFrom_37 termSize_40 f_ff_41 f_fx_42 f_ft_43) (cwV 2 hts (jgV (jWr_86 _ (List.mem_of_getElem? (i := 12) rfl)) (jWr_86 _ (List.mem_of_getElem? (i := 13) rfl)) (jWr_86 _ (List.mem_of_getElem? (i := 14) rfl)) (jWr_2 _ (List.mem_of_getElem? (i := 4) rfl)) (jWr_86 _ (List.mem_of_getElem? (i := 15) rfl))) rfl rfl rfl (by decide +kernel) ⟨by rw [← hR]; exact Nat.le_of_ble_eq_true rfl, by rw [← hR]; exact Nat.le_of_ble_eq_true rfl⟩) ⟨fun a U g mk q => by obtain ⟨q0, q1, q2, qK, q10, q11, q12, q13, q14, q15, q16, q17⟩ := q; exact ⟨q0, q1, q2, jG.calling g mk a qK, q10, q11, q12, q13, q14, q15, q16, q17⟩, hh_43.recv (C := RX5) (T := TX5) (N := 11) hB7 rfl (by decide) hg_r0 hK, fun U hU hW => ⟨rfl, hU, hh_43.2.1, hG.step hW hU hh_43.1, hg_r0, hg_r2, hg_formula_3, hg_termFrom_37, hg_termSize_40, (hh_43.2.2.1.sub (L1 := [(r0, 7, 6, .ref termFrom_37), (r0, 7, 7, .ref termSize_40)]) [1, 0] rfl), (hh_43.2.2.2.2.2.2.2.1.sub (L1 := [(r2, 280, n2, ca 1, f_ff_41), (termFrom_37, 290, 13, ca 1, f_fx_42), (termSize_40, 291, 13, ca 1, f_ft_43)]) [2, 1, 0] rfl), by first | omega | (refine ⟨?_, ?_⟩ <;> (first | omega | rfl | assumption | decide | exact Or.inl rfl | exact Or.inr rfl | (simp only; omega)))⟩⟩ rfl rfl hl.1 rfl (lv_room (Nat.le_of_ble_eq_true rfl)) dX5_act_140 ⟨by rw [hRc]; show _ + 0 ≤ _; omega, by rw [hRs]; show _ + 0 ≤ _; omega⟩) hh_43.1 (fun q _ h => h) (fun q h => h) (fun r_34 u_33 t_33 H_33 locs_33 ht_33 hvm_33 hr_34 hb_33 hz_33 hk_33 hS_33 => ?_)
      obtain ⟨fx2_33, ft2_33, qs_33, m_qs_33⟩ := u_33
      rw [ht_33] at hb_33
      obtain ⟨hb_33, hgp_33_0⟩ := hb_33
      obtain ⟨⟨hb_331, hb_332, hb_333, hb_334, hb_335⟩, hb_336⟩ := hb_33
      have hh_33 : jSt (dC, dI) B base G0 G0 EX5_actS s.heap 0 0 [(r0, 7, 5, .ref qs_33), (r0, 7, 7, .ref termSize_40), (r0, 7, 6, .ref termFrom_37), (r1, 5, 3, .ref formula_3), (r0, 7, 10, .int pf), (r0, 7, 1, .ref sy), (sy, 12, 5, .int wd)] [(termFrom_37, 290, 13, ca 1, fx2_33), (termSize_40, 291, 13, ca 1, ft2_33), (r2, 280, n2, ca 1, f_ff_41)] [(jFg, jFr dC dI ca G0 r0)] H_33 locs_33 := ((hh_43.call hb_331 hb_332 hb_333 hb_334 hS_33 rfl (L1 := [(r0, 7, 7, .ref termSize_40), (r0, 7, 6, .ref termFrom_37), (r1, 5, 3, .ref formula_3), (r0, 7, 10, .int pf), (r0, 7, 1, .ref sy), (sy, 12, 5, .int wd)]) [0, 1, 2, 3, 4, 5] rfl rfl (M1 := [(r2, 280, n2, ca 1, f_ff_41)]) [2] rfl rfl (I1 := [(jFg, jFr dC dI ca G0 r0)]) [0] rfl rfl).more hb_335).moreM hb_336
      clear hh_43 ht_33 hvm_33 hz_33 hk_33 hS_33 hb_331 hb_332 hb_333 hb_334 hb_335
      clear hb_336
      try simp only at hr_34
      obtain ⟨hr_34_0, hr_34_1, hr_34_2, hr_34_3⟩ := hr_34
      refine lv_istore (lv' := [(6, .int r_34), (5, .int r_8), (4, .int w0_5), (0, .ref r0), (1, .ref r1), (2, .ref r2), (3, .ref formula_3)]) hx hb dX5_act_143 hl (by decide) rfl (fun ls hl => ?_)
      refine lv_iload hx hb dX5_act_145 (lv_at hl 0 rfl) ?_
      refine lv_if_ge (tgt := 155) hx hb dX5_act_147 (by decide) (fun c_44 => ?_) (fun c_44 => ?_)
      · skip
        have c_44' : r_34.toInt ≥ 0 := jb_ge (rfl) ((by decide)) c_44
        refine lv_aload_n hx hb dX5_act_155 rfl (lv_at hl 3 rfl) ?_
        refine lv_aload_n hx hb dX5_act_156 rfl (lv_at hl 4 rfl) ?_
        refine lv_aload_n hx hb dX5_act_157 rfl (lv_at hl 5 rfl) ?_
        refine lv_iload hx hb dX5_act_158 (lv_at hl 0 rfl) ?_
        have hsz_45 := hh_33.2.2.2.2.2.1
        have htt_45 := hh_33.2.2.2.2.2.2.1
        refine W.room (fun hrc_45 hrs_45 => ?_)
        refine va_calli (A0 := jA base) (H0 := s.heap) (va_runV (As := [.ref r1, .ref r2, .int r_34]) (rest := []) ⟨hx, hb, hml, hown, hts⟩ (uX5_addPremises l dC dI ca base B hB hAp hB5 hB7 hB101 hB211 hB280 hB290 hB291 hB313 G0 H_33 r0 r1 r2 r_34 n1 n2 qs_33 m_qs_33 termFrom_37 termSize_40 pf f_ff_41 fx2_33 ft2_33 LC LS) (cwV 3 hts (jgV (jWr_87 _ (List.mem_of_getElem? (i := 6) rfl)) (jWr_87 _ (List.mem_of_getElem? (i := 7) rfl)) (jWr_87 _ (List.mem_of_getElem? (i := 8) rfl)) (jWr_2 _ (List.mem_of_getElem? (i := 4) rfl)) (jWr_87 _ (List.mem_of_getElem? (i := 9) rfl))) rfl rfl rfl (by decide +kernel) ⟨by rw [← hR]; exact Nat.le_of_ble_eq_true rfl, by rw [← hR]; exact Nat.le_of_ble_eq_true rfl⟩) ⟨fun a U g mk q => by obtain ⟨q0, q1, q2, qK, q10, q11, q12, q13, q14, q15, q16, q17, q18, q19, q20⟩ := q; exact ⟨q0, q1, q2, jG.calling g mk a qK, (va_K.moved (Vm.Alike.refl U.vm) q10), q11, q12, q13, q14, q15, q16, q17, q18, q19, q20⟩, hh_33.recv (C := RX5) (T := TX5) (N := 11) hB7 rfl (by decide) hg_r0 hK, fun U hU hW => ⟨rfl, hU, hh_33.2.1, hG.step hW hU hh_33.1, va_K.moved hW.alike hK2, hg_r0, hg_r1, hg_r2, hgp_33_0, hg_termFrom_37, hg_termSize_40, (hh_33.2.2.1.sub (L1 := [(r0, 7, 5, .ref qs_33), (r0, 7, 6, .ref termFrom_37), (r0, 7, 7, .ref termSize_40), (r0, 7, 10, .int pf)]) [0, 2, 1, 4] rfl), (hh_33.2.2.2.2.2.2.2.1.sub (L1 := [(r2, 280, n2, ca 1, f_ff_41), (termFrom_37, 290, 13, ca 1, fx2_33), (termSize_40, 291, 13, ca 1, ft2_33)]) [2, 0, 1] rfl), (hh_33.2.2.2.2.2.2.2.2.sub (L1 := [(jFg, jFr dC dI ca G0 r0)]) [0] rfl), (by omega), (by omega), ⟨(by first | assumption | exact hr_34_3 (by omega) | omega), (by first | omega | rfl | assumption | exact hr_34_3 (by omega)), (by first | omega | rfl | assumption | exact hr_34_3 (by omega)), (by first | omega | rfl | assumption | exact hr_34_3 (by omega)), (by first | omega | rfl | assumption | exact hr_34_3 (by omega)), (by first | omega | rfl | assumption | exact hr_34_3 (by omega))⟩⟩⟩ rfl rfl hl.1 rfl (lv_room (Nat.le_of_ble_eq_true rfl)) dX5_act_160 ⟨by rw [hRc]; omega, by rw [hRs]; omega⟩) hh_33.1 (fun q _ h => h) (fun q h => h) (fun r_46 u_45 t_45 H_45 locs_45 ht_45 hvm_45 hr_46 hb_45 hz_45 hk_45 hS_45 => ?_)
        obtain ⟨qf_45, G_45⟩ := u_45
        rw [ht_45] at hb_45
        simp only at hb_45
        obtain ⟨⟨hb_451, hb_452, hb_453, hb_454, hb_455, hb_456⟩, hN_45, hbE_45⟩ := hb_45
        have hh_45 : jSt (dC, dI) B base G0 G_45 EX5_actS s.heap (0 + (12)) (0 + (504)) [(r0, 7, 10, .int qf_45), (r0, 7, 5, .ref qs_33), (r0, 7, 7, .ref termSize_40), (r0, 7, 6, .ref termFrom_37), (r1, 5, 3, .ref formula_3), (r0, 7, 1, .ref sy), (sy, 12, 5, .int wd)] [(termFrom_37, 290, 13, ca 1, fx2_33), (termSize_40, 291, 13, ca 1, ft2_33), (r2, 280, n2, ca 1, f_ff_41)] [] H_45 locs_45 := (hh_33.callG hb_451 hb_452 hb_453 hb_454 hb_455 hS_45 rfl (L1 := [(r0, 7, 5, .ref qs_33), (r0, 7, 7, .ref termSize_40), (r0, 7, 6, .ref termFrom_37), (r1, 5, 3, .ref formula_3), (r0, 7, 1, .ref sy), (sy, 12, 5, .int wd)]) [0, 1, 2, 3, 5, 6] rfl rfl (M1 := [(termFrom_37, 290, 13, ca 1, fx2_33), (termSize_40, 291, 13, ca 1, ft2_33), (r2, 280, n2, ca 1, f_ff_41)]) [0, 1, 2] rfl rfl (I1 := []) [] rfl rfl).more hb_456
        have hNn_45 : (jNk [0, 1, 2, 3, 4, 6, 7, 8, 9, 10, 11, 12, 13, 14, 15, 16, 17, 175]) G0 G_45 := (jNk.rf).tr hN_45
        have hg_47 := hb_452 _ _ hg_r0
        have hg_48 := hb_452 _ _ hg_r1
        have hg_49 := hb_452 _ _ hg_r2
        have hg_50 := hb_452 _ _ hg_formula_3
        have hg_51 := hb_452 _ _ hgp_33_0
        have hg_52 := hb_452 _ _ hg_termSize_40
        have hg_53 := hb_452 _ _ hg_termFrom_37
        have hg_54 := hb_452 _ _ hg_sy
        have hh_55 := hh_45.addIs hbE_45
        try simp only at hr_46
        obtain ⟨hr_46_0, hr_46_1⟩ := hr_46
        have hsz_56 := hh_55.2.2.2.2.2.1
        have htt_56 := hh_55.2.2.2.2.2.2.1
        refine W.room (fun hrc_56 hrs_56 => ?_)
        refine W.widen (k := LC - s.heap.size) (n := LS - jTot s.heap) (by omega) (by omega) ?_
        rw [hQ]
        exact W.iret (v := r_46) hx hb hr (fun t ht hW => ⟨⟨r_46, (qf_45, G_45), rfl, by (try dsimp only); exact ⟨(by first | omega | rfl | assumption | fail), (by first | omega | rfl | assumption | fail)⟩, ⟨hh_55.ra (by first | omega | (simp only; omega)) (by first | omega | (simp only; omega)) (M1 := [(r0, 7, 10, .int qf_45)]) [0] rfl ht, hNn_45, by rw [ht]; exact hh_55.2.2.2.2.2.2.2.2.sub (L1 := [(jFg, jFr dC dI ca G_45 r0)]) [0] rfl⟩⟩, by rw [ht]; try exact hh_55.1.1, fun q h9 hq => by rw [ht]; try exact hh_55.1.2.1 q h9 hq⟩) hh_55.1.2.2 dX5_act_163
      · skip
        have c_44' : r_34.toInt < 0 := jb_ge_n (rfl) ((by decide)) c_44
        refine lv_bipush (v := 8) hx hb dX5_act_150 (by decide) ?_
        refine lv_goto (tgt := 163) hx hb dX5_act_152 (by decide) ?_
        have hsz_57 := hh_33.2.2.2.2.2.1
        have htt_57 := hh_33.2.2.2.2.2.2.1
        refine W.room (fun hrc_57 hrs_57 => ?_)
        refine W.widen (k := LC - s.heap.size) (n := LS - jTot s.heap) (by omega) (by omega) ?_
        rw [hQ]
        exact W.iret (v := 8) hx hb hr (fun t ht hW => ⟨⟨8, (pf, G0), rfl, by (try dsimp only); exact ⟨(by first | omega | rfl | assumption | fail), (by first | omega | rfl | assumption | fail)⟩, ⟨hh_33.ra (by first | omega | (simp only; omega)) (by first | omega | (simp only; omega)) (M1 := [(r0, 7, 10, .int pf)]) [4] rfl ht, jNk.rf, by rw [ht]; exact hh_33.2.2.2.2.2.2.2.2.sub (L1 := [(jFg, jFr dC dI ca G0 r0)]) [0] rfl⟩⟩, by rw [ht]; try exact hh_33.1.1, fun q h9 hq => by rw [ht]; try exact hh_33.1.2.1 q h9 hq⟩) hh_33.1.2.2 dX5_act_163
    · refine lv_tableIn (off := 126) (tgt := 164) hx hb dX5_act_38 (by omega) (by omega) (by rw [c_9]; rfl) (by decide) ?_
      refine lv_aload_n hx hb dX5_act_164 rfl (lv_at hl 2 rfl) ?_
      refine lv_aload_n hx hb dX5_act_165 rfl (lv_at hl 3 rfl) ?_
      refine lv_iload hx hb dX5_act_166 (lv_at hl 1 rfl) ?_
      refine lv_iconst (v := 2) hx hb dX5_act_168 (by decide) ?_
      refine lv_icmp_ne (tgt := 176) hx hb dX5_act_169 (by decide) (fun c_58 => ?_) (fun c_58 => ?_)
      · skip
        have c_58' : w0_5.toInt ≠ 2 := jb_ne (rfl) ((by decide)) c_58
        refine lv_iconst (v := 0) hx hb dX5_act_176 (by decide) ?_
        refine lv_iconst (v := 1) hx hb dX5_act_177 (by decide) ?_
        refine lv_iload hx hb dX5_act_178 (lv_at hl 0 rfl) ?_
        have hsz_59 := hh_7.2.2.2.2.2.1
        have htt_59 := hh_7.2.2.2.2.2.2.1
        refine W.room (fun hrc_59 hrs_59 => ?_)
        refine va_calli (A0 := jA base) (H0 := s.heap) (va_runV (As := [.ref r1, .int 0, .int 1, .int r_8]) (rest := []) ⟨hx, hb, hml, hown, hts⟩ (uX5_addSide l dC dI ca base B hB hAp hB5 hB7 hB101 hB211 hB280 hB313 G0 H_7 r0 r1 0 1 r_8 n1 pf LC LS) (cwV 4 hts (jgV (jWr_87 _ (List.mem_of_getElem? (i := 14) rfl)) (jWr_87 _ (List.mem_of_getElem? (i := 15) rfl)) (jWr_87 _ (List.mem_of_getElem? (i := 16) rfl)) (jWr_2 _ (List.mem_of_getElem? (i := 4) rfl)) (jWr_87 _ (List.mem_of_getElem? (i := 17) rfl))) rfl rfl rfl (by decide +kernel) ⟨by rw [← hR]; exact Nat.le_of_ble_eq_true rfl, by rw [← hR]; exact Nat.le_of_ble_eq_true rfl⟩) ⟨fun a U g mk q => by obtain ⟨q0, q1, q2, qK, q10, q11, q12, q13, q14, q15, q16, q17⟩ := q; exact ⟨q0, q1, q2, jG.calling g mk a qK, (va_K.moved (Vm.Alike.refl U.vm) q10), (jK5.moved (Vm.Alike.refl U.vm) q11), q12, q13, q14, q15, q16, q17⟩, hh_7.recv (C := RX5) (T := TX5) (N := 11) hB7 rfl (by decide) hg_r0 hK, fun U hU hW => ⟨rfl, hU, hh_7.2.1, hG.step hW hU hh_7.1, va_K.moved hW.alike hK2, jK5.moved hW.alike hK5, hg_r0, hg_r1, (Or.inl rfl), (hh_7.2.2.1.sub (L1 := [(r0, 7, 10, .int pf)]) [1] rfl), (hh_7.2.2.2.2.2.2.2.2.sub (L1 := [(jFg, jFr dC dI ca G0 r0)]) [0] rfl), by first | omega | (refine ⟨?_, ?_, ?_, ?_⟩ <;> (first | omega | rfl | assumption | decide | exact Or.inl rfl | exact Or.inr rfl | (simp only; omega)))⟩⟩ rfl rfl hl.1 rfl (lv_room (Nat.le_of_ble_eq_true rfl)) dX5_act_180 ⟨by rw [hRc]; omega, by rw [hRs]; omega⟩) hh_7.1 (fun q _ h => h) (fun q h => h) (fun r_60 u_59 t_59 H_59 locs_59 ht_59 hvm_59 hr_60 hb_59 hz_59 hk_59 hS_59 => ?_)
        obtain ⟨qf_59, G_59⟩ := u_59
        rw [ht_59] at hb_59
        simp only at hb_59
        obtain ⟨⟨hb_591, hb_592, hb_593, hb_594, hb_595, hb_596⟩, hN_59, hbE_59⟩ := hb_59
        have hh_59 : jSt (dC, dI) B base G0 G_59 EX5_actS s.heap (0 + (2)) (0 + (84)) [(r0, 7, 10, .int qf_59), (r1, 5, 3, .ref formula_3), (r0, 7, 1, .ref sy), (sy, 12, 5, .int wd)] [] [] H_59 locs_59 := (hh_7.callG hb_591 hb_592 hb_593 hb_594 hb_595 hS_59 rfl (L1 := [(r1, 5, 3, .ref formula_3), (r0, 7, 1, .ref sy), (sy, 12, 5, .int wd)]) [0, 2, 3] rfl rfl (M1 := []) [] rfl rfl (I1 := []) [] rfl rfl).more hb_596
        have hNn_59 : (jNk [0, 1, 2, 3, 4, 6, 7, 8, 9, 10, 11, 12, 13, 14, 15, 16, 17, 175]) G0 G_59 := (jNk.rf).tr hN_59
        have hg_61 := hb_592 _ _ hg_r0
        have hg_62 := hb_592 _ _ hg_r1
        have hg_63 := hb_592 _ _ hg_r2
        have hg_64 := hb_592 _ _ hg_formula_3
        have hg_65 := hb_592 _ _ hg_sy
        have hh_66 := hh_59.addIs hbE_59
        try simp only at hr_60
        obtain ⟨hr_60_0, hr_60_1⟩ := hr_60
        refine lv_istore (lv' := [(7, .int r_60), (5, .int r_8), (4, .int w0_5), (0, .ref r0), (1, .ref r1), (2, .ref r2), (3, .ref formula_3)]) hx hb dX5_act_183 hl (by decide) rfl (fun ls hl => ?_)
        refine lv_iload hx hb dX5_act_185 (lv_at hl 0 rfl) ?_
        refine lv_if_le (tgt := 195) hx hb dX5_act_187 (by decide) (fun c_67 => ?_) (fun c_67 => ?_)
        · skip
          have c_67' : r_60.toInt ≤ 0 := jb_le (rfl) ((by decide)) c_67
          first | (have hr_8_1q := hr_8_1.resolve_left (by omega); clear hr_8_1) | (have hr_8_1q := hr_8_1.resolve_right (by omega); clear hr_8_1) | skip
          refine lv_aload_n hx hb dX5_act_195 rfl (lv_at hl 3 rfl) ?_
          refine lv_aload_n hx hb dX5_act_196 rfl (lv_at hl 4 rfl) ?_
          refine lv_iconst (v := 1) hx hb dX5_act_197 (by decide) ?_
          refine lv_iload hx hb dX5_act_198 (lv_at hl 1 rfl) ?_
          refine lv_aload_n hx hb dX5_act_200 rfl (lv_at hl 6 rfl) ?_
          refine j7_len hx hb hK hh_66 hB280 1 rfl (by decide) hg_64 (by omega) dX5_act_201 (fun z_68 hz_68 => ?_)
          have hsz_69 := hh_66.2.2.2.2.2.1
          have htt_69 := hh_66.2.2.2.2.2.2.1
          refine W.room (fun hrc_69 hrs_69 => ?_)
          refine va_calli (A0 := jA base) (H0 := s.heap) (va_runV (As := [.ref r1, .int 1, .int r_8, .int z_68]) (rest := []) ⟨hx, hb, hml, hown, hts⟩ (uX5_addSide l dC dI ca base B hB hAp hB5 hB7 hB101 hB211 hB280 hB313 G_59 H_59 r0 r1 1 r_8 z_68 n1 qf_59 LC LS) (cwV 4 hts (jgV (jWr_87 _ (List.mem_of_getElem? (i := 14) rfl)) (jWr_87 _ (List.mem_of_getElem? (i := 15) rfl)) (jWr_87 _ (List.mem_of_getElem? (i := 16) rfl)) (jWr_2 _ (List.mem_of_getElem? (i := 4) rfl)) (jWr_87 _ (List.mem_of_getElem? (i := 17) rfl))) rfl rfl rfl (by decide +kernel) ⟨by rw [← hR]; exact Nat.le_of_ble_eq_true rfl, by rw [← hR]; exact Nat.le_of_ble_eq_true rfl⟩) ⟨fun a U g mk q => by obtain ⟨q0, q1, q2, qK, q10, q11, q12, q13, q14, q15, q16, q17⟩ := q; exact ⟨q0, q1, q2, jG.calling g mk a qK, (va_K.moved (Vm.Alike.refl U.vm) q10), (jK5.moved (Vm.Alike.refl U.vm) q11), q12, q13, q14, q15, q16, q17⟩, hh_66.recv (C := RX5) (T := TX5) (N := 11) hB7 rfl (by decide) hg_61 hK, fun U hU hW => ⟨rfl, hU, hh_66.2.1, hG.step hW hU hh_66.1, va_K.moved hW.alike hK2, jK5.moved hW.alike hK5, hg_61, hg_62, (Or.inr rfl), (hh_66.2.2.1.sub (L1 := [(r0, 7, 10, .int qf_59)]) [0] rfl), (hh_66.2.2.2.2.2.2.2.2.sub (L1 := [(jFg, jFr dC dI ca G_59 r0)]) [0] rfl), by first | omega | (refine ⟨?_, ?_, ?_, ?_⟩ <;> (first | omega | rfl | assumption | decide | exact Or.inl rfl | exact Or.inr rfl | (simp only; omega)))⟩⟩ rfl rfl hl.1 rfl (lv_room (Nat.le_of_ble_eq_true rfl)) dX5_act_202 ⟨by rw [hRc]; omega, by rw [hRs]; omega⟩) hh_66.1 (fun q _ h => h) (fun q h => h) (fun r_70 u_69 t_69 H_69 locs_69 ht_69 hvm_69 hr_70 hb_69 hz_69 hk_69 hS_69 => ?_)
          obtain ⟨qf_69, G_69⟩ := u_69
          rw [ht_69] at hb_69
          simp only at hb_69
          obtain ⟨⟨hb_691, hb_692, hb_693, hb_694, hb_695, hb_696⟩, hN_69, hbE_69⟩ := hb_69
          have hh_69 : jSt (dC, dI) B base G0 G_69 EX5_actS s.heap ((0 + (2)) + (2)) ((0 + (84)) + (84)) [(r0, 7, 10, .int qf_69), (r1, 5, 3, .ref formula_3), (r0, 7, 1, .ref sy), (sy, 12, 5, .int wd)] [] [] H_69 locs_69 := (hh_66.callG hb_691 hb_692 hb_693 hb_694 hb_695 hS_69 rfl (L1 := [(r1, 5, 3, .ref formula_3), (r0, 7, 1, .ref sy), (sy, 12, 5, .int wd)]) [1, 2, 3] rfl rfl (M1 := []) [] rfl rfl (I1 := []) [] rfl rfl).more hb_696
          have hNn_69 : (jNk [0, 1, 2, 3, 4, 6, 7, 8, 9, 10, 11, 12, 13, 14, 15, 16, 17, 175]) G0 G_69 := (hNn_59).tr hN_69
          have hg_71 := hb_692 _ _ hg_61
          have hg_72 := hb_692 _ _ hg_62
          have hg_73 := hb_692 _ _ hg_63
          have hg_74 := hb_692 _ _ hg_64
          have hg_75 := hb_692 _ _ hg_65
          have hh_76 := hh_69.addIs hbE_69
          try simp only at hr_70
          obtain ⟨hr_70_0, hr_70_1⟩ := hr_70
          have hsz_77 := hh_76.2.2.2.2.2.1
          have htt_77 := hh_76.2.2.2.2.2.2.1
          refine W.room (fun hrc_77 hrs_77 => ?_)
          refine W.widen (k := LC - s.heap.size) (n := LS - jTot s.heap) (by omega) (by omega) ?_
          rw [hQ]
          exact W.iret (v := r_70) hx hb hr (fun t ht hW => ⟨⟨r_70, (qf_69, G_69), rfl, by (try dsimp only); exact ⟨(by first | omega | rfl | assumption | fail), (by first | omega | rfl | assumption | fail)⟩, ⟨hh_76.ra (by first | omega | (simp only; omega)) (by first | omega | (simp only; omega)) (M1 := [(r0, 7, 10, .int qf_69)]) [0] rfl ht, hNn_69, by rw [ht]; exact hh_76.2.2.2.2.2.2.2.2.sub (L1 := [(jFg, jFr dC dI ca G_69 r0)]) [0] rfl⟩⟩, by rw [ht]; try exact hh_76.1.1, fun q h9 hq => by rw [ht]; try exact hh_76.1.2.1 q h9 hq⟩) hh_76.1.2.2 dX5_act_205
        · skip
          have c_67' : r_60.toInt > 0 := jb_le_n (rfl) ((by decide)) c_67
          first | (have hr_8_1q := hr_8_1.resolve_left (by omega); clear hr_8_1) | (have hr_8_1q := hr_8_1.resolve_right (by omega); clear hr_8_1) | skip
          refine lv_iload hx hb dX5_act_190 (lv_at hl 0 rfl) ?_
          refine lv_goto (tgt := 205) hx hb dX5_act_192 (by decide) ?_
          have hsz_78 := hh_66.2.2.2.2.2.1
          have htt_78 := hh_66.2.2.2.2.2.2.1
          refine W.room (fun hrc_78 hrs_78 => ?_)
          refine W.widen (k := LC - s.heap.size) (n := LS - jTot s.heap) (by omega) (by omega) ?_
          rw [hQ]
          exact W.iret (v := r_60) hx hb hr (fun t ht hW => ⟨⟨r_60, (qf_59, G_59), rfl, by (try dsimp only); exact ⟨(by first | omega | rfl | assumption | fail), (by first | omega | rfl | assumption | fail)⟩, ⟨hh_66.ra (by first | omega | (simp only; omega)) (by first | omega | (simp only; omega)) (M1 := [(r0, 7, 10, .int qf_59)]) [0] rfl ht, hNn_59, by rw [ht]; exact hh_66.2.2.2.2.2.2.2.2.sub (L1 := [(jFg, jFr dC dI ca G_59 r0)]) [0] rfl⟩⟩, by rw [ht]; try exact hh_66.1.1, fun q h9 hq => by rw [ht]; try exact hh_66.1.2.1 q h9 hq⟩) hh_66.1.2.2 dX5_act_205
      · skip
        have c_58' : w0_5.toInt = 2 := jb_ne_n (rfl) ((by decide)) c_58
        refine lv_iconst (v := 1) hx hb dX5_act_172 (by decide) ?_
        refine lv_goto (tgt := 177) hx hb dX5_act_173 (by decide) ?_
        refine lv_iconst (v := 1) hx hb dX5_act_177 (by decide) ?_
        refine lv_iload hx hb dX5_act_178 (lv_at hl 0 rfl) ?_
        have hsz_79 := hh_7.2.2.2.2.2.1
        have htt_79 := hh_7.2.2.2.2.2.2.1
        refine W.room (fun hrc_79 hrs_79 => ?_)
        refine va_calli (A0 := jA base) (H0 := s.heap) (va_runV (As := [.ref r1, .int 1, .int 1, .int r_8]) (rest := []) ⟨hx, hb, hml, hown, hts⟩ (uX5_addSide l dC dI ca base B hB hAp hB5 hB7 hB101 hB211 hB280 hB313 G0 H_7 r0 r1 1 1 r_8 n1 pf LC LS) (cwV 4 hts (jgV (jWr_87 _ (List.mem_of_getElem? (i := 14) rfl)) (jWr_87 _ (List.mem_of_getElem? (i := 15) rfl)) (jWr_87 _ (List.mem_of_getElem? (i := 16) rfl)) (jWr_2 _ (List.mem_of_getElem? (i := 4) rfl)) (jWr_87 _ (List.mem_of_getElem? (i := 17) rfl))) rfl rfl rfl (by decide +kernel) ⟨by rw [← hR]; exact Nat.le_of_ble_eq_true rfl, by rw [← hR]; exact Nat.le_of_ble_eq_true rfl⟩) ⟨fun a U g mk q => by obtain ⟨q0, q1, q2, qK, q10, q11, q12, q13, q14, q15, q16, q17⟩ := q; exact ⟨q0, q1, q2, jG.calling g mk a qK, (va_K.moved (Vm.Alike.refl U.vm) q10), (jK5.moved (Vm.Alike.refl U.vm) q11), q12, q13, q14, q15, q16, q17⟩, hh_7.recv (C := RX5) (T := TX5) (N := 11) hB7 rfl (by decide) hg_r0 hK, fun U hU hW => ⟨rfl, hU, hh_7.2.1, hG.step hW hU hh_7.1, va_K.moved hW.alike hK2, jK5.moved hW.alike hK5, hg_r0, hg_r1, (Or.inr rfl), (hh_7.2.2.1.sub (L1 := [(r0, 7, 10, .int pf)]) [1] rfl), (hh_7.2.2.2.2.2.2.2.2.sub (L1 := [(jFg, jFr dC dI ca G0 r0)]) [0] rfl), by first | omega | (refine ⟨?_, ?_, ?_, ?_⟩ <;> (first | omega | rfl | assumption | decide | exact Or.inl rfl | exact Or.inr rfl | (simp only; omega)))⟩⟩ rfl rfl hl.1 rfl (lv_room (Nat.le_of_ble_eq_true rfl)) dX5_act_180 ⟨by rw [hRc]; omega, by rw [hRs]; omega⟩) hh_7.1 (fun q _ h => h) (fun q h => h) (fun r_80 u_79 t_79 H_79 locs_79 ht_79 hvm_79 hr_80 hb_79 hz_79 hk_79 hS_79 => ?_)
        obtain ⟨qf_79, G_79⟩ := u_79
        rw [ht_79] at hb_79
        simp only at hb_79
        obtain ⟨⟨hb_791, hb_792, hb_793, hb_794, hb_795, hb_796⟩, hN_79, hbE_79⟩ := hb_79
        have hh_79 : jSt (dC, dI) B base G0 G_79 EX5_actS s.heap (0 + (2)) (0 + (84)) [(r0, 7, 10, .int qf_79), (r1, 5, 3, .ref formula_3), (r0, 7, 1, .ref sy), (sy, 12, 5, .int wd)] [] [] H_79 locs_79 := (hh_7.callG hb_791 hb_792 hb_793 hb_794 hb_795 hS_79 rfl (L1 := [(r1, 5, 3, .ref formula_3), (r0, 7, 1, .ref sy), (sy, 12, 5, .int wd)]) [0, 2, 3] rfl rfl (M1 := []) [] rfl rfl (I1 := []) [] rfl rfl).more hb_796
        have hNn_79 : (jNk [0, 1, 2, 3, 4, 6, 7, 8, 9, 10, 11, 12, 13, 14, 15, 16, 17, 175]) G0 G_79 := (jNk.rf).tr hN_79
        have hg_81 := hb_792 _ _ hg_r0
        have hg_82 := hb_792 _ _ hg_r1
        have hg_83 := hb_792 _ _ hg_r2
        have hg_84 := hb_792 _ _ hg_formula_3
        have hg_85 := hb_792 _ _ hg_sy
        have hh_86 := hh_79.addIs hbE_79
        try simp only at hr_80
        obtain ⟨hr_80_0, hr_80_1⟩ := hr_80
        refine lv_istore (lv' := [(7, .int r_80), (5, .int r_8), (4, .int w0_5), (0, .ref r0), (1, .ref r1), (2, .ref r2), (3, .ref formula_3)]) hx hb dX5_act_183 hl (by decide) rfl (fun ls hl => ?_)
        refine lv_iload hx hb dX5_act_185 (lv_at hl 0 rfl) ?_
        refine lv_if_le (tgt := 195) hx hb dX5_act_187 (by decide) (fun c_87 => ?_) (fun c_87 => ?_)
        · skip
          have c_87' : r_80.toInt ≤ 0 := jb_le (rfl) ((by decide)) c_87
          first | (have hr_8_1q := hr_8_1.resolve_left (by omega); clear hr_8_1) | (have hr_8_1q := hr_8_1.resolve_right (by omega); clear hr_8_1) | skip
          refine lv_aload_n hx hb dX5_act_195 rfl (lv_at hl 3 rfl) ?_
          refine lv_aload_n hx hb dX5_act_196 rfl (lv_at hl 4 rfl) ?_
          refine lv_iconst (v := 1) hx hb dX5_act_197 (by decide) ?_
          refine lv_iload hx hb dX5_act_198 (lv_at hl 1 rfl) ?_
          refine lv_aload_n hx hb dX5_act_200 rfl (lv_at hl 6 rfl) ?_
          refine j7_len hx hb hK hh_86 hB280 1 rfl (by decide) hg_84 (by omega) dX5_act_201 (fun z_88 hz_88 => ?_)
          have hsz_89 := hh_86.2.2.2.2.2.1
          have htt_89 := hh_86.2.2.2.2.2.2.1
          refine W.room (fun hrc_89 hrs_89 => ?_)
          refine va_calli (A0 := jA base) (H0 := s.heap) (va_runV (As := [.ref r1, .int 1, .int r_8, .int z_88]) (rest := []) ⟨hx, hb, hml, hown, hts⟩ (uX5_addSide l dC dI ca base B hB hAp hB5 hB7 hB101 hB211 hB280 hB313 G_79 H_79 r0 r1 1 r_8 z_88 n1 qf_79 LC LS) (cwV 4 hts (jgV (jWr_87 _ (List.mem_of_getElem? (i := 14) rfl)) (jWr_87 _ (List.mem_of_getElem? (i := 15) rfl)) (jWr_87 _ (List.mem_of_getElem? (i := 16) rfl)) (jWr_2 _ (List.mem_of_getElem? (i := 4) rfl)) (jWr_87 _ (List.mem_of_getElem? (i := 17) rfl))) rfl rfl rfl (by decide +kernel) ⟨by rw [← hR]; exact Nat.le_of_ble_eq_true rfl, by rw [← hR]; exact Nat.le_of_ble_eq_true rfl⟩) ⟨fun a U g mk q => by obtain ⟨q0, q1, q2, qK, q10, q11, q12, q13, q14, q15, q16, q17⟩ := q; exact ⟨q0, q1, q2, jG.calling g mk a qK, (va_K.moved (Vm.Alike.refl U.vm) q10), (jK5.moved (Vm.Alike.refl U.vm) q11), q12, q13, q14, q15, q16, q17⟩, hh_86.recv (C := RX5) (T := TX5) (N := 11) hB7 rfl (by decide) hg_81 hK, fun U hU hW => ⟨rfl, hU, hh_86.2.1, hG.step hW hU hh_86.1, va_K.moved hW.alike hK2, jK5.moved hW.alike hK5, hg_81, hg_82, (Or.inr rfl), (hh_86.2.2.1.sub (L1 := [(r0, 7, 10, .int qf_79)]) [0] rfl), (hh_86.2.2.2.2.2.2.2.2.sub (L1 := [(jFg, jFr dC dI ca G_79 r0)]) [0] rfl), by first | omega | (refine ⟨?_, ?_, ?_, ?_⟩ <;> (first | omega | rfl | assumption | decide | exact Or.inl rfl | exact Or.inr rfl | (simp only; omega)))⟩⟩ rfl rfl hl.1 rfl (lv_room (Nat.le_of_ble_eq_true rfl)) dX5_act_202 ⟨by rw [hRc]; omega, by rw [hRs]; omega⟩) hh_86.1 (fun q _ h => h) (fun q h => h) (fun r_90 u_89 t_89 H_89 locs_89 ht_89 hvm_89 hr_90 hb_89 hz_89 hk_89 hS_89 => ?_)
          obtain ⟨qf_89, G_89⟩ := u_89
          rw [ht_89] at hb_89
          simp only at hb_89
          obtain ⟨⟨hb_891, hb_892, hb_893, hb_894, hb_895, hb_896⟩, hN_89, hbE_89⟩ := hb_89
          have hh_89 : jSt (dC, dI) B base G0 G_89 EX5_actS s.heap ((0 + (2)) + (2)) ((0 + (84)) + (84)) [(r0, 7, 10, .int qf_89), (r1, 5, 3, .ref formula_3), (r0, 7, 1, .ref sy), (sy, 12, 5, .int wd)] [] [] H_89 locs_89 := (hh_86.callG hb_891 hb_892 hb_893 hb_894 hb_895 hS_89 rfl (L1 := [(r1, 5, 3, .ref formula_3), (r0, 7, 1, .ref sy), (sy, 12, 5, .int wd)]) [1, 2, 3] rfl rfl (M1 := []) [] rfl rfl (I1 := []) [] rfl rfl).more hb_896
          have hNn_89 : (jNk [0, 1, 2, 3, 4, 6, 7, 8, 9, 10, 11, 12, 13, 14, 15, 16, 17, 175]) G0 G_89 := (hNn_79).tr hN_89
          have hg_91 := hb_892 _ _ hg_81
          have hg_92 := hb_892 _ _ hg_82
          have hg_93 := hb_892 _ _ hg_83
          have hg_94 := hb_892 _ _ hg_84
          have hg_95 := hb_892 _ _ hg_85
          have hh_96 := hh_89.addIs hbE_89
          try simp only at hr_90
          obtain ⟨hr_90_0, hr_90_1⟩ := hr_90
          have hsz_97 := hh_96.2.2.2.2.2.1
          have htt_97 := hh_96.2.2.2.2.2.2.1
          refine W.room (fun hrc_97 hrs_97 => ?_)
          refine W.widen (k := LC - s.heap.size) (n := LS - jTot s.heap) (by omega) (by omega) ?_
          rw [hQ]
          exact W.iret (v := r_90) hx hb hr (fun t ht hW => ⟨⟨r_90, (qf_89, G_89), rfl, by (try dsimp only); exact ⟨(by first | omega | rfl | assumption | fail), (by first | omega | rfl | assumption | fail)⟩, ⟨hh_96.ra (by first | omega | (simp only; omega)) (by first | omega | (simp only; omega)) (M1 := [(r0, 7, 10, .int qf_89)]) [0] rfl ht, hNn_89, by rw [ht]; exact hh_96.2.2.2.2.2.2.2.2.sub (L1 := [(jFg, jFr dC dI ca G_89 r0)]) [0] rfl⟩⟩, by rw [ht]; try exact hh_96.1.1, fun q h9 hq => by rw [ht]; try exact hh_96.1.2.1 q h9 hq⟩) hh_96.1.2.2 dX5_act_205
        · skip
          have c_87' : r_80.toInt > 0 := jb_le_n (rfl) ((by decide)) c_87
          first | (have hr_8_1q := hr_8_1.resolve_left (by omega); clear hr_8_1) | (have hr_8_1q := hr_8_1.resolve_right (by omega); clear hr_8_1) | skip
          refine lv_iload hx hb dX5_act_190 (lv_at hl 0 rfl) ?_
          refine lv_goto (tgt := 205) hx hb dX5_act_192 (by decide) ?_
          have hsz_98 := hh_86.2.2.2.2.2.1
          have htt_98 := hh_86.2.2.2.2.2.2.1
          refine W.room (fun hrc_98 hrs_98 => ?_)
          refine W.widen (k := LC - s.heap.size) (n := LS - jTot s.heap) (by omega) (by omega) ?_
          rw [hQ]
          exact W.iret (v := r_80) hx hb hr (fun t ht hW => ⟨⟨r_80, (qf_79, G_79), rfl, by (try dsimp only); exact ⟨(by first | omega | rfl | assumption | fail), (by first | omega | rfl | assumption | fail)⟩, ⟨hh_86.ra (by first | omega | (simp only; omega)) (by first | omega | (simp only; omega)) (M1 := [(r0, 7, 10, .int qf_79)]) [0] rfl ht, hNn_79, by rw [ht]; exact hh_86.2.2.2.2.2.2.2.2.sub (L1 := [(jFg, jFr dC dI ca G_79 r0)]) [0] rfl⟩⟩, by rw [ht]; try exact hh_86.1.1, fun q h9 hq => by rw [ht]; try exact hh_86.1.2.1 q h9 hq⟩) hh_86.1.2.2 dX5_act_205
    · refine lv_tableIn (off := 168) (tgt := 206) hx hb dX5_act_38 (by omega) (by omega) (by rw [c_9]; rfl) (by decide) ?_
      refine lv_aload_n hx hb dX5_act_206 rfl (lv_at hl 2 rfl) ?_
      refine lv_aload_n hx hb dX5_act_207 rfl (lv_at hl 3 rfl) ?_
      refine lv_iload hx hb dX5_act_208 (lv_at hl 1 rfl) ?_
      refine lv_iconst (v := 3) hx hb dX5_act_210 (by decide) ?_
      refine lv_icmp_ne (tgt := 218) hx hb dX5_act_211 (by decide) (fun c_99 => ?_) (fun c_99 => ?_)
      · skip
        have c_99' : w0_5.toInt ≠ 3 := jb_ne (rfl) ((by decide)) c_99
        refine lv_iconst (v := 0) hx hb dX5_act_218 (by decide) ?_
        refine lv_iconst (v := 1) hx hb dX5_act_219 (by decide) ?_
        refine lv_iload hx hb dX5_act_220 (lv_at hl 0 rfl) ?_
        have hsz_100 := hh_7.2.2.2.2.2.1
        have htt_100 := hh_7.2.2.2.2.2.2.1
        refine W.room (fun hrc_100 hrs_100 => ?_)
        refine va_calli (A0 := jA base) (H0 := s.heap) (va_runV (As := [.ref r1, .int 0, .int 1, .int r_8]) (rest := []) ⟨hx, hb, hml, hown, hts⟩ (uX5_addSide l dC dI ca base B hB hAp hB5 hB7 hB101 hB211 hB280 hB313 G0 H_7 r0 r1 0 1 r_8 n1 pf LC LS) (cwV 4 hts (jgV (jWr_87 _ (List.mem_of_getElem? (i := 14) rfl)) (jWr_87 _ (List.mem_of_getElem? (i := 15) rfl)) (jWr_87 _ (List.mem_of_getElem? (i := 16) rfl)) (jWr_2 _ (List.mem_of_getElem? (i := 4) rfl)) (jWr_87 _ (List.mem_of_getElem? (i := 17) rfl))) rfl rfl rfl (by decide +kernel) ⟨by rw [← hR]; exact Nat.le_of_ble_eq_true rfl, by rw [← hR]; exact Nat.le_of_ble_eq_true rfl⟩) ⟨fun a U g mk q => by obtain ⟨q0, q1, q2, qK, q10, q11, q12, q13, q14, q15, q16, q17⟩ := q; exact ⟨q0, q1, q2, jG.calling g mk a qK, (va_K.moved (Vm.Alike.refl U.vm) q10), (jK5.moved (Vm.Alike.refl U.vm) q11), q12, q13, q14, q15, q16, q17⟩, hh_7.recv (C := RX5) (T := TX5) (N := 11) hB7 rfl (by decide) hg_r0 hK, fun U hU hW => ⟨rfl, hU, hh_7.2.1, hG.step hW hU hh_7.1, va_K.moved hW.alike hK2, jK5.moved hW.alike hK5, hg_r0, hg_r1, (Or.inl rfl), (hh_7.2.2.1.sub (L1 := [(r0, 7, 10, .int pf)]) [1] rfl), (hh_7.2.2.2.2.2.2.2.2.sub (L1 := [(jFg, jFr dC dI ca G0 r0)]) [0] rfl), by first | omega | (refine ⟨?_, ?_, ?_, ?_⟩ <;> (first | omega | rfl | assumption | decide | exact Or.inl rfl | exact Or.inr rfl | (simp only; omega)))⟩⟩ rfl rfl hl.1 rfl (lv_room (Nat.le_of_ble_eq_true rfl)) dX5_act_222 ⟨by rw [hRc]; omega, by rw [hRs]; omega⟩) hh_7.1 (fun q _ h => h) (fun q h => h) (fun r_101 u_100 t_100 H_100 locs_100 ht_100 hvm_100 hr_101 hb_100 hz_100 hk_100 hS_100 => ?_)
        obtain ⟨qf_100, G_100⟩ := u_100
        rw [ht_100] at hb_100
        simp only at hb_100
        obtain ⟨⟨hb_1001, hb_1002, hb_1003, hb_1004, hb_1005, hb_1006⟩, hN_100, hbE_100⟩ := hb_100
        have hh_100 : jSt (dC, dI) B base G0 G_100 EX5_actS s.heap (0 + (2)) (0 + (84)) [(r0, 7, 10, .int qf_100), (r1, 5, 3, .ref formula_3), (r0, 7, 1, .ref sy), (sy, 12, 5, .int wd)] [] [] H_100 locs_100 := (hh_7.callG hb_1001 hb_1002 hb_1003 hb_1004 hb_1005 hS_100 rfl (L1 := [(r1, 5, 3, .ref formula_3), (r0, 7, 1, .ref sy), (sy, 12, 5, .int wd)]) [0, 2, 3] rfl rfl (M1 := []) [] rfl rfl (I1 := []) [] rfl rfl).more hb_1006
        have hNn_100 : (jNk [0, 1, 2, 3, 4, 6, 7, 8, 9, 10, 11, 12, 13, 14, 15, 16, 17, 175]) G0 G_100 := (jNk.rf).tr hN_100
        have hg_102 := hb_1002 _ _ hg_r0
        have hg_103 := hb_1002 _ _ hg_r1
        have hg_104 := hb_1002 _ _ hg_r2
        have hg_105 := hb_1002 _ _ hg_formula_3
        have hg_106 := hb_1002 _ _ hg_sy
        have hh_107 := hh_100.addIs hbE_100
        try simp only at hr_101
        obtain ⟨hr_101_0, hr_101_1⟩ := hr_101
        have hsz_108 := hh_107.2.2.2.2.2.1
        have htt_108 := hh_107.2.2.2.2.2.2.1
        refine W.room (fun hrc_108 hrs_108 => ?_)
        refine W.widen (k := LC - s.heap.size) (n := LS - jTot s.heap) (by omega) (by omega) ?_
        rw [hQ]
        exact W.iret (v := r_101) hx hb hr (fun t ht hW => ⟨⟨r_101, (qf_100, G_100), rfl, by (try dsimp only); exact ⟨(by first | omega | rfl | assumption | fail), (by first | omega | rfl | assumption | fail)⟩, ⟨hh_107.ra (by first | omega | (simp only; omega)) (by first | omega | (simp only; omega)) (M1 := [(r0, 7, 10, .int qf_100)]) [0] rfl ht, hNn_100, by rw [ht]; exact hh_107.2.2.2.2.2.2.2.2.sub (L1 := [(jFg, jFr dC dI ca G_100 r0)]) [0] rfl⟩⟩, by rw [ht]; try exact hh_107.1.1, fun q h9 hq => by rw [ht]; try exact hh_107.1.2.1 q h9 hq⟩) hh_107.1.2.2 dX5_act_225
      · skip
        have c_99' : w0_5.toInt = 3 := jb_ne_n (rfl) ((by decide)) c_99
        refine lv_iconst (v := 1) hx hb dX5_act_214 (by decide) ?_
        refine lv_goto (tgt := 219) hx hb dX5_act_215 (by decide) ?_
        refine lv_iconst (v := 1) hx hb dX5_act_219 (by decide) ?_
        refine lv_iload hx hb dX5_act_220 (lv_at hl 0 rfl) ?_
        have hsz_109 := hh_7.2.2.2.2.2.1
        have htt_109 := hh_7.2.2.2.2.2.2.1
        refine W.room (fun hrc_109 hrs_109 => ?_)
        refine va_calli (A0 := jA base) (H0 := s.heap) (va_runV (As := [.ref r1, .int 1, .int 1, .int r_8]) (rest := []) ⟨hx, hb, hml, hown, hts⟩ (uX5_addSide l dC dI ca base B hB hAp hB5 hB7 hB101 hB211 hB280 hB313 G0 H_7 r0 r1 1 1 r_8 n1 pf LC LS) (cwV 4 hts (jgV (jWr_87 _ (List.mem_of_getElem? (i := 14) rfl)) (jWr_87 _ (List.mem_of_getElem? (i := 15) rfl)) (jWr_87 _ (List.mem_of_getElem? (i := 16) rfl)) (jWr_2 _ (List.mem_of_getElem? (i := 4) rfl)) (jWr_87 _ (List.mem_of_getElem? (i := 17) rfl))) rfl rfl rfl (by decide +kernel) ⟨by rw [← hR]; exact Nat.le_of_ble_eq_true rfl, by rw [← hR]; exact Nat.le_of_ble_eq_true rfl⟩) ⟨fun a U g mk q => by obtain ⟨q0, q1, q2, qK, q10, q11, q12, q13, q14, q15, q16, q17⟩ := q; exact ⟨q0, q1, q2, jG.calling g mk a qK, (va_K.moved (Vm.Alike.refl U.vm) q10), (jK5.moved (Vm.Alike.refl U.vm) q11), q12, q13, q14, q15, q16, q17⟩, hh_7.recv (C := RX5) (T := TX5) (N := 11) hB7 rfl (by decide) hg_r0 hK, fun U hU hW => ⟨rfl, hU, hh_7.2.1, hG.step hW hU hh_7.1, va_K.moved hW.alike hK2, jK5.moved hW.alike hK5, hg_r0, hg_r1, (Or.inr rfl), (hh_7.2.2.1.sub (L1 := [(r0, 7, 10, .int pf)]) [1] rfl), (hh_7.2.2.2.2.2.2.2.2.sub (L1 := [(jFg, jFr dC dI ca G0 r0)]) [0] rfl), by first | omega | (refine ⟨?_, ?_, ?_, ?_⟩ <;> (first | omega | rfl | assumption | decide | exact Or.inl rfl | exact Or.inr rfl | (simp only; omega)))⟩⟩ rfl rfl hl.1 rfl (lv_room (Nat.le_of_ble_eq_true rfl)) dX5_act_222 ⟨by rw [hRc]; omega, by rw [hRs]; omega⟩) hh_7.1 (fun q _ h => h) (fun q h => h) (fun r_110 u_109 t_109 H_109 locs_109 ht_109 hvm_109 hr_110 hb_109 hz_109 hk_109 hS_109 => ?_)
        obtain ⟨qf_109, G_109⟩ := u_109
        rw [ht_109] at hb_109
        simp only at hb_109
        obtain ⟨⟨hb_1091, hb_1092, hb_1093, hb_1094, hb_1095, hb_1096⟩, hN_109, hbE_109⟩ := hb_109
        have hh_109 : jSt (dC, dI) B base G0 G_109 EX5_actS s.heap (0 + (2)) (0 + (84)) [(r0, 7, 10, .int qf_109), (r1, 5, 3, .ref formula_3), (r0, 7, 1, .ref sy), (sy, 12, 5, .int wd)] [] [] H_109 locs_109 := (hh_7.callG hb_1091 hb_1092 hb_1093 hb_1094 hb_1095 hS_109 rfl (L1 := [(r1, 5, 3, .ref formula_3), (r0, 7, 1, .ref sy), (sy, 12, 5, .int wd)]) [0, 2, 3] rfl rfl (M1 := []) [] rfl rfl (I1 := []) [] rfl rfl).more hb_1096
        have hNn_109 : (jNk [0, 1, 2, 3, 4, 6, 7, 8, 9, 10, 11, 12, 13, 14, 15, 16, 17, 175]) G0 G_109 := (jNk.rf).tr hN_109
        have hg_111 := hb_1092 _ _ hg_r0
        have hg_112 := hb_1092 _ _ hg_r1
        have hg_113 := hb_1092 _ _ hg_r2
        have hg_114 := hb_1092 _ _ hg_formula_3
        have hg_115 := hb_1092 _ _ hg_sy
        have hh_116 := hh_109.addIs hbE_109
        try simp only at hr_110
        obtain ⟨hr_110_0, hr_110_1⟩ := hr_110
        have hsz_117 := hh_116.2.2.2.2.2.1
        have htt_117 := hh_116.2.2.2.2.2.2.1
        refine W.room (fun hrc_117 hrs_117 => ?_)
        refine W.widen (k := LC - s.heap.size) (n := LS - jTot s.heap) (by omega) (by omega) ?_
        rw [hQ]
        exact W.iret (v := r_110) hx hb hr (fun t ht hW => ⟨⟨r_110, (qf_109, G_109), rfl, by (try dsimp only); exact ⟨(by first | omega | rfl | assumption | fail), (by first | omega | rfl | assumption | fail)⟩, ⟨hh_116.ra (by first | omega | (simp only; omega)) (by first | omega | (simp only; omega)) (M1 := [(r0, 7, 10, .int qf_109)]) [0] rfl ht, hNn_109, by rw [ht]; exact hh_116.2.2.2.2.2.2.2.2.sub (L1 := [(jFg, jFr dC dI ca G_109 r0)]) [0] rfl⟩⟩, by rw [ht]; try exact hh_116.1.1, fun q h9 hq => by rw [ht]; try exact hh_116.1.2.1 q h9 hq⟩) hh_116.1.2.2 dX5_act_225
    · refine lv_tableIn (off := 188) (tgt := 226) hx hb dX5_act_38 (by omega) (by omega) (by rw [c_9]; rfl) (by decide) ?_
      refine lv_aload_n hx hb dX5_act_226 rfl (lv_at hl 2 rfl) ?_
      refine lv_aload_n hx hb dX5_act_227 rfl (lv_at hl 3 rfl) ?_
      refine lv_iload hx hb dX5_act_228 (lv_at hl 1 rfl) ?_
      refine lv_iconst (v := 3) hx hb dX5_act_230 (by decide) ?_
      refine lv_icmp_ne (tgt := 238) hx hb dX5_act_231 (by decide) (fun c_118 => ?_) (fun c_118 => ?_)
      · skip
        have c_118' : w0_5.toInt ≠ 3 := jb_ne (rfl) ((by decide)) c_118
        refine lv_iconst (v := 0) hx hb dX5_act_238 (by decide) ?_
        refine lv_iload hx hb dX5_act_239 (lv_at hl 0 rfl) ?_
        refine lv_aload_n hx hb dX5_act_241 rfl (lv_at hl 5 rfl) ?_
        refine j7_len hx hb hK hh_7 hB280 1 rfl (by decide) hg_formula_3 (by omega) dX5_act_242 (fun z_119 hz_119 => ?_)
        have hsz_120 := hh_7.2.2.2.2.2.1
        have htt_120 := hh_7.2.2.2.2.2.2.1
        refine W.room (fun hrc_120 hrs_120 => ?_)
        refine va_calli (A0 := jA base) (H0 := s.heap) (va_runV (As := [.ref r1, .int 0, .int r_8, .int z_119]) (rest := []) ⟨hx, hb, hml, hown, hts⟩ (uX5_addSide l dC dI ca base B hB hAp hB5 hB7 hB101 hB211 hB280 hB313 G0 H_7 r0 r1 0 r_8 z_119 n1 pf LC LS) (cwV 4 hts (jgV (jWr_87 _ (List.mem_of_getElem? (i := 14) rfl)) (jWr_87 _ (List.mem_of_getElem? (i := 15) rfl)) (jWr_87 _ (List.mem_of_getElem? (i := 16) rfl)) (jWr_2 _ (List.mem_of_getElem? (i := 4) rfl)) (jWr_87 _ (List.mem_of_getElem? (i := 17) rfl))) rfl rfl rfl (by decide +kernel) ⟨by rw [← hR]; exact Nat.le_of_ble_eq_true rfl, by rw [← hR]; exact Nat.le_of_ble_eq_true rfl⟩) ⟨fun a U g mk q => by obtain ⟨q0, q1, q2, qK, q10, q11, q12, q13, q14, q15, q16, q17⟩ := q; exact ⟨q0, q1, q2, jG.calling g mk a qK, (va_K.moved (Vm.Alike.refl U.vm) q10), (jK5.moved (Vm.Alike.refl U.vm) q11), q12, q13, q14, q15, q16, q17⟩, hh_7.recv (C := RX5) (T := TX5) (N := 11) hB7 rfl (by decide) hg_r0 hK, fun U hU hW => ⟨rfl, hU, hh_7.2.1, hG.step hW hU hh_7.1, va_K.moved hW.alike hK2, jK5.moved hW.alike hK5, hg_r0, hg_r1, (Or.inl rfl), (hh_7.2.2.1.sub (L1 := [(r0, 7, 10, .int pf)]) [1] rfl), (hh_7.2.2.2.2.2.2.2.2.sub (L1 := [(jFg, jFr dC dI ca G0 r0)]) [0] rfl), by first | omega | (refine ⟨?_, ?_, ?_, ?_⟩ <;> (first | omega | rfl | assumption | decide | exact Or.inl rfl | exact Or.inr rfl | (simp only; omega)))⟩⟩ rfl rfl hl.1 rfl (lv_room (Nat.le_of_ble_eq_true rfl)) dX5_act_243 ⟨by rw [hRc]; omega, by rw [hRs]; omega⟩) hh_7.1 (fun q _ h => h) (fun q h => h) (fun r_121 u_120 t_120 H_120 locs_120 ht_120 hvm_120 hr_121 hb_120 hz_120 hk_120 hS_120 => ?_)
        obtain ⟨qf_120, G_120⟩ := u_120
        rw [ht_120] at hb_120
        simp only at hb_120
        obtain ⟨⟨hb_1201, hb_1202, hb_1203, hb_1204, hb_1205, hb_1206⟩, hN_120, hbE_120⟩ := hb_120
        have hh_120 : jSt (dC, dI) B base G0 G_120 EX5_actS s.heap (0 + (2)) (0 + (84)) [(r0, 7, 10, .int qf_120), (r1, 5, 3, .ref formula_3), (r0, 7, 1, .ref sy), (sy, 12, 5, .int wd)] [] [] H_120 locs_120 := (hh_7.callG hb_1201 hb_1202 hb_1203 hb_1204 hb_1205 hS_120 rfl (L1 := [(r1, 5, 3, .ref formula_3), (r0, 7, 1, .ref sy), (sy, 12, 5, .int wd)]) [0, 2, 3] rfl rfl (M1 := []) [] rfl rfl (I1 := []) [] rfl rfl).more hb_1206
        have hNn_120 : (jNk [0, 1, 2, 3, 4, 6, 7, 8, 9, 10, 11, 12, 13, 14, 15, 16, 17, 175]) G0 G_120 := (jNk.rf).tr hN_120
        have hg_122 := hb_1202 _ _ hg_r0
        have hg_123 := hb_1202 _ _ hg_r1
        have hg_124 := hb_1202 _ _ hg_r2
        have hg_125 := hb_1202 _ _ hg_formula_3
        have hg_126 := hb_1202 _ _ hg_sy
        have hh_127 := hh_120.addIs hbE_120
        try simp only at hr_121
        obtain ⟨hr_121_0, hr_121_1⟩ := hr_121
        have hsz_128 := hh_127.2.2.2.2.2.1
        have htt_128 := hh_127.2.2.2.2.2.2.1
        refine W.room (fun hrc_128 hrs_128 => ?_)
        refine W.widen (k := LC - s.heap.size) (n := LS - jTot s.heap) (by omega) (by omega) ?_
        rw [hQ]
        exact W.iret (v := r_121) hx hb hr (fun t ht hW => ⟨⟨r_121, (qf_120, G_120), rfl, by (try dsimp only); exact ⟨(by first | omega | rfl | assumption | fail), (by first | omega | rfl | assumption | fail)⟩, ⟨hh_127.ra (by first | omega | (simp only; omega)) (by first | omega | (simp only; omega)) (M1 := [(r0, 7, 10, .int qf_120)]) [0] rfl ht, hNn_120, by rw [ht]; exact hh_127.2.2.2.2.2.2.2.2.sub (L1 := [(jFg, jFr dC dI ca G_120 r0)]) [0] rfl⟩⟩, by rw [ht]; try exact hh_127.1.1, fun q h9 hq => by rw [ht]; try exact hh_127.1.2.1 q h9 hq⟩) hh_127.1.2.2 dX5_act_246
      · skip
        have c_118' : w0_5.toInt = 3 := jb_ne_n (rfl) ((by decide)) c_118
        refine lv_iconst (v := 1) hx hb dX5_act_234 (by decide) ?_
        refine lv_goto (tgt := 239) hx hb dX5_act_235 (by decide) ?_
        refine lv_iload hx hb dX5_act_239 (lv_at hl 0 rfl) ?_
        refine lv_aload_n hx hb dX5_act_241 rfl (lv_at hl 5 rfl) ?_
        refine j7_len hx hb hK hh_7 hB280 1 rfl (by decide) hg_formula_3 (by omega) dX5_act_242 (fun z_129 hz_129 => ?_)
        have hsz_130 := hh_7.2.2.2.2.2.1
        have htt_130 := hh_7.2.2.2.2.2.2.1
        refine W.room (fun hrc_130 hrs_130 => ?_)
        refine va_calli (A0 := jA base) (H0 := s.heap) (va_runV (As := [.ref r1, .int 1, .int r_8, .int z_129]) (rest := []) ⟨hx, hb, hml, hown, hts⟩ (uX5_addSide l dC dI ca base B hB hAp hB5 hB7 hB101 hB211 hB280 hB313 G0 H_7 r0 r1 1 r_8 z_129 n1 pf LC LS) (cwV 4 hts (jgV (jWr_87 _ (List.mem_of_getElem? (i := 14) rfl)) (jWr_87 _ (List.mem_of_getElem? (i := 15) rfl)) (jWr_87 _ (List.mem_of_getElem? (i := 16) rfl)) (jWr_2 _ (List.mem_of_getElem? (i := 4) rfl)) (jWr_87 _ (List.mem_of_getElem? (i := 17) rfl))) rfl rfl rfl (by decide +kernel) ⟨by rw [← hR]; exact Nat.le_of_ble_eq_true rfl, by rw [← hR]; exact Nat.le_of_ble_eq_true rfl⟩) ⟨fun a U g mk q => by obtain ⟨q0, q1, q2, qK, q10, q11, q12, q13, q14, q15, q16, q17⟩ := q; exact ⟨q0, q1, q2, jG.calling g mk a qK, (va_K.moved (Vm.Alike.refl U.vm) q10), (jK5.moved (Vm.Alike.refl U.vm) q11), q12, q13, q14, q15, q16, q17⟩, hh_7.recv (C := RX5) (T := TX5) (N := 11) hB7 rfl (by decide) hg_r0 hK, fun U hU hW => ⟨rfl, hU, hh_7.2.1, hG.step hW hU hh_7.1, va_K.moved hW.alike hK2, jK5.moved hW.alike hK5, hg_r0, hg_r1, (Or.inr rfl), (hh_7.2.2.1.sub (L1 := [(r0, 7, 10, .int pf)]) [1] rfl), (hh_7.2.2.2.2.2.2.2.2.sub (L1 := [(jFg, jFr dC dI ca G0 r0)]) [0] rfl), by first | omega | (refine ⟨?_, ?_, ?_, ?_⟩ <;> (first | omega | rfl | assumption | decide | exact Or.inl rfl | exact Or.inr rfl | (simp only; omega)))⟩⟩ rfl rfl hl.1 rfl (lv_room (Nat.le_of_ble_eq_true rfl)) dX5_act_243 ⟨by rw [hRc]; omega, by rw [hRs]; omega⟩) hh_7.1 (fun q _ h => h) (fun q h => h) (fun r_131 u_130 t_130 H_130 locs_130 ht_130 hvm_130 hr_131 hb_130 hz_130 hk_130 hS_130 => ?_)
        obtain ⟨qf_130, G_130⟩ := u_130
        rw [ht_130] at hb_130
        simp only at hb_130
        obtain ⟨⟨hb_1301, hb_1302, hb_1303, hb_1304, hb_1305, hb_1306⟩, hN_130, hbE_130⟩ := hb_130
        have hh_130 : jSt (dC, dI) B base G0 G_130 EX5_actS s.heap (0 + (2)) (0 + (84)) [(r0, 7, 10, .int qf_130), (r1, 5, 3, .ref formula_3), (r0, 7, 1, .ref sy), (sy, 12, 5, .int wd)] [] [] H_130 locs_130 := (hh_7.callG hb_1301 hb_1302 hb_1303 hb_1304 hb_1305 hS_130 rfl (L1 := [(r1, 5, 3, .ref formula_3), (r0, 7, 1, .ref sy), (sy, 12, 5, .int wd)]) [0, 2, 3] rfl rfl (M1 := []) [] rfl rfl (I1 := []) [] rfl rfl).more hb_1306
        have hNn_130 : (jNk [0, 1, 2, 3, 4, 6, 7, 8, 9, 10, 11, 12, 13, 14, 15, 16, 17, 175]) G0 G_130 := (jNk.rf).tr hN_130
        have hg_132 := hb_1302 _ _ hg_r0
        have hg_133 := hb_1302 _ _ hg_r1
        have hg_134 := hb_1302 _ _ hg_r2
        have hg_135 := hb_1302 _ _ hg_formula_3
        have hg_136 := hb_1302 _ _ hg_sy
        have hh_137 := hh_130.addIs hbE_130
        try simp only at hr_131
        obtain ⟨hr_131_0, hr_131_1⟩ := hr_131
        have hsz_138 := hh_137.2.2.2.2.2.1
        have htt_138 := hh_137.2.2.2.2.2.2.1
        refine W.room (fun hrc_138 hrs_138 => ?_)
        refine W.widen (k := LC - s.heap.size) (n := LS - jTot s.heap) (by omega) (by omega) ?_
        rw [hQ]
        exact W.iret (v := r_131) hx hb hr (fun t ht hW => ⟨⟨r_131, (qf_130, G_130), rfl, by (try dsimp only); exact ⟨(by first | omega | rfl | assumption | fail), (by first | omega | rfl | assumption | fail)⟩, ⟨hh_137.ra (by first | omega | (simp only; omega)) (by first | omega | (simp only; omega)) (M1 := [(r0, 7, 10, .int qf_130)]) [0] rfl ht, hNn_130, by rw [ht]; exact hh_137.2.2.2.2.2.2.2.2.sub (L1 := [(jFg, jFr dC dI ca G_130 r0)]) [0] rfl⟩⟩, by rw [ht]; try exact hh_137.1.1, fun q h9 hq => by rw [ht]; try exact hh_137.1.2.1 q h9 hq⟩) hh_137.1.2.2 dX5_act_246
    · refine lv_tableIn (off := 209) (tgt := 247) hx hb dX5_act_38 (by omega) (by omega) (by rw [c_9]; rfl) (by decide) ?_
      refine lv_aload_n hx hb dX5_act_247 rfl (lv_at hl 2 rfl) ?_
      refine lv_aload_n hx hb dX5_act_248 rfl (lv_at hl 3 rfl) ?_
      have hsz_139 := hh_7.2.2.2.2.2.1
      have htt_139 := hh_7.2.2.2.2.2.2.1
      refine W.room (fun hrc_139 hrs_139 => ?_)
      refine va_calli (A0 := jA base) (H0 := s.heap) (va_runV (As := [.ref r1]) (rest := []) ⟨hx, hb, hml, hown, hts⟩ (uX5_cases l dC dI ca base B hB hAp hB5 hB7 hB12 hB101 hB211 hB280 hB290 hB291 hB292 hB313 hB315 G0 H_7 r0 r1 n1 pf LC LS) (cwV 1 hts (jgV (jWr_87 _ (List.mem_of_getElem? (i := 18) rfl)) (jWr_87 _ (List.mem_of_getElem? (i := 19) rfl)) (jWr_87 _ (List.mem_of_getElem? (i := 20) rfl)) (jWr_2 _ (List.mem_of_getElem? (i := 4) rfl)) (jWr_87 _ (List.mem_of_getElem? (i := 21) rfl))) rfl rfl rfl (by decide +kernel) ⟨by rw [← hR]; exact Nat.le_of_ble_eq_true rfl, by rw [← hR]; exact Nat.le_of_ble_eq_true rfl⟩) ⟨fun a U g mk q => by obtain ⟨q0, q1, q2, qK, q10, q11, q12, q13, q14, q15, q16⟩ := q; exact ⟨q0, q1, q2, jG.calling g mk a qK, (va_K.moved (Vm.Alike.refl U.vm) q10), (jK5.moved (Vm.Alike.refl U.vm) q11), q12, q13, q14, q15, q16⟩, hh_7.recv (C := RX5) (T := TX5) (N := 11) hB7 rfl (by decide) hg_r0 hK, fun U hU hW => ⟨rfl, hU, hh_7.2.1, hG.step hW hU hh_7.1, va_K.moved hW.alike hK2, jK5.moved hW.alike hK5, hg_r0, hg_r1, (hh_7.2.2.1.sub (L1 := [(r0, 7, 10, .int pf)]) [1] rfl), (hh_7.2.2.2.2.2.2.2.2.sub (L1 := [(jFg, jFr dC dI ca G0 r0)]) [0] rfl), by first | omega | (refine ⟨?_, ?_, ?_⟩ <;> (first | omega | rfl | assumption | decide | exact Or.inl rfl | exact Or.inr rfl | (simp only; omega)))⟩⟩ rfl rfl hl.1 rfl (lv_room (Nat.le_of_ble_eq_true rfl)) dX5_act_249 ⟨by rw [hRc]; omega, by rw [hRs]; omega⟩) hh_7.1 (fun q _ h => h) (fun q h => h) (fun r_140 u_139 t_139 H_139 locs_139 ht_139 hvm_139 hr_140 hb_139 hz_139 hk_139 hS_139 => ?_)
      obtain ⟨qf_139, G_139⟩ := u_139
      rw [ht_139] at hb_139
      simp only at hb_139
      obtain ⟨⟨hb_1391, hb_1392, hb_1393, hb_1394, hb_1395, hb_1396⟩, hN_139, hbE_139⟩ := hb_139
      have hh_139 : jSt (dC, dI) B base G0 G_139 EX5_actS s.heap (0 + (16)) (0 + (500)) [(r0, 7, 10, .int qf_139), (r1, 5, 3, .ref formula_3), (r0, 7, 1, .ref sy), (sy, 12, 5, .int wd)] [] [] H_139 locs_139 := (hh_7.callG hb_1391 hb_1392 hb_1393 hb_1394 hb_1395 hS_139 rfl (L1 := [(r1, 5, 3, .ref formula_3), (r0, 7, 1, .ref sy), (sy, 12, 5, .int wd)]) [0, 2, 3] rfl rfl (M1 := []) [] rfl rfl (I1 := []) [] rfl rfl).more hb_1396
      have hNn_139 : (jNk [0, 1, 2, 3, 4, 6, 7, 8, 9, 10, 11, 12, 13, 14, 15, 16, 17, 175]) G0 G_139 := (jNk.rf).tr hN_139
      have hg_141 := hb_1392 _ _ hg_r0
      have hg_142 := hb_1392 _ _ hg_r1
      have hg_143 := hb_1392 _ _ hg_r2
      have hg_144 := hb_1392 _ _ hg_formula_3
      have hg_145 := hb_1392 _ _ hg_sy
      have hh_146 := hh_139.addIs hbE_139
      try simp only at hr_140
      obtain ⟨hr_140_0, hr_140_1⟩ := hr_140
      have hsz_147 := hh_146.2.2.2.2.2.1
      have htt_147 := hh_146.2.2.2.2.2.2.1
      refine W.room (fun hrc_147 hrs_147 => ?_)
      refine W.widen (k := LC - s.heap.size) (n := LS - jTot s.heap) (by omega) (by omega) ?_
      rw [hQ]
      exact W.iret (v := r_140) hx hb hr (fun t ht hW => ⟨⟨r_140, (qf_139, G_139), rfl, by (try dsimp only); exact ⟨(by first | omega | rfl | assumption | fail), (by first | omega | rfl | assumption | fail)⟩, ⟨hh_146.ra (by first | omega | (simp only; omega)) (by first | omega | (simp only; omega)) (M1 := [(r0, 7, 10, .int qf_139)]) [0] rfl ht, hNn_139, by rw [ht]; exact hh_146.2.2.2.2.2.2.2.2.sub (L1 := [(jFg, jFr dC dI ca G_139 r0)]) [0] rfl⟩⟩, by rw [ht]; try exact hh_146.1.1, fun q h9 hq => by rw [ht]; try exact hh_146.1.2.1 q h9 hq⟩) hh_146.1.2.2 dX5_act_252
    · refine lv_tableIn (off := 215) (tgt := 253) hx hb dX5_act_38 (by omega) (by omega) (by rw [c_9]; rfl) (by decide) ?_
      refine lv_aload_n hx hb dX5_act_253 rfl (lv_at hl 4 rfl) ?_
      refine lv_ifnull hx hb dX5_act_254 ?_
      refine lv_aload_n hx hb dX5_act_257 rfl (lv_at hl 4 rfl) ?_
      refine j7_len hx hb hK hh_7 hB280 1 rfl (by decide) hg_r2 (by omega) dX5_act_258 (fun z_148 hz_148 => ?_)
      refine lv_iconst (v := 1) hx hb dX5_act_259 (by decide) ?_
      refine lv_icmp_ne (tgt := 276) hx hb dX5_act_260 (by decide) (fun c_149 => ?_) (fun c_149 => ?_)
      · skip
        have c_149' : z_148.toInt ≠ 1 := jb_ne (rfl) ((by decide)) c_149
        refine lv_bipush (v := 8) hx hb dX5_act_276 (by decide) ?_
        have hsz_150 := hh_7.2.2.2.2.2.1
        have htt_150 := hh_7.2.2.2.2.2.2.1
        refine W.room (fun hrc_150 hrs_150 => ?_)
        refine W.widen (k := LC - s.heap.size) (n := LS - jTot s.heap) (by omega) (by omega) ?_
        rw [hQ]
        exact W.iret (v := 8) hx hb hr (fun t ht hW => ⟨⟨8, (pf, G0), rfl, by (try dsimp only); exact ⟨(by first | omega | rfl | assumption | fail), (by first | omega | rfl | assumption | fail)⟩, ⟨hh_7.ra (by first | omega | (simp only; omega)) (by first | omega | (simp only; omega)) (M1 := [(r0, 7, 10, .int pf)]) [1] rfl ht, jNk.rf, by rw [ht]; exact hh_7.2.2.2.2.2.2.2.2.sub (L1 := [(jFg, jFr dC dI ca G0 r0)]) [0] rfl⟩⟩, by rw [ht]; try exact hh_7.1.1, fun q h9 hq => by rw [ht]; try exact hh_7.1.2.1 q h9 hq⟩) hh_7.1.2.2 dX5_act_278
      · skip
        have c_149' : z_148.toInt = 1 := jb_ne_n (rfl) ((by decide)) c_149
        first | (have hr_8_1q := hr_8_1.resolve_left (by omega); clear hr_8_1) | (have hr_8_1q := hr_8_1.resolve_right (by omega); clear hr_8_1) | skip
        refine lv_aload_n hx hb dX5_act_263 rfl (lv_at hl 4 rfl) ?_
        refine lv_iconst (v := 0) hx hb dX5_act_264 (by decide) ?_
        refine j7_iald hx hb hK hh_7 hB280 1 rfl (by decide) hg_r2 (x := 0) ((by decide)) (by omega) dX5_act_265 (fun z_151 (hz_151 : -1 ≤ z_151.toInt) => ?_)
        refine lv_bipush (v := 15) hx hb dX5_act_266 (by decide) ?_
        refine lv_iand hx hb dX5_act_268 ?_
        refine lv_topi (fun z_152 ez_152 => ?_)
        have hz_152 : 0 ≤ z_152.toInt ∧ z_152.toInt ≤ 15 := by rw [ez_152]; exact jb_and z_151 (m := 15) (k := 4) (by decide) (by decide)
        have hbz_152 : z_152.toInt = z_151.toInt % 16 := by rw [ez_152, jb_and15]
        refine lv_if_ne (tgt := 276) hx hb dX5_act_269 (by decide) (fun c_153 => ?_) (fun c_153 => ?_)
        · skip
          have c_153' : z_152.toInt ≠ 0 := jb_ne (rfl) ((by decide)) c_153
          refine lv_bipush (v := 8) hx hb dX5_act_276 (by decide) ?_
          have hsz_154 := hh_7.2.2.2.2.2.1
          have htt_154 := hh_7.2.2.2.2.2.2.1
          refine W.room (fun hrc_154 hrs_154 => ?_)
          refine W.widen (k := LC - s.heap.size) (n := LS - jTot s.heap) (by omega) (by omega) ?_
          rw [hQ]
          exact W.iret (v := 8) hx hb hr (fun t ht hW => ⟨⟨8, (pf, G0), rfl, by (try dsimp only); exact ⟨(by first | omega | rfl | assumption | fail), (by first | omega | rfl | assumption | fail)⟩, ⟨hh_7.ra (by first | omega | (simp only; omega)) (by first | omega | (simp only; omega)) (M1 := [(r0, 7, 10, .int pf)]) [1] rfl ht, jNk.rf, by rw [ht]; exact hh_7.2.2.2.2.2.2.2.2.sub (L1 := [(jFg, jFr dC dI ca G0 r0)]) [0] rfl⟩⟩, by rw [ht]; try exact hh_7.1.1, fun q h9 hq => by rw [ht]; try exact hh_7.1.2.1 q h9 hq⟩) hh_7.1.2.2 dX5_act_278
        · skip
          have c_153' : z_152.toInt = 0 := jb_ne_n (rfl) ((by decide)) c_153
          refine lv_iconst (v := 0) hx hb dX5_act_272 (by decide) ?_
          refine lv_goto (tgt := 278) hx hb dX5_act_273 (by decide) ?_
          have hsz_155 := hh_7.2.2.2.2.2.1
          have htt_155 := hh_7.2.2.2.2.2.2.1
          refine W.room (fun hrc_155 hrs_155 => ?_)
          refine W.widen (k := LC - s.heap.size) (n := LS - jTot s.heap) (by omega) (by omega) ?_
          rw [hQ]
          exact W.iret (v := 0) hx hb hr (fun t ht hW => ⟨⟨0, (pf, G0), rfl, by (try dsimp only); exact ⟨(by first | omega | rfl | assumption | fail), (by first | omega | rfl | assumption | fail)⟩, ⟨hh_7.ra (by first | omega | (simp only; omega)) (by first | omega | (simp only; omega)) (M1 := [(r0, 7, 10, .int pf)]) [1] rfl ht, jNk.rf, by rw [ht]; exact hh_7.2.2.2.2.2.2.2.2.sub (L1 := [(jFg, jFr dC dI ca G0 r0)]) [0] rfl⟩⟩, by rw [ht]; try exact hh_7.1.1, fun q h9 hq => by rw [ht]; try exact hh_7.1.2.1 q h9 hq⟩) hh_7.1.2.2 dX5_act_278
    · refine lv_tableIn (off := 241) (tgt := 279) hx hb dX5_act_38 (by omega) (by omega) (by rw [c_9]; rfl) (by decide) ?_
      refine lv_iload hx hb dX5_act_279 (lv_at hl 1 rfl) ?_
      refine lv_bipush (v := 6) hx hb dX5_act_281 (by decide) ?_
      refine lv_icmp_ne (tgt := 316) hx hb dX5_act_283 (by decide) (fun c_156 => ?_) (fun c_156 => ?_)
      · skip
        have c_156' : w0_5.toInt ≠ 6 := jb_ne (rfl) ((by decide)) c_156
        refine lv_bipush (v := 8) hx hb dX5_act_316 (by decide) ?_
        have hsz_157 := hh_7.2.2.2.2.2.1
        have htt_157 := hh_7.2.2.2.2.2.2.1
        refine W.room (fun hrc_157 hrs_157 => ?_)
        refine W.widen (k := LC - s.heap.size) (n := LS - jTot s.heap) (by omega) (by omega) ?_
        rw [hQ]
        exact W.iret (v := 8) hx hb hr (fun t ht hW => ⟨⟨8, (pf, G0), rfl, by (try dsimp only); exact ⟨(by first | omega | rfl | assumption | fail), (by first | omega | rfl | assumption | fail)⟩, ⟨hh_7.ra (by first | omega | (simp only; omega)) (by first | omega | (simp only; omega)) (M1 := [(r0, 7, 10, .int pf)]) [1] rfl ht, jNk.rf, by rw [ht]; exact hh_7.2.2.2.2.2.2.2.2.sub (L1 := [(jFg, jFr dC dI ca G0 r0)]) [0] rfl⟩⟩, by rw [ht]; try exact hh_7.1.1, fun q h9 hq => by rw [ht]; try exact hh_7.1.2.1 q h9 hq⟩) hh_7.1.2.2 dX5_act_318
      · skip
        have c_156' : w0_5.toInt = 6 := jb_ne_n (rfl) ((by decide)) c_156
        refine lv_aload_n hx hb dX5_act_286 rfl (lv_at hl 2 rfl) ?_
        refine lv_aload_n hx hb dX5_act_287 rfl (lv_at hl 3 rfl) ?_
        refine lv_aload_n hx hb dX5_act_288 rfl (lv_at hl 2 rfl) ?_
        refine lv_aload_n hx hb dX5_act_289 rfl (lv_at hl 5 rfl) ?_
        refine lv_aload_n hx hb dX5_act_290 rfl (lv_at hl 2 rfl) ?_
        refine j7_read hx hb hown hK (C := RX5) (T := TX5) (N := 11) rfl hly_7_1 hlk_23 (hh_7.at 2 rfl) dX5_act_291 ?_
        obtain ⟨v_158, hv_158, hh_159⟩ := hh_7.pin (C := RX10) (T := TX10) (N := 11) hB12 rfl (by decide) hg_sy (i := 9) (by decide) rfl
        clear hh_7
        obtain ⟨nodes_160, rfl, hg_nodes_160⟩ := hv_158
        refine j7_read hx hb hown hK (C := RX10) (T := TX10) (N := 11) rfl hly_12_9 hlk_121 (hh_159.at 0 rfl) dX5_act_294 ?_
        refine lv_aload_n hx hb dX5_act_297 rfl (lv_at hl 2 rfl) ?_
        refine j7_read hx hb hown hK (C := RX5) (T := TX5) (N := 11) rfl hly_7_1 hlk_23 (hh_159.at 3 rfl) dX5_act_298 ?_
        obtain ⟨v_161, hv_161, hh_162⟩ := hh_159.pin (C := RX10) (T := TX10) (N := 11) hB12 rfl (by decide) hg_sy (i := 10) (by decide) rfl
        clear hh_159
        obtain ⟨nodeCount_163, rfl, hlonodeCount_163, hhinodeCount_163⟩ := hv_161
        refine j7_read hx hb hown hK (C := RX10) (T := TX10) (N := 11) rfl hly_12_10 hlk_114 (hh_162.at 0 rfl) dX5_act_301 ?_
        obtain ⟨v_166, hv_166, hh_167⟩ := hh_162.pin (C := RX5) (T := TX5) (N := 11) hB7 rfl (by decide) hg_r0 (i := 6) (by decide) rfl
        obtain ⟨termFrom_168, rfl, hg_termFrom_168⟩ := hv_166
        obtain ⟨v_169, hv_169, hh_170⟩ := hh_167.pin (C := RX5) (T := TX5) (N := 11) hB7 rfl (by decide) hg_r0 (i := 7) (by decide) rfl
        obtain ⟨termSize_171, rfl, hg_termSize_171⟩ := hv_169
        obtain ⟨f_fx_172, hh_172⟩ := hh_170.cpin hB290 (by decide) (by decide) hg_termFrom_168
        clear hh_170
        obtain ⟨f_ft_173, hh_173⟩ := hh_172.cpin hB291 (by decide) (by decide) hg_termSize_171
        clear hh_172
        have hsz_164 := hh_173.2.2.2.2.2.1
        have htt_164 := hh_173.2.2.2.2.2.2.1
        refine W.room (fun hrc_164 hrs_164 => ?_)
        refine j_callx (A0 := jA base) (H0 := s.heap) (va_runV (As := [.ref formula_3, .ref nodes_160, .int nodeCount_163]) (rest := [.ref r1, .ref r0]) ⟨hx, hb, hml, hown, hts⟩ (uX5_opened l dC dI ca base B hB hAp hB7 hB280 hB290 hB291 G0 H_7 r0 formula_3 nodes_160 nodeCount_163 nformula_3 3000 termFrom_168 termSize_171 f_fx_172 f_ft_173 LC LS) (cwV 3 hts (jgV (jWr_85 _ (List.mem_of_getElem? (i := 16) rfl)) (jWr_85 _ (List.mem_of_getElem? (i := 17) rfl)) (jWr_85 _ (List.mem_of_getElem? (i := 18) rfl)) (jWr_2 _ (List.mem_of_getElem? (i := 4) rfl)) (jWr_85 _ (List.mem_of_getElem? (i := 19) rfl))) rfl rfl rfl (by decide +kernel) ⟨by rw [← hR]; exact Nat.le_of_ble_eq_true rfl, by rw [← hR]; exact Nat.le_of_ble_eq_true rfl⟩) ⟨fun a U g mk q => by obtain ⟨q0, q1, q2, qK, q10, q11, q12, q13, q14, q15, q16, q17⟩ := q; exact ⟨q0, q1, q2, jG.calling g mk a qK, q10, q11, q12, q13, q14, q15, q16, q17⟩, hh_173.recv (C := RX5) (T := TX5) (N := 11) hB7 rfl (by decide) hg_r0 hK, fun U hU hW => ⟨rfl, hU, hh_173.2.1, hG.step hW hU hh_173.1, hg_formula_3, hg_nodes_160, hg_r0, hg_termFrom_168, hg_termSize_171, (hh_173.2.2.1.sub (L1 := [(r0, 7, 6, .ref termFrom_168), (r0, 7, 7, .ref termSize_171)]) [1, 0] rfl), (hh_173.2.2.2.2.2.2.2.1.sub (L1 := [(termFrom_168, 290, 13, ca 1, f_fx_172), (termSize_171, 291, 13, ca 1, f_ft_173)]) [1, 0] rfl), by first | omega | (refine ⟨?_, ?_, ?_⟩ <;> (first | omega | rfl | assumption | decide | exact Or.inl rfl | exact Or.inr rfl | (simp only; omega)))⟩⟩ rfl rfl hl.1 rfl (lv_room (Nat.le_of_ble_eq_true rfl)) dX5_act_304 ⟨by rw [hRc]; omega, by rw [hRs]; omega⟩) hh_173.1 (fun q _ h => h) (fun q h => h) (fun r_165 u_164 t_164 H_164 locs_164 ht_164 hvm_164 hr_165 hb_164 hz_164 hk_164 hS_164 => ?_)
        rw [ht_164] at hb_164
        obtain ⟨m_ret_164, G_164⟩ := u_164
        simp only at hb_164
        obtain ⟨⟨hb_1641, hb_1642, hb_1643, hb_1644, hb_1645, hb_1646⟩, hN_164⟩ := hb_164
        have hN_164 : (jNk [0, 1, 2, 3, 4, 6, 7, 8, 9, 10, 11, 12, 13, 14, 15, 16, 17, 175]) G0 G_164 := hN_164.sub (by decide)
        have hh_164 : jSt (dC, dI) B base G0 G_164 EX5_actS s.heap (0 + (1)) (0 + (80)) [(r0, 7, 7, .ref termSize_171), (r0, 7, 6, .ref termFrom_168), (sy, 12, 10, .int nodeCount_163), (sy, 12, 9, .ref nodes_160), (r1, 5, 3, .ref formula_3), (r0, 7, 10, .int pf), (r0, 7, 1, .ref sy), (sy, 12, 5, .int wd)] [] [(jFg, jFr dC dI ca G0 r0)] H_164 locs_164 := (hh_173.callG hb_1641 hb_1642 hb_1643 hb_1644 hb_1645 hS_164 rfl (L1 := [(r0, 7, 7, .ref termSize_171), (r0, 7, 6, .ref termFrom_168), (sy, 12, 10, .int nodeCount_163), (sy, 12, 9, .ref nodes_160), (r1, 5, 3, .ref formula_3), (r0, 7, 10, .int pf), (r0, 7, 1, .ref sy), (sy, 12, 5, .int wd)]) [0, 1, 2, 3, 4, 5, 6, 7] rfl rfl (M1 := []) [] rfl rfl (I1 := [(jFg, jFr dC dI ca G0 r0)]) [0] rfl rfl).more hb_1646
        have hNn_164 : (jNk [0, 1, 2, 3, 4, 6, 7, 8, 9, 10, 11, 12, 13, 14, 15, 16, 17, 175]) G0 G_164 := (jNk.rf).tr hN_164
        have hg_174 := hb_1642 _ _ hg_r0
        have hg_175 := hb_1642 _ _ hg_r1
        have hg_176 := hb_1642 _ _ hg_r2
        have hg_177 := hb_1642 _ _ hg_formula_3
        have hg_178 := hb_1642 _ _ hg_termSize_171
        have hg_179 := hb_1642 _ _ hg_termFrom_168
        have hg_180 := hb_1642 _ _ hg_nodes_160
        have hg_181 := hb_1642 _ _ hg_sy
        have hd_182 := jFr.grow (hh_164.iv 0 rfl) hb_1642
        have hh_183 := hh_164.sub (L1 := [(r0, 7, 7, .ref termSize_171), (r0, 7, 6, .ref termFrom_168), (sy, 12, 10, .int nodeCount_163), (sy, 12, 9, .ref nodes_160), (r1, 5, 3, .ref formula_3), (r0, 7, 10, .int pf), (r0, 7, 1, .ref sy), (sy, 12, 5, .int wd)]) [0, 1, 2, 3, 4, 5, 6, 7] rfl (M1 := []) [] rfl (I1 := []) [] rfl
        clear hh_164
        have hh_184 := hh_183.addI (jFr.ie hd_182)
        clear hh_183
        obtain ⟨hr_165, hr_165p⟩ := hr_165
        try simp only at hr_165p
        rcases hr_165 with rfl | ⟨hr_165, hr_165n⟩
        · skip
          have hsz_185 := hh_184.2.2.2.2.2.1
          have htt_185 := hh_184.2.2.2.2.2.2.1
          refine W.room (fun hrc_185 hrs_185 => ?_)
          refine j_callx (A0 := jA base) (H0 := s.heap) (va_runV (As := [.null]) (rest := [.ref r0]) ⟨hx, hb, hml, hown, hts⟩ (uX3_withFormulaZ l dC dI ca base B hB hAp hB5 hB101 hB280 hB313 G_164 H_164 r1 n1 LC LS) (cwV 1 hts (jgV (jWr_87 _ (List.mem_of_getElem? (i := 10) rfl)) (jWr_87 _ (List.mem_of_getElem? (i := 11) rfl)) (jWr_87 _ (List.mem_of_getElem? (i := 12) rfl)) (jWr_82 _ (List.mem_of_getElem? (i := 10) rfl)) (jWr_87 _ (List.mem_of_getElem? (i := 13) rfl))) rfl rfl rfl (by decide +kernel) ⟨by rw [← hR]; exact Nat.le_of_ble_eq_true rfl, by rw [← hR]; exact Nat.le_of_ble_eq_true rfl⟩) ⟨fun a U g mk q => by obtain ⟨q0, q1, q2, qK, q10, q11, q12⟩ := q; exact ⟨q0, q1, q2, jG.calling g mk a qK, q10, q11, q12⟩, hh_184.recv (C := RX3) (T := TX3) (N := 4) hB5 rfl (by decide) hg_175 hK, fun U hU hW => ⟨rfl, hU, hh_184.2.1, hG.step hW hU hh_184.1, hg_175, jP.nil, by first | omega | rfl | assumption | decide | exact Or.inl rfl | exact Or.inr rfl | (simp only; omega)⟩⟩ rfl rfl hl.1 rfl (lv_room (Nat.le_of_ble_eq_true rfl)) dX5_act_307 ⟨by rw [hRc]; omega, by rw [hRs]; omega⟩) hh_184.1 (fun q _ h => h) (fun q h => h) (fun r_186 u_185 t_185 H_185 locs_185 ht_185 hvm_185 hr_186 hb_185 hz_185 hk_185 hS_185 => ?_)
          rw [ht_185] at hb_185
          obtain ⟨m_ret_185, G_185⟩ := u_185
          simp only at hb_185
          obtain ⟨⟨hb_1851, hb_1852, hb_1853, hb_1854, hb_1855, hb_1856⟩, hN_185⟩ := hb_185
          have hh_185 : jSt (dC, dI) B base G0 G_185 EX5_actS s.heap ((0 + (1)) + (1)) ((0 + (80)) + (4)) [(r0, 7, 7, .ref termSize_171), (r0, 7, 6, .ref termFrom_168), (sy, 12, 10, .int nodeCount_163), (sy, 12, 9, .ref nodes_160), (r1, 5, 3, .ref formula_3), (r0, 7, 10, .int pf), (r0, 7, 1, .ref sy), (sy, 12, 5, .int wd)] [] [(jFg, jFr dC dI ca G_164 r0)] H_185 locs_185 := (hh_184.callG hb_1851 hb_1852 hb_1853 hb_1854 hb_1855 hS_185 rfl (L1 := [(r0, 7, 7, .ref termSize_171), (r0, 7, 6, .ref termFrom_168), (sy, 12, 10, .int nodeCount_163), (sy, 12, 9, .ref nodes_160), (r1, 5, 3, .ref formula_3), (r0, 7, 10, .int pf), (r0, 7, 1, .ref sy), (sy, 12, 5, .int wd)]) [0, 1, 2, 3, 4, 5, 6, 7] rfl rfl (M1 := []) [] rfl rfl (I1 := [(jFg, jFr dC dI ca G_164 r0)]) [0] rfl rfl).more hb_1856
          have hNn_185 : (jNk [0, 1, 2, 3, 4, 6, 7, 8, 9, 10, 11, 12, 13, 14, 15, 16, 17, 175]) G0 G_185 := (hNn_164).tr hN_185
          have hg_187 := hb_1852 _ _ hg_174
          have hg_188 := hb_1852 _ _ hg_175
          have hg_189 := hb_1852 _ _ hg_176
          have hg_190 := hb_1852 _ _ hg_177
          have hg_191 := hb_1852 _ _ hg_178
          have hg_192 := hb_1852 _ _ hg_179
          have hg_193 := hb_1852 _ _ hg_180
          have hg_194 := hb_1852 _ _ hg_181
          have hd_195 := jFr.grow (hh_185.iv 0 rfl) hb_1852
          have hh_196 := hh_185.sub (L1 := [(r0, 7, 7, .ref termSize_171), (r0, 7, 6, .ref termFrom_168), (sy, 12, 10, .int nodeCount_163), (sy, 12, 9, .ref nodes_160), (r1, 5, 3, .ref formula_3), (r0, 7, 10, .int pf), (r0, 7, 1, .ref sy), (sy, 12, 5, .int wd)]) [0, 1, 2, 3, 4, 5, 6, 7] rfl (M1 := []) [] rfl (I1 := []) [] rfl
          clear hh_185
          have hh_197 := hh_196.addI (jFr.ie hd_195)
          clear hh_196
          obtain ⟨hr_186, hr_186n, hr_186p⟩ := hr_186
          try simp only at hr_186p
          obtain ⟨ret_198, rfl, hg_ret_198⟩ := hr_186
          have hsy_185 : s.heap.size ≤ ret_198 := Nat.le_trans hh_184.1.1 hr_186n.le
          have hsz_199 := hh_197.2.2.2.2.2.1
          have htt_199 := hh_197.2.2.2.2.2.2.1
          refine W.room (fun hrc_199 hrs_199 => ?_)
          refine va_calli (A0 := jA base) (H0 := s.heap) (va_runV (As := [.ref ret_198]) (rest := []) ⟨hx, hb, hml, hown, hts⟩ (uX5_add l dC dI ca base B hB hAp hB5 hB7 hB211 G_185 H_185 r0 ret_198 m_ret_185 pf) (cwV 1 hts (jgV (jWr_85 _ (List.mem_of_getElem? (i := 8) rfl)) (jWr_85 _ (List.mem_of_getElem? (i := 9) rfl)) (jWr_85 _ (List.mem_of_getElem? (i := 10) rfl)) (jWr_2 _ (List.mem_of_getElem? (i := 4) rfl)) (jWr_85 _ (List.mem_of_getElem? (i := 11) rfl))) rfl rfl rfl (by decide +kernel) ⟨by rw [← hR]; exact Nat.le_of_ble_eq_true rfl, by rw [← hR]; exact Nat.le_of_ble_eq_true rfl⟩) ⟨fun a U g mk q => by obtain ⟨q0, q1, q2, qK, q10, q11, q12, q13, q14, q15⟩ := q; exact ⟨q0, q1, q2, jG.calling g mk a qK, (va_K.moved (Vm.Alike.refl U.vm) q10), q11, q12, q13, q14, q15⟩, hh_197.recv (C := RX5) (T := TX5) (N := 11) hB7 rfl (by decide) hg_187 hK, fun U hU hW => ⟨rfl, hU, hh_197.2.1, hG.step hW hU hh_197.1, va_K.moved hW.alike hK2, hg_187, hg_ret_198, (hh_197.2.2.1.sub (L1 := [(r0, 7, 10, .int pf)]) [5] rfl), (hh_197.2.2.2.2.2.2.2.2.sub (L1 := [(jFg, jFr dC dI ca G_185 r0)]) [0] rfl), by first | omega | (refine ⟨?_, ?_, ?_⟩ <;> (first | omega | rfl | assumption | decide | exact Or.inl rfl | exact Or.inr rfl | (simp only; omega)))⟩⟩ rfl rfl hl.1 rfl (lv_room (Nat.le_of_ble_eq_true rfl)) dX5_act_310 ⟨by rw [hRc]; show _ + 0 ≤ _; omega, by rw [hRs]; show _ + 0 ≤ _; omega⟩) hh_197.1 (fun q _ h => h) (fun q h => h) (fun r_200 u_199 t_199 H_199 locs_199 ht_199 hvm_199 hr_200 hb_199 hz_199 hk_199 hS_199 => ?_)
          obtain ⟨qf_199, rfl⟩ : ∃ z, z = u_199 := ⟨_, rfl⟩
          rw [ht_199] at hb_199
          obtain ⟨hb_199, hbE_199⟩ := hb_199
          obtain ⟨hb_1991, hb_1992, hb_1993, hb_1994, hb_1995⟩ := hb_199
          have hh_199 : jSt (dC, dI) B base G0 G_185 EX5_actS s.heap ((0 + (1)) + (1)) ((0 + (80)) + (4)) [(r0, 7, 10, .int qf_199), (r0, 7, 7, .ref termSize_171), (r0, 7, 6, .ref termFrom_168), (sy, 12, 10, .int nodeCount_163), (sy, 12, 9, .ref nodes_160), (r1, 5, 3, .ref formula_3), (r0, 7, 1, .ref sy), (sy, 12, 5, .int wd)] [] [(jFg, jFr dC dI ca G_185 r0)] H_199 locs_199 := (((hh_197.call hb_1991 hb_1992 hb_1993 hb_1994 hS_199 rfl (L1 := [(r0, 7, 7, .ref termSize_171), (r0, 7, 6, .ref termFrom_168), (sy, 12, 10, .int nodeCount_163), (sy, 12, 9, .ref nodes_160), (r1, 5, 3, .ref formula_3), (r0, 7, 1, .ref sy), (sy, 12, 5, .int wd)]) [0, 1, 2, 3, 4, 6, 7] rfl rfl (M1 := []) [] rfl rfl (I1 := []) [] rfl rfl).more hb_1995)).addIs hbE_199
          clear hh_197 ht_199 hvm_199 hz_199 hk_199 hS_199 hb_1991 hb_1992 hb_1993 hb_1994 hb_1995
          clear  hbE_199
          obtain ⟨hr_200_0, hr_200_1⟩ := hr_200
          refine lv_goto (tgt := 318) hx hb dX5_act_313 (by decide) ?_
          have hsz_201 := hh_199.2.2.2.2.2.1
          have htt_201 := hh_199.2.2.2.2.2.2.1
          refine W.room (fun hrc_201 hrs_201 => ?_)
          refine W.widen (k := LC - s.heap.size) (n := LS - jTot s.heap) (by omega) (by omega) ?_
          rw [hQ]
          exact W.iret (v := r_200) hx hb hr (fun t ht hW => ⟨⟨r_200, (qf_199, G_185), rfl, by (try dsimp only); exact ⟨(by first | omega | rfl | assumption | fail), (by first | omega | rfl | assumption | fail)⟩, ⟨hh_199.ra (by first | omega | (simp only; omega)) (by first | omega | (simp only; omega)) (M1 := [(r0, 7, 10, .int qf_199)]) [0] rfl ht, hNn_185, by rw [ht]; exact hh_199.2.2.2.2.2.2.2.2.sub (L1 := [(jFg, jFr dC dI ca G_185 r0)]) [0] rfl⟩⟩, by rw [ht]; try exact hh_199.1.1, fun q h9 hq => by rw [ht]; try exact hh_199.1.2.1 q h9 hq⟩) hh_199.1.2.2 dX5_act_318
        · skip
          obtain ⟨ret_202, rfl, hg_ret_202⟩ := hr_165
          have hsy_164 : s.heap.size ≤ ret_202 := Nat.le_trans hh_173.1.1 hr_165n.le
          have hsz_203 := hh_184.2.2.2.2.2.1
          have htt_203 := hh_184.2.2.2.2.2.2.1
          refine W.room (fun hrc_203 hrs_203 => ?_)
          refine j_callx (A0 := jA base) (H0 := s.heap) (va_runV (As := [.ref ret_202]) (rest := [.ref r0]) ⟨hx, hb, hml, hown, hts⟩ (uX3_withFormula l dC dI ca base B hB hAp hB5 hB101 hB280 hB313 G_164 H_164 r1 ret_202 n1 m_ret_164 LC LS) (cwV 1 hts (jgV (jWr_87 _ (List.mem_of_getElem? (i := 10) rfl)) (jWr_87 _ (List.mem_of_getElem? (i := 11) rfl)) (jWr_87 _ (List.mem_of_getElem? (i := 12) rfl)) (jWr_82 _ (List.mem_of_getElem? (i := 10) rfl)) (jWr_87 _ (List.mem_of_getElem? (i := 13) rfl))) rfl rfl rfl (by decide +kernel) ⟨by rw [← hR]; exact Nat.le_of_ble_eq_true rfl, by rw [← hR]; exact Nat.le_of_ble_eq_true rfl⟩) ⟨fun a U g mk q => by obtain ⟨q0, q1, q2, qK, q10, q11, q12, q13⟩ := q; exact ⟨q0, q1, q2, jG.calling g mk a qK, q10, q11, q12, q13⟩, hh_184.recv (C := RX3) (T := TX3) (N := 4) hB5 rfl (by decide) hg_175 hK, fun U hU hW => ⟨rfl, hU, hh_184.2.1, hG.step hW hU hh_184.1, hg_175, hg_ret_202, jP.nil, by first | omega | (refine ⟨?_, ?_⟩ <;> (first | omega | rfl | assumption | decide | exact Or.inl rfl | exact Or.inr rfl | (simp only; omega)))⟩⟩ rfl rfl hl.1 rfl (lv_room (Nat.le_of_ble_eq_true rfl)) dX5_act_307 ⟨by rw [hRc]; omega, by rw [hRs]; omega⟩) hh_184.1 (fun q _ h => h) (fun q h => h) (fun r_204 u_203 t_203 H_203 locs_203 ht_203 hvm_203 hr_204 hb_203 hz_203 hk_203 hS_203 => ?_)
          rw [ht_203] at hb_203
          obtain ⟨m_ret_203, G_203⟩ := u_203
          simp only at hb_203
          obtain ⟨⟨hb_2031, hb_2032, hb_2033, hb_2034, hb_2035, hb_2036⟩, hN_203⟩ := hb_203
          have hh_203 : jSt (dC, dI) B base G0 G_203 EX5_actS s.heap ((0 + (1)) + (1)) ((0 + (80)) + (4)) [(r0, 7, 7, .ref termSize_171), (r0, 7, 6, .ref termFrom_168), (sy, 12, 10, .int nodeCount_163), (sy, 12, 9, .ref nodes_160), (r1, 5, 3, .ref formula_3), (r0, 7, 10, .int pf), (r0, 7, 1, .ref sy), (sy, 12, 5, .int wd)] [] [(jFg, jFr dC dI ca G_164 r0)] H_203 locs_203 := (hh_184.callG hb_2031 hb_2032 hb_2033 hb_2034 hb_2035 hS_203 rfl (L1 := [(r0, 7, 7, .ref termSize_171), (r0, 7, 6, .ref termFrom_168), (sy, 12, 10, .int nodeCount_163), (sy, 12, 9, .ref nodes_160), (r1, 5, 3, .ref formula_3), (r0, 7, 10, .int pf), (r0, 7, 1, .ref sy), (sy, 12, 5, .int wd)]) [0, 1, 2, 3, 4, 5, 6, 7] rfl rfl (M1 := []) [] rfl rfl (I1 := [(jFg, jFr dC dI ca G_164 r0)]) [0] rfl rfl).more hb_2036
          have hNn_203 : (jNk [0, 1, 2, 3, 4, 6, 7, 8, 9, 10, 11, 12, 13, 14, 15, 16, 17, 175]) G0 G_203 := (hNn_164).tr hN_203
          have hg_205 := hb_2032 _ _ hg_174
          have hg_206 := hb_2032 _ _ hg_175
          have hg_207 := hb_2032 _ _ hg_176
          have hg_208 := hb_2032 _ _ hg_177
          have hg_209 := hb_2032 _ _ hg_178
          have hg_210 := hb_2032 _ _ hg_179
          have hg_211 := hb_2032 _ _ hg_180
          have hg_212 := hb_2032 _ _ hg_181
          have hd_213 := jFr.grow (hh_203.iv 0 rfl) hb_2032
          have hh_214 := hh_203.sub (L1 := [(r0, 7, 7, .ref termSize_171), (r0, 7, 6, .ref termFrom_168), (sy, 12, 10, .int nodeCount_163), (sy, 12, 9, .ref nodes_160), (r1, 5, 3, .ref formula_3), (r0, 7, 10, .int pf), (r0, 7, 1, .ref sy), (sy, 12, 5, .int wd)]) [0, 1, 2, 3, 4, 5, 6, 7] rfl (M1 := []) [] rfl (I1 := []) [] rfl
          clear hh_203
          have hh_215 := hh_214.addI (jFr.ie hd_213)
          clear hh_214
          obtain ⟨hr_204, hr_204n, hr_204p⟩ := hr_204
          try simp only at hr_204p
          obtain ⟨ret_216, rfl, hg_ret_216⟩ := hr_204
          have hsy_203 : s.heap.size ≤ ret_216 := Nat.le_trans hh_184.1.1 hr_204n.le
          have hsz_217 := hh_215.2.2.2.2.2.1
          have htt_217 := hh_215.2.2.2.2.2.2.1
          refine W.room (fun hrc_217 hrs_217 => ?_)
          refine va_calli (A0 := jA base) (H0 := s.heap) (va_runV (As := [.ref ret_216]) (rest := []) ⟨hx, hb, hml, hown, hts⟩ (uX5_add l dC dI ca base B hB hAp hB5 hB7 hB211 G_203 H_203 r0 ret_216 m_ret_203 pf) (cwV 1 hts (jgV (jWr_85 _ (List.mem_of_getElem? (i := 8) rfl)) (jWr_85 _ (List.mem_of_getElem? (i := 9) rfl)) (jWr_85 _ (List.mem_of_getElem? (i := 10) rfl)) (jWr_2 _ (List.mem_of_getElem? (i := 4) rfl)) (jWr_85 _ (List.mem_of_getElem? (i := 11) rfl))) rfl rfl rfl (by decide +kernel) ⟨by rw [← hR]; exact Nat.le_of_ble_eq_true rfl, by rw [← hR]; exact Nat.le_of_ble_eq_true rfl⟩) ⟨fun a U g mk q => by obtain ⟨q0, q1, q2, qK, q10, q11, q12, q13, q14, q15⟩ := q; exact ⟨q0, q1, q2, jG.calling g mk a qK, (va_K.moved (Vm.Alike.refl U.vm) q10), q11, q12, q13, q14, q15⟩, hh_215.recv (C := RX5) (T := TX5) (N := 11) hB7 rfl (by decide) hg_205 hK, fun U hU hW => ⟨rfl, hU, hh_215.2.1, hG.step hW hU hh_215.1, va_K.moved hW.alike hK2, hg_205, hg_ret_216, (hh_215.2.2.1.sub (L1 := [(r0, 7, 10, .int pf)]) [5] rfl), (hh_215.2.2.2.2.2.2.2.2.sub (L1 := [(jFg, jFr dC dI ca G_203 r0)]) [0] rfl), by first | omega | (refine ⟨?_, ?_, ?_⟩ <;> (first | omega | rfl | assumption | decide | exact Or.inl rfl | exact Or.inr rfl | (simp only; omega)))⟩⟩ rfl rfl hl.1 rfl (lv_room (Nat.le_of_ble_eq_true rfl)) dX5_act_310 ⟨by rw [hRc]; show _ + 0 ≤ _; omega, by rw [hRs]; show _ + 0 ≤ _; omega⟩) hh_215.1 (fun q _ h => h) (fun q h => h) (fun r_218 u_217 t_217 H_217 locs_217 ht_217 hvm_217 hr_218 hb_217 hz_217 hk_217 hS_217 => ?_)
          obtain ⟨qf_217, rfl⟩ : ∃ z, z = u_217 := ⟨_, rfl⟩
          rw [ht_217] at hb_217
          obtain ⟨hb_217, hbE_217⟩ := hb_217
          obtain ⟨hb_2171, hb_2172, hb_2173, hb_2174, hb_2175⟩ := hb_217
          have hh_217 : jSt (dC, dI) B base G0 G_203 EX5_actS s.heap ((0 + (1)) + (1)) ((0 + (80)) + (4)) [(r0, 7, 10, .int qf_217), (r0, 7, 7, .ref termSize_171), (r0, 7, 6, .ref termFrom_168), (sy, 12, 10, .int nodeCount_163), (sy, 12, 9, .ref nodes_160), (r1, 5, 3, .ref formula_3), (r0, 7, 1, .ref sy), (sy, 12, 5, .int wd)] [] [(jFg, jFr dC dI ca G_203 r0)] H_217 locs_217 := (((hh_215.call hb_2171 hb_2172 hb_2173 hb_2174 hS_217 rfl (L1 := [(r0, 7, 7, .ref termSize_171), (r0, 7, 6, .ref termFrom_168), (sy, 12, 10, .int nodeCount_163), (sy, 12, 9, .ref nodes_160), (r1, 5, 3, .ref formula_3), (r0, 7, 1, .ref sy), (sy, 12, 5, .int wd)]) [0, 1, 2, 3, 4, 6, 7] rfl rfl (M1 := []) [] rfl rfl (I1 := []) [] rfl rfl).more hb_2175)).addIs hbE_217
          clear hh_215 ht_217 hvm_217 hz_217 hk_217 hS_217 hb_2171 hb_2172 hb_2173 hb_2174 hb_2175
          clear  hbE_217
          obtain ⟨hr_218_0, hr_218_1⟩ := hr_218
          refine lv_goto (tgt := 318) hx hb dX5_act_313 (by decide) ?_
          have hsz_219 := hh_217.2.2.2.2.2.1
          have htt_219 := hh_217.2.2.2.2.2.2.1
          refine W.room (fun hrc_219 hrs_219 => ?_)
          refine W.widen (k := LC - s.heap.size) (n := LS - jTot s.heap) (by omega) (by omega) ?_
          rw [hQ]
          exact W.iret (v := r_218) hx hb hr (fun t ht hW => ⟨⟨r_218, (qf_217, G_203), rfl, by (try dsimp only); exact ⟨(by first | omega | rfl | assumption | fail), (by first | omega | rfl | assumption | fail)⟩, ⟨hh_217.ra (by first | omega | (simp only; omega)) (by first | omega | (simp only; omega)) (M1 := [(r0, 7, 10, .int qf_217)]) [0] rfl ht, hNn_203, by rw [ht]; exact hh_217.2.2.2.2.2.2.2.2.sub (L1 := [(jFg, jFr dC dI ca G_203 r0)]) [0] rfl⟩⟩, by rw [ht]; try exact hh_217.1.1, fun q h9 hq => by rw [ht]; try exact hh_217.1.2.1 q h9 hq⟩) hh_217.1.2.2 dX5_act_318
    · refine lv_tableIn (off := 281) (tgt := 319) hx hb dX5_act_38 (by omega) (by omega) (by rw [c_9]; rfl) (by decide) ?_
      refine lv_aload_n hx hb dX5_act_319 rfl (lv_at hl 2 rfl) ?_
      refine lv_aload_n hx hb dX5_act_320 rfl (lv_at hl 3 rfl) ?_
      refine lv_aload_n hx hb dX5_act_321 rfl (lv_at hl 4 rfl) ?_
      have hsz_220 := hh_7.2.2.2.2.2.1
      have htt_220 := hh_7.2.2.2.2.2.2.1
      refine W.room (fun hrc_220 hrs_220 => ?_)
      refine va_calli (A0 := jA base) (H0 := s.heap) (va_runV (As := [.ref r1, .ref r2]) (rest := []) ⟨hx, hb, hml, hown, hts⟩ (uX5_use l dC dI ca base B hB hAp hB5 hB7 hB12 hB101 hB211 hB280 hB290 hB291 hB292 hB313 hB315 G0 H_7 r0 r1 r2 n1 n2 pf LC LS) (cwV 2 hts (jgV (jWr_88 _ (List.mem_of_getElem? (i := 4) rfl)) (jWr_88 _ (List.mem_of_getElem? (i := 5) rfl)) (jWr_88 _ (List.mem_of_getElem? (i := 6) rfl)) (jWr_2 _ (List.mem_of_getElem? (i := 4) rfl)) (jWr_88 _ (List.mem_of_getElem? (i := 7) rfl))) rfl rfl rfl (by decide +kernel) ⟨by rw [← hR]; exact Nat.le_of_ble_eq_true rfl, by rw [← hR]; exact Nat.le_of_ble_eq_true rfl⟩) ⟨fun a U g mk q => by obtain ⟨q0, q1, q2, qK, q10, q11, q12, q13, q14, q15, q16, q17⟩ := q; exact ⟨q0, q1, q2, jG.calling g mk a qK, (va_K.moved (Vm.Alike.refl U.vm) q10), (jK5.moved (Vm.Alike.refl U.vm) q11), q12, q13, q14, q15, q16, q17⟩, hh_7.recv (C := RX5) (T := TX5) (N := 11) hB7 rfl (by decide) hg_r0 hK, fun U hU hW => ⟨rfl, hU, hh_7.2.1, hG.step hW hU hh_7.1, va_K.moved hW.alike hK2, jK5.moved hW.alike hK5, hg_r0, hg_r1, hg_r2, (hh_7.2.2.1.sub (L1 := [(r0, 7, 10, .int pf)]) [1] rfl), (hh_7.2.2.2.2.2.2.2.2.sub (L1 := [(jFg, jFr dC dI ca G0 r0)]) [0] rfl), by first | omega | (refine ⟨?_, ?_, ?_, ?_⟩ <;> (first | omega | rfl | assumption | decide | exact Or.inl rfl | exact Or.inr rfl | (simp only; omega)))⟩⟩ rfl rfl hl.1 rfl (lv_room (Nat.le_of_ble_eq_true rfl)) dX5_act_322 ⟨by rw [hRc]; omega, by rw [hRs]; omega⟩) hh_7.1 (fun q _ h => h) (fun q h => h) (fun r_221 u_220 t_220 H_220 locs_220 ht_220 hvm_220 hr_221 hb_220 hz_220 hk_220 hS_220 => ?_)
      obtain ⟨qf_220, G_220⟩ := u_220
      rw [ht_220] at hb_220
      simp only at hb_220
      obtain ⟨⟨hb_2201, hb_2202, hb_2203, hb_2204, hb_2205, hb_2206⟩, hN_220, hbE_220⟩ := hb_220
      have hh_220 : jSt (dC, dI) B base G0 G_220 EX5_actS s.heap (0 + (4)) (0 + (120)) [(r0, 7, 10, .int qf_220), (r1, 5, 3, .ref formula_3), (r0, 7, 1, .ref sy), (sy, 12, 5, .int wd)] [] [] H_220 locs_220 := (hh_7.callG hb_2201 hb_2202 hb_2203 hb_2204 hb_2205 hS_220 rfl (L1 := [(r1, 5, 3, .ref formula_3), (r0, 7, 1, .ref sy), (sy, 12, 5, .int wd)]) [0, 2, 3] rfl rfl (M1 := []) [] rfl rfl (I1 := []) [] rfl rfl).more hb_2206
      have hNn_220 : (jNk [0, 1, 2, 3, 4, 6, 7, 8, 9, 10, 11, 12, 13, 14, 15, 16, 17, 175]) G0 G_220 := (jNk.rf).tr hN_220
      have hg_222 := hb_2202 _ _ hg_r0
      have hg_223 := hb_2202 _ _ hg_r1
      have hg_224 := hb_2202 _ _ hg_r2
      have hg_225 := hb_2202 _ _ hg_formula_3
      have hg_226 := hb_2202 _ _ hg_sy
      have hh_227 := hh_220.addIs hbE_220
      try simp only at hr_221
      obtain ⟨hr_221_0, hr_221_1⟩ := hr_221
      have hsz_228 := hh_227.2.2.2.2.2.1
      have htt_228 := hh_227.2.2.2.2.2.2.1
      refine W.room (fun hrc_228 hrs_228 => ?_)
      refine W.widen (k := LC - s.heap.size) (n := LS - jTot s.heap) (by omega) (by omega) ?_
      rw [hQ]
      exact W.iret (v := r_221) hx hb hr (fun t ht hW => ⟨⟨r_221, (qf_220, G_220), rfl, by (try dsimp only); exact ⟨(by first | omega | rfl | assumption | fail), (by first | omega | rfl | assumption | fail)⟩, ⟨hh_227.ra (by first | omega | (simp only; omega)) (by first | omega | (simp only; omega)) (M1 := [(r0, 7, 10, .int qf_220)]) [0] rfl ht, hNn_220, by rw [ht]; exact hh_227.2.2.2.2.2.2.2.2.sub (L1 := [(jFg, jFr dC dI ca G_220 r0)]) [0] rfl⟩⟩, by rw [ht]; try exact hh_227.1.1, fun q h9 hq => by rw [ht]; try exact hh_227.1.2.1 q h9 hq⟩) hh_227.1.2.2 dX5_act_325
    · refine lv_tableIn (off := 288) (tgt := 326) hx hb dX5_act_38 (by omega) (by omega) (by rw [c_9]; rfl) (by decide) ?_
      refine lv_iload hx hb dX5_act_326 (lv_at hl 1 rfl) ?_
      refine lv_iconst (v := 4) hx hb dX5_act_328 (by decide) ?_
      have C349 : ∀ (w0_229 : Int32) (H_229 : Heap) (locs_229 : List Loc), jSt (dC, dI) B base G0 G0 EX5_actS s.heap 0 0 [(r1, 5, 3, .ref formula_3), (r0, 7, 10, .int pf), (r0, 7, 1, .ref sy), (sy, 12, 5, .int wd)] [] [(jFg, jFr dC dI ca G0 r0)] H_229 locs_229 → (w0_229 = 0 ∨ w0_229 = 1) → (True) → ∀ ls : Array Slot, lv_has ls 9 [(0, .ref r0), (1, .ref r1), (2, .ref r2), (3, .ref formula_3), (4, .int w0_5), (5, .int r_8)] → W p l e R s m ([.ref r0, .ref r1, .ref r2] : List Value).toArray below meth c H_229 locs_229 0 0 Q (F0 m 349 ls [.int w0_229]) := by
        intro w0_229 H_229 locs_229 hh_229 hb_w0_229 hi_229 ls hl
        have hb_w0_229' := jb_01 hb_w0_229
        try clear hr_8_1
        refine lv_istore (lv' := [(8, .int w0_229), (0, .ref r0), (1, .ref r1), (2, .ref r2), (3, .ref formula_3), (4, .int w0_5), (5, .int r_8)]) hx hb dX5_act_349 hl (by decide) rfl (fun ls hl => ?_)
        refine lv_iload hx hb dX5_act_351 (lv_at hl 0 rfl) ?_
        refine lv_if_eq (tgt := 376) hx hb dX5_act_353 (by decide) (fun c_230 => ?_) (fun c_230 => ?_)
        · skip
          have c_230' : w0_229.toInt = 0 := jb_eq (rfl) ((by decide)) c_230
          refine lv_bipush (v := 8) hx hb dX5_act_376 (by decide) ?_
          have hsz_231 := hh_229.2.2.2.2.2.1
          have htt_231 := hh_229.2.2.2.2.2.2.1
          refine W.room (fun hrc_231 hrs_231 => ?_)
          refine W.widen (k := LC - s.heap.size) (n := LS - jTot s.heap) (by omega) (by omega) ?_
          rw [hQ]
          exact W.iret (v := 8) hx hb hr (fun t ht hW => ⟨⟨8, (pf, G0), rfl, by (try dsimp only); exact ⟨(by first | omega | rfl | assumption | fail), (by first | omega | rfl | assumption | fail)⟩, ⟨hh_229.ra (by first | omega | (simp only; omega)) (by first | omega | (simp only; omega)) (M1 := [(r0, 7, 10, .int pf)]) [1] rfl ht, jNk.rf, by rw [ht]; exact hh_229.2.2.2.2.2.2.2.2.sub (L1 := [(jFg, jFr dC dI ca G0 r0)]) [0] rfl⟩⟩, by rw [ht]; try exact hh_229.1.1, fun q h9 hq => by rw [ht]; try exact hh_229.1.2.1 q h9 hq⟩) hh_229.1.2.2 dX5_act_378
        · skip
          have c_230' : w0_229.toInt ≠ 0 := jb_eq_n (rfl) ((by decide)) c_230
          refine lv_aload_n hx hb dX5_act_356 rfl (lv_at hl 4 rfl) ?_
          refine lv_iconst (v := 1) hx hb dX5_act_357 (by decide) ?_
          refine lv_aload_n hx hb dX5_act_358 rfl (lv_at hl 4 rfl) ?_
          refine lv_iload hx hb dX5_act_359 (lv_at hl 6 rfl) ?_
          refine lv_aload_n hx hb dX5_act_361 rfl (lv_at hl 4 rfl) ?_
          refine j7_len hx hb hK hh_229 hB280 1 rfl (by decide) hg_formula_3 (by omega) dX5_act_362 (fun z_232 hz_232 => ?_)
          refine lv_iload hx hb dX5_act_363 (lv_at hl 6 rfl) ?_
          refine lv_isub hx hb dX5_act_365 ?_
          refine lv_topi (fun z_233 ez_233 => ?_)
          have hz_233 : z_233.toInt = z_232.toInt - r_8.toInt := by rw [ez_233]; exact jb_isub2 (rfl) (rfl) (by omega)
          have hsz_234 := hh_229.2.2.2.2.2.1
          have htt_234 := hh_229.2.2.2.2.2.2.1
          refine W.room (fun hrc_234 hrs_234 => ?_)
          refine va_calli (A0 := jA base) (H0 := s.heap) (va_runS (As := [.ref formula_3, .int 1, .ref formula_3, .int r_8, .int z_233]) (rest := []) ⟨hx, hb, hml, hown, hts⟩ (uX5_standsAtB l dC dI ca base B hB hAp hB280 G0 H_229 formula_3 1 formula_3 r_8 z_233 nformula_3 nformula_3) (va_cwS 5 hts (jgS (jWr_88 _ (List.mem_of_getElem? (i := 8) rfl)) (jWr_88 _ (List.mem_of_getElem? (i := 9) rfl)) (jWr_2 _ (List.mem_of_getElem? (i := 4) rfl)) (jWr_88 _ (List.mem_of_getElem? (i := 10) rfl))) rfl rfl rfl (by decide +kernel) ⟨by rw [← hR]; exact Nat.le_of_ble_eq_true rfl, by rw [← hR]; exact Nat.le_of_ble_eq_true rfl⟩) ⟨fun a U g mk q => by obtain ⟨q0, q1, q2, qK, q10, q11, q12, q13⟩ := q; exact ⟨q0, q1, q2, jG.calling g mk a qK, q10, q11, q12, q13⟩, fun U hU hW => ⟨rfl, hU, hh_229.2.1, hG.step hW hU hh_229.1, hg_formula_3, hg_formula_3, jP.nil, by first | omega | (refine ⟨?_, ?_, ?_, ?_, ?_⟩ <;> (first | omega | rfl | assumption | decide | exact Or.inl rfl | exact Or.inr rfl | (simp only; omega)))⟩⟩ rfl rfl hl.1 rfl (lv_room (Nat.le_of_ble_eq_true rfl)) dX5_act_366 ⟨by rw [hRc]; show _ + 0 ≤ _; omega, by rw [hRs]; show _ + 0 ≤ _; omega⟩) hh_229.1 (fun q _ h => h) (fun q h => h) (fun r_235 u_234 t_234 H_234 locs_234 ht_234 hvm_234 hr_235 hb_234 hz_234 hk_234 hS_234 => ?_)
          rw [ht_234] at hb_234
          obtain ⟨hb_2341, hb_2342, hb_2343, hb_2344, hb_2345⟩ := hb_234
          have hh_234 : jSt (dC, dI) B base G0 G0 EX5_actS s.heap 0 0 [(r1, 5, 3, .ref formula_3), (r0, 7, 10, .int pf), (r0, 7, 1, .ref sy), (sy, 12, 5, .int wd)] [] [(jFg, jFr dC dI ca G0 r0)] H_234 locs_234 := ((hh_229.call hb_2341 hb_2342 hb_2343 hb_2344 hS_234 rfl (L1 := [(r1, 5, 3, .ref formula_3), (r0, 7, 10, .int pf), (r0, 7, 1, .ref sy), (sy, 12, 5, .int wd)]) [0, 1, 2, 3] rfl rfl (M1 := []) [] rfl rfl (I1 := [(jFg, jFr dC dI ca G0 r0)]) [0] rfl rfl).more hb_2345)
          clear hh_229 ht_234 hvm_234 hz_234 hk_234 hS_234 hb_2341 hb_2342 hb_2343 hb_2344 hb_2345
          obtain ⟨hr_235b, hr_235p⟩ := hr_235
          have hr_235' := jb_01 hr_235b
          refine lv_if_eq (tgt := 376) hx hb dX5_act_369 (by decide) (fun c_236 => ?_) (fun c_236 => ?_)
          · skip
            have c_236' : r_235.toInt = 0 := jb_eq (rfl) ((by decide)) c_236
            refine lv_bipush (v := 8) hx hb dX5_act_376 (by decide) ?_
            have hsz_237 := hh_234.2.2.2.2.2.1
            have htt_237 := hh_234.2.2.2.2.2.2.1
            refine W.room (fun hrc_237 hrs_237 => ?_)
            refine W.widen (k := LC - s.heap.size) (n := LS - jTot s.heap) (by omega) (by omega) ?_
            rw [hQ]
            exact W.iret (v := 8) hx hb hr (fun t ht hW => ⟨⟨8, (pf, G0), rfl, by (try dsimp only); exact ⟨(by first | omega | rfl | assumption | fail), (by first | omega | rfl | assumption | fail)⟩, ⟨hh_234.ra (by first | omega | (simp only; omega)) (by first | omega | (simp only; omega)) (M1 := [(r0, 7, 10, .int pf)]) [1] rfl ht, jNk.rf, by rw [ht]; exact hh_234.2.2.2.2.2.2.2.2.sub (L1 := [(jFg, jFr dC dI ca G0 r0)]) [0] rfl⟩⟩, by rw [ht]; try exact hh_234.1.1, fun q h9 hq => by rw [ht]; try exact hh_234.1.2.1 q h9 hq⟩) hh_234.1.2.2 dX5_act_378
          · skip
            have c_236' : r_235.toInt ≠ 0 := jb_eq_n (rfl) ((by decide)) c_236
            refine lv_iconst (v := 0) hx hb dX5_act_372 (by decide) ?_
            refine lv_goto (tgt := 378) hx hb dX5_act_373 (by decide) ?_
            have hsz_238 := hh_234.2.2.2.2.2.1
            have htt_238 := hh_234.2.2.2.2.2.2.1
            refine W.room (fun hrc_238 hrs_238 => ?_)
            refine W.widen (k := LC - s.heap.size) (n := LS - jTot s.heap) (by omega) (by omega) ?_
            rw [hQ]
            exact W.iret (v := 0) hx hb hr (fun t ht hW => ⟨⟨0, (pf, G0), rfl, by (try dsimp only); exact ⟨(by first | omega | rfl | assumption | fail), (by first | omega | rfl | assumption | fail)⟩, ⟨hh_234.ra (by first | omega | (simp only; omega)) (by first | omega | (simp only; omega)) (M1 := [(r0, 7, 10, .int pf)]) [1] rfl ht, jNk.rf, by rw [ht]; exact hh_234.2.2.2.2.2.2.2.2.sub (L1 := [(jFg, jFr dC dI ca G0 r0)]) [0] rfl⟩⟩, by rw [ht]; try exact hh_234.1.1, fun q h9 hq => by rw [ht]; try exact hh_234.1.2.1 q h9 hq⟩) hh_234.1.2.2 dX5_act_378
      refine lv_icmp_ne (tgt := 348) hx hb dX5_act_329 (by decide) (fun c_239 => ?_) (fun c_239 => ?_)
      · skip
        have c_239' : w0_5.toInt ≠ 4 := jb_ne (rfl) ((by decide)) c_239
        refine lv_iconst (v := 0) hx hb dX5_act_348 (by decide) ?_
        refine W.tight (c2 := 0) (n2 := 0) hh_7.2.2.2.2.2.1 hh_7.2.2.2.2.2.2.1 ?_
        exact C349 0 _ _ hh_7 (Or.inl rfl) (trivial) _ (lv_sub hl [2, 3, 4, 5, 1, 0] rfl)
      · skip
        have c_239' : w0_5.toInt = 4 := jb_ne_n (rfl) ((by decide)) c_239
        refine lv_iload hx hb dX5_act_332 (lv_at hl 0 rfl) ?_
        refine lv_iconst (v := 1) hx hb dX5_act_334 (by decide) ?_
        refine lv_isub hx hb dX5_act_335 ?_
        refine lv_topi (fun z_240 ez_240 => ?_)
        have hz_240 : z_240.toInt = r_8.toInt - 1 := by rw [ez_240]; exact jb_isub2 (rfl) ((by decide)) (by omega)
        refine lv_aload_n hx hb dX5_act_336 rfl (lv_at hl 5 rfl) ?_
        refine j7_len hx hb hK hh_7 hB280 1 rfl (by decide) hg_formula_3 (by omega) dX5_act_337 (fun z_241 hz_241 => ?_)
        refine lv_iload hx hb dX5_act_338 (lv_at hl 0 rfl) ?_
        refine lv_isub hx hb dX5_act_340 ?_
        refine lv_topi (fun z_242 ez_242 => ?_)
        have hz_242 : z_242.toInt = z_241.toInt - r_8.toInt := by rw [ez_242]; exact jb_isub2 (rfl) (rfl) (by omega)
        refine lv_icmp_ne (tgt := 348) hx hb dX5_act_341 (by decide) (fun c_243 => ?_) (fun c_243 => ?_)
        · skip
          have c_243' : z_240.toInt ≠ z_242.toInt := jb_ne (rfl) (rfl) c_243
          refine lv_iconst (v := 0) hx hb dX5_act_348 (by decide) ?_
          refine W.tight (c2 := 0) (n2 := 0) hh_7.2.2.2.2.2.1 hh_7.2.2.2.2.2.2.1 ?_
          exact C349 0 _ _ hh_7 (Or.inl rfl) (trivial) _ (lv_sub hl [2, 3, 4, 5, 1, 0] rfl)
        · skip
          have c_243' : z_240.toInt = z_242.toInt := jb_ne_n (rfl) (rfl) c_243
          refine lv_iconst (v := 1) hx hb dX5_act_344 (by decide) ?_
          refine lv_goto (tgt := 349) hx hb dX5_act_345 (by decide) ?_
          refine W.tight (c2 := 0) (n2 := 0) hh_7.2.2.2.2.2.1 hh_7.2.2.2.2.2.2.1 ?_
          exact C349 1 _ _ hh_7 (Or.inr rfl) (trivial) _ (lv_sub hl [2, 3, 4, 5, 1, 0] rfl)
    · refine lv_tableIn (off := 341) (tgt := 379) hx hb dX5_act_38 (by omega) (by omega) (by rw [c_9]; rfl) (by decide) ?_
      refine lv_aload_n hx hb dX5_act_379 rfl (lv_at hl 4 rfl) ?_
      refine lv_ifnull hx hb dX5_act_380 ?_
      refine lv_aload_n hx hb dX5_act_383 rfl (lv_at hl 2 rfl) ?_
      refine lv_aload_n hx hb dX5_act_384 rfl (lv_at hl 3 rfl) ?_
      refine lv_aload_n hx hb dX5_act_385 rfl (lv_at hl 4 rfl) ?_
      obtain ⟨f_fg_246, hh_246⟩ := hh_7.cpin hB280 (by decide) (by decide) hg_r2
      clear hh_7
      have hsz_244 := hh_246.2.2.2.2.2.1
      have htt_244 := hh_246.2.2.2.2.2.2.1
      refine W.room (fun hrc_244 hrs_244 => ?_)
      refine va_calli (A0 := jA base) (H0 := s.heap) (va_runV (As := [.ref r1, .ref r2]) (rest := []) ⟨hx, hb, hml, hown, hts⟩ (uX5_rewrite l dC dI ca base B hB hAp hB5 hB7 hB101 hB211 hB280 hB313 G0 H_7 r0 r1 r2 n1 n2 pf f_fg_246 LC LS) (cwV 2 hts (jgV (jWr_88 _ (List.mem_of_getElem? (i := 11) rfl)) (jWr_88 _ (List.mem_of_getElem? (i := 12) rfl)) (jWr_88 _ (List.mem_of_getElem? (i := 13) rfl)) (jWr_2 _ (List.mem_of_getElem? (i := 4) rfl)) (jWr_88 _ (List.mem_of_getElem? (i := 14) rfl))) rfl rfl rfl (by decide +kernel) ⟨by rw [← hR]; exact Nat.le_of_ble_eq_true rfl, by rw [← hR]; exact Nat.le_of_ble_eq_true rfl⟩) ⟨fun a U g mk q => by obtain ⟨q0, q1, q2, qK, q10, q11, q12, q13, q14, q15, q16, q17, q18⟩ := q; exact ⟨q0, q1, q2, jG.calling g mk a qK, (va_K.moved (Vm.Alike.refl U.vm) q10), (jK5.moved (Vm.Alike.refl U.vm) q11), q12, q13, q14, q15, q16, q17, q18⟩, hh_246.recv (C := RX5) (T := TX5) (N := 11) hB7 rfl (by decide) hg_r0 hK, fun U hU hW => ⟨rfl, hU, hh_246.2.1, hG.step hW hU hh_246.1, va_K.moved hW.alike hK2, jK5.moved hW.alike hK5, hg_r0, hg_r1, hg_r2, (hh_246.2.2.1.sub (L1 := [(r0, 7, 10, .int pf)]) [1] rfl), (hh_246.2.2.2.2.2.2.2.1.sub (L1 := [(r2, 280, n2, ca 1, f_fg_246)]) [0] rfl), (hh_246.2.2.2.2.2.2.2.2.sub (L1 := [(jFg, jFr dC dI ca G0 r0)]) [0] rfl), by first | omega | (refine ⟨?_, ?_, ?_, ?_⟩ <;> (first | omega | rfl | assumption | decide | exact Or.inl rfl | exact Or.inr rfl | (simp only; omega)))⟩⟩ rfl rfl hl.1 rfl (lv_room (Nat.le_of_ble_eq_true rfl)) dX5_act_386 ⟨by rw [hRc]; omega, by rw [hRs]; omega⟩) hh_246.1 (fun q _ h => h) (fun q h => h) (fun r_245 u_244 t_244 H_244 locs_244 ht_244 hvm_244 hr_245 hb_244 hz_244 hk_244 hS_244 => ?_)
      obtain ⟨qf_244, G_244⟩ := u_244
      rw [ht_244] at hb_244
      simp only at hb_244
      obtain ⟨⟨hb_2441, hb_2442, hb_2443, hb_2444, hb_2445, hb_2446⟩, hN_244, hbE_244⟩ := hb_244
      have hh_244 : jSt (dC, dI) B base G0 G_244 EX5_actS s.heap (0 + (2)) (0 + (84)) [(r0, 7, 10, .int qf_244), (r1, 5, 3, .ref formula_3), (r0, 7, 1, .ref sy), (sy, 12, 5, .int wd)] [(r2, 280, n2, ca 1, f_fg_246)] [] H_244 locs_244 := (hh_246.callG hb_2441 hb_2442 hb_2443 hb_2444 hb_2445 hS_244 rfl (L1 := [(r1, 5, 3, .ref formula_3), (r0, 7, 1, .ref sy), (sy, 12, 5, .int wd)]) [0, 2, 3] rfl rfl (M1 := [(r2, 280, n2, ca 1, f_fg_246)]) [0] rfl rfl (I1 := []) [] rfl rfl).more hb_2446
      have hNn_244 : (jNk [0, 1, 2, 3, 4, 6, 7, 8, 9, 10, 11, 12, 13, 14, 15, 16, 17, 175]) G0 G_244 := (jNk.rf).tr hN_244
      have hg_247 := hb_2442 _ _ hg_r0
      have hg_248 := hb_2442 _ _ hg_r1
      have hg_249 := hb_2442 _ _ hg_r2
      have hg_250 := hb_2442 _ _ hg_formula_3
      have hg_251 := hb_2442 _ _ hg_sy
      have hh_252 := hh_244.addIs hbE_244
      try simp only at hr_245
      obtain ⟨hr_245_0, hr_245_1⟩ := hr_245
      refine lv_goto (tgt := 394) hx hb dX5_act_389 (by decide) ?_
      have hsz_253 := hh_252.2.2.2.2.2.1
      have htt_253 := hh_252.2.2.2.2.2.2.1
      refine W.room (fun hrc_253 hrs_253 => ?_)
      refine W.widen (k := LC - s.heap.size) (n := LS - jTot s.heap) (by omega) (by omega) ?_
      rw [hQ]
      exact W.iret (v := r_245) hx hb hr (fun t ht hW => ⟨⟨r_245, (qf_244, G_244), rfl, by (try dsimp only); exact ⟨(by first | omega | rfl | assumption | fail), (by first | omega | rfl | assumption | fail)⟩, ⟨hh_252.ra (by first | omega | (simp only; omega)) (by first | omega | (simp only; omega)) (M1 := [(r0, 7, 10, .int qf_244)]) [0] rfl ht, hNn_244, by rw [ht]; exact hh_252.2.2.2.2.2.2.2.2.sub (L1 := [(jFg, jFr dC dI ca G_244 r0)]) [0] rfl⟩⟩, by rw [ht]; try exact hh_252.1.1, fun q h9 hq => by rw [ht]; try exact hh_252.1.2.1 q h9 hq⟩) hh_252.1.2.2 dX5_act_394
  refine lv_if_le (tgt := 19) hx hb dX5_act_7 (by decide) (fun c_254 => ?_) (fun c_254 => ?_)
  · skip
    have c_254' : z_4.toInt ≤ 0 := jb_le (rfl) ((by decide)) c_254
    refine lv_iconst (v := 0) hx hb dX5_act_19 (by decide) ?_
    refine W.tight (c2 := 0) (n2 := 0) hh_2.2.2.2.2.2.1 hh_2.2.2.2.2.2.2.1 ?_
    exact C20 0 _ _ hh_2 (by first | omega | rfl | assumption | decide | exact Or.inl rfl | exact Or.inr rfl | (simp only; omega)) _ (lv_sub hl [1, 2, 3, 0] rfl)
  · skip
    have c_254' : z_4.toInt > 0 := jb_le_n (rfl) ((by decide)) c_254
    refine lv_aload_n hx hb dX5_act_10 rfl (lv_at hl 0 rfl) ?_
    refine lv_iconst (v := 0) hx hb dX5_act_11 (by decide) ?_
    refine j7_iald hx hb hK hh_2 hB280 1 rfl (by decide) hg_formula_3 (x := 0) ((by decide)) (by omega) dX5_act_12 (fun z_255 (hz_255 : -1 ≤ z_255.toInt) => ?_)
    refine lv_bipush (v := 15) hx hb dX5_act_13 (by decide) ?_
    refine lv_iand hx hb dX5_act_15 ?_
    refine lv_topi (fun z_256 ez_256 => ?_)
    have hz_256 : 0 ≤ z_256.toInt ∧ z_256.toInt ≤ 15 := by rw [ez_256]; exact jb_and z_255 (m := 15) (k := 4) (by decide) (by decide)
    have hbz_256 : z_256.toInt = z_255.toInt % 16 := by rw [ez_256, jb_and15]
    refine lv_goto (tgt := 20) hx hb dX5_act_16 (by decide) ?_
    refine W.tight (c2 := 0) (n2 := 0) hh_2.2.2.2.2.2.1 hh_2.2.2.2.2.2.2.1 ?_
    exact C20 z_256 _ _ hh_2 (by first | omega | rfl | assumption | decide | exact Or.inl rfl | exact Or.inr rfl | (simp only; omega)) _ (lv_sub hl [1, 2, 3, 0] rfl)
set_option maxHeartbeats 4000000 in
set_option maxRecDepth 20000 in
theorem uX5_actSZ (l : Launch) (dC : Nat → ClassId) (dI : Nat → Nat → Nat) (ca : Nat → ClassId) (base : Nat) (B : jF) (hB : jBok B) (hAp : jAp (dC, dI)) (hB5 : ∀ n G a H, B 5 n G a H ↔ jOb (dC, dI) 5 4 (F5 n G) a H) (hB7 : ∀ n G a H, B 7 n G a H ↔ jOb (dC, dI) 7 11 (F7 n G) a H) (hB12 : ∀ n G a H, B 12 n G a H ↔ jOb (dC, dI) 12 11 (F12b n G) a H) (hB101 : ∀ n G a H, B 101 n G a H ↔ jAr (dC, dI) (ca 1) (fun j z => True) n a H) (hB211 : ∀ n G a H, B 211 n G a H ↔ jAq (dC, dI) (ca 7) (jQh) n G a H) (hB280 : ∀ n G a H, B 280 n G a H ↔ jAr (dC, dI) (ca 1) (fun j z => -1 ≤ z.toInt) n a H) (hB290 : ∀ n G a H, B 290 n G a H ↔ jAr (dC, dI) (ca 1) (fun j z => 0 ≤ z.toInt ∧ z.toInt ≤ 3000) n a H) (hB291 : ∀ n G a H, B 291 n G a H ↔ jAr (dC, dI) (ca 1) (fun j z => 0 ≤ z.toInt ∧ z.toInt ≤ 3000) n a H) (hB292 : ∀ n G a H, B 292 n G a H ↔ jAr (dC, dI) (ca 1) (fun j z => 0 ≤ z.toInt ∧ z.toInt ≤ 8191) n a H) (hB313 : ∀ n G a H, B 313 n G a H ↔ jAq (dC, dI) (ca 8) (jQk 280 80) n G a H) (hB315 : ∀ n G a H, B 315 n G a H ↔ jAqZ (dC, dI) (ca 8) n a H) (G0 : jT) (H0 : Heap) (r0 : Nat) (r1 : Nat) (n1 : Nat) (pf : Int32) (sy : Nat) (wd : Int32) (gx : Nat) (LC LS : Nat) : Met l yX5_act (jw yX5_act cX5_act 9 (some .int)) ({ frames := 5, cells := LC - H0.size, slots := LS - jTot H0, locals := 159 }) (va_Pc [.ref r0, .ref r1, .null] (fun U => U.heap = H0 ∧ jX B base G0 [] H0 ∧ jG dC dI ca base U ∧ jK2 dC dI ca U ∧ jK5 dC dI ca U ∧ G0 r0 = some (7, 0) ∧ G0 r1 = some (5, n1) ∧ G0 sy = some (12, 0) ∧ jP (dC, dI) G0 H0 [(r0, 7, 10, .int pf), (r0, 7, 1, .ref sy), (sy, 12, 5, .int wd)] ∧ jIs (dC, dI) G0 H0 [(jFg, jFr dC dI ca G0 r0)] ∧ H0.size + 16 ≤ LC ∧ jTot H0 + (168 + 336 * gx) ≤ LS ∧ 0 ≤ pf.toInt ∧ pf.toInt ≤ 50 ∧ n1 % 10 = 1 ∧ (gx = 1 ∨ (wd.toInt ≠ 9 ∧ wd.toInt ≠ 11 ∧ wd.toInt ≠ 15)))) (va_Qi (S := Int32 × jT) (fun r u => (pf.toInt ≤ u.1.toInt ∧ u.1.toInt ≤ pf.toInt + 8)) (fun u t => jRa (dC, dI) B base G0 u.2 EX5_actSZ H0 (16) ((168 + 336 * gx)) [(r0, 7, 10, .int u.1)] t.heap ∧ (jNk [0, 1, 2, 3, 4, 6, 7, 8, 9, 10, 11, 12, 13, 14, 15, 16, 17, 175]) G0 u.2 ∧ jIs (dC, dI) u.2 t.heap [(jFg, jFr dC dI ca u.2 r0)]) (jA base)) (LC - H0.size) (LS - jTot H0) (jA base) := by
  refine Met.ofW (cc := cX5_act) (maxL := 9) (ret := (some .int)) (by decide) rfl ?_
  intro p e s m args below meth c s₁ Bd hml hv
  obtain ⟨rfl, hH0, hX, hG, hK2, hK5, hg_r0, hg_r1, hg_sy, hP0, hI0, hLC0, hLS0, hp0, hp1, hp2, hp3⟩ := hv
  have hK := hG.1
  have hx := Bd.exec
  have hb := Bd.bytes
  have hr := Bd.returns
  have hts := atoms_spec (ws := (jw yX5_act cX5_act 9 (some .int))) Bd.pre
  have htw : ∀ w ∈ jWl, w.before _ s = true := fun w h => hts w (List.mem_cons_of_mem _ h)
  have hown : s.vm.findClass RX5 = some m.cls := findClass_of_methodNamed Bd.named
  have hlocks := Bd.notSynchronized
  obtain ⟨Q, hQ⟩ : ∃ Q, Q = MQ below (va_Qi (S := Int32 × jT) (fun r u => (pf.toInt ≤ u.1.toInt ∧ u.1.toInt ≤ pf.toInt + 8)) (fun u t => jRa (dC, dI) B base G0 u.2 EX5_actSZ H0 (16) ((168 + 336 * gx)) [(r0, 7, 10, .int u.1)] t.heap ∧ (jNk [0, 1, 2, 3, 4, 6, 7, 8, 9, 10, 11, 12, 13, 14, 15, 16, 17, 175]) G0 u.2 ∧ jIs (dC, dI) u.2 t.heap [(jFg, jFr dC dI ca u.2 r0)]) (jA base)) ([.ref r0, .ref r1, .null] : List Value).toArray s (LC - H0.size) (LS - jTot H0) (jA base) := ⟨_, rfl⟩
  rw [← hQ]
  have hl := lv_entry ([.ref r0, .ref r1, .null]) (n := 9) (Nat.le_of_ble_eq_true rfl)
  rw [lg_entry_eq]
  generalize (lg_sl ([.ref r0, .ref r1, .null]) ++ List.replicate (9 - (lg_sl ([.ref r0, .ref r1, .null])).length) Slot.unset).toArray = ls at hl ⊢
  have hl : lv_has ls 9 [(0, .ref r0), (1, .ref r1), (2, .null)] := hl
  generalize hR : (headSpec (jw yX5_act cX5_act 9 (some .int)) ({ frames := 5, cells := LC - H0.size, slots := LS - jTot H0, locals := 159 })).room = R
  subst hH0
  have hh : jSt (dC, dI) B base G0 G0 EX5_actSZ s.heap 0 0 [(r0, 7, 10, .int pf), (r0, 7, 1, .ref sy), (sy, 12, 5, .int wd)] [] [(jFg, jFr dC dI ca G0 r0)] s.heap [] := jSt.start hX hP0 jMc.nil hI0
  clear hX hP0
  have hkm1 : ((-1) : Int32).toInt = (-1) := by decide
  have hk0 : (0 : Int32).toInt = 0 := by decide
  have hk1 : (1 : Int32).toInt = 1 := by decide
  have hk2 : (2 : Int32).toInt = 2 := by decide
  have hk3 : (3 : Int32).toInt = 3 := by decide
  have hk4 : (4 : Int32).toInt = 4 := by decide
  have hk6 : (6 : Int32).toInt = 6 := by decide
  have hk8 : (8 : Int32).toInt = 8 := by decide
  have hk15 : (15 : Int32).toInt = 15 := by decide
  have hly_5_3 := htw (u_lay RX3 TX3 3) (jWc_wsX30 _ (u_in_lay (by decide)))
  have hly_7_1 := htw (u_lay RX5 TX5 1) (jWc_wsX50 _ (u_in_lay (by decide)))
  have hly_12_5 := htw (u_lay RX10 TX10 5) (jWc_wsX100 _ (u_in_lay (by decide)))
  have hly_12_9 := htw (u_lay RX10 TX10 9) (jWc_wsX100 _ (u_in_lay (by decide)))
  have hly_12_10 := htw (u_lay RX10 TX10 10) (jWc_wsX100 _ (u_in_lay (by decide)))
  have hlk_190 := (htw (.fieldLink RX5 190 "ProofServer$Goal" "formula" "[I") (jWr_84 _ (List.mem_of_getElem? (i := 15) rfl)))
  have hlk_23 := (htw (.fieldLink RX5 23 "ProofServer$Kernel" "syntax" "LProofServer$Syntax;") (jWr_4 _ (List.mem_of_getElem? (i := 15) rfl)))
  have hlk_74 := (htw (.fieldLink RX5 74 "ProofServer$Syntax" "word" "I") (jWr_78 _ (List.mem_of_getElem? (i := 19) rfl)))
  have hlk_121 := (htw (.fieldLink RX5 121 "ProofServer$Syntax" "nodes" "[I") (jWr_82 _ (List.mem_of_getElem? (i := 7) rfl)))
  have hlk_114 := (htw (.fieldLink RX5 114 "ProofServer$Syntax" "nodeCount" "I") (jWr_82 _ (List.mem_of_getElem? (i := 5) rfl)))
  have hbs : base ≤ s.heap.size := Nat.le_of_lt (Nat.lt_of_le_of_lt (hh.ab hg_r0).1 (hh.ab hg_r0).2)
  have hRc : R.cells = LC - s.heap.size := by rw [← hR]; rfl
  have hRs : R.slots = LS - jTot s.heap := by rw [← hR]; rfl
  refine lv_aload_n hx hb dX5_act_0 rfl (lv_at hl 1 rfl) ?_
  obtain ⟨v_1, hv_1, hh_2⟩ := hh.pin (C := RX3) (T := TX3) (N := 4) hB5 rfl (by decide) hg_r1 (i := 3) (by decide) rfl
  clear hh
  rcases hv_1 with ⟨rfl, hcv_1⟩ | ⟨formula_3, nformula_3, rfl, hg_formula_3, hn_formula_3, hcv_1, hdv_1⟩
  · exact absurd hcv_1 (by omega)
  refine j7_read hx hb hown hK (C := RX3) (T := TX3) (N := 4) rfl hly_5_3 hlk_190 (hh_2.at 0 rfl) dX5_act_1 ?_
  refine lv_astore_n (lv' := [(3, .ref formula_3), (0, .ref r0), (1, .ref r1), (2, .null)]) hx hb dX5_act_4 rfl hl (by decide) rfl (fun ls hl => ?_)
  refine lv_aload_n hx hb dX5_act_5 rfl (lv_at hl 0 rfl) ?_
  refine j7_len hx hb hK hh_2 hB280 1 rfl (by decide) hg_formula_3 (by omega) dX5_act_6 (fun z_4 hz_4 => ?_)
  have C20 : ∀ (w0_5 : Int32) (H_5 : Heap) (locs_5 : List Loc), jSt (dC, dI) B base G0 G0 EX5_actSZ s.heap 0 0 [(r1, 5, 3, .ref formula_3), (r0, 7, 10, .int pf), (r0, 7, 1, .ref sy), (sy, 12, 5, .int wd)] [] [(jFg, jFr dC dI ca G0 r0)] H_5 locs_5 → (0 ≤ w0_5.toInt) → ∀ ls : Array Slot, lv_has ls 9 [(0, .ref r0), (1, .ref r1), (2, .null), (3, .ref formula_3)] → W p l e R s m ([.ref r0, .ref r1, .null] : List Value).toArray below meth c H_5 locs_5 0 0 Q (F0 m 20 ls [.int w0_5]) := by
    intro w0_5 H_5 locs_5 hh_5  hi_5 ls hl
    refine lv_istore (lv' := [(4, .int w0_5), (0, .ref r0), (1, .ref r1), (2, .null), (3, .ref formula_3)]) hx hb dX5_act_20 hl (by decide) rfl (fun ls hl => ?_)
    refine lv_aload_n hx hb dX5_act_22 rfl (lv_at hl 4 rfl) ?_
    refine lv_iconst (v := 1) hx hb dX5_act_23 (by decide) ?_
    refine lv_aload_n hx hb dX5_act_24 rfl (lv_at hl 4 rfl) ?_
    refine j7_len hx hb hK hh_5 hB280 1 rfl (by decide) hg_formula_3 (by omega) dX5_act_25 (fun z_6 hz_6 => ?_)
    have hsz_7 := hh_5.2.2.2.2.2.1
    have htt_7 := hh_5.2.2.2.2.2.2.1
    refine W.room (fun hrc_7 hrs_7 => ?_)
    refine va_calli (A0 := jA base) (H0 := s.heap) (va_runSN (As := [.ref formula_3, .int 1, .int z_6]) (rest := []) ⟨hx, hb, hml, hown, hts⟩ (uX11_endOfB l dC dI ca base B hB hAp hB280 G0 H_5 formula_3 1 z_6 nformula_3) ⟨va_cnB 3 hts (jgW (jWr_32 _ (List.mem_of_getElem? (i := 4) rfl))) rfl rfl rfl (hG.2.2.1 RX5 183 yX11_endOf "ProofServer" (List.mem_of_getElem? (i := 1460) (by decide +kernel))) (htw (.initialized RX11) (jWr_1 _ (List.mem_of_getElem? (i := 2) rfl))) (by decide +kernel) ⟨by rw [← hR]; exact Nat.le_of_ble_eq_true rfl, by rw [← hR]; exact Nat.le_of_ble_eq_true rfl⟩, htw (.static yX11_endOf) (jWr_32 _ (List.mem_of_getElem? (i := 3) rfl)), trivial⟩ ⟨fun a U g mk q => by obtain ⟨q0, q1, q2, qK, q10, q11, q12⟩ := q; exact ⟨q0, q1, q2, jG.calling g mk a qK, q10, q11, q12⟩, fun U hU hW => ⟨rfl, hU, hh_5.2.1, hG.step hW hU hh_5.1, hg_formula_3, jP.nil, by first | omega | (refine ⟨?_, ?_, ?_⟩ <;> (first | omega | rfl | assumption | decide | exact Or.inl rfl | exact Or.inr rfl | (simp only; omega)))⟩⟩ rfl rfl hl.1 rfl (lv_room (Nat.le_of_ble_eq_true rfl)) dX5_act_26 ⟨by rw [hRc]; show _ + 0 ≤ _; omega, by rw [hRs]; show _ + 0 ≤ _; omega⟩) hh_5.1 (fun q _ h => h) (fun q h => h) (fun r_8 u_7 t_7 H_7 locs_7 ht_7 hvm_7 hr_8 hb_7 hz_7 hk_7 hS_7 => ?_)
    rw [ht_7] at hb_7
    obtain ⟨hb_71, hb_72, hb_73, hb_74, hb_75⟩ := hb_7
    have hh_7 : jSt (dC, dI) B base G0 G0 EX5_actSZ s.heap 0 0 [(r1, 5, 3, .ref formula_3), (r0, 7, 10, .int pf), (r0, 7, 1, .ref sy), (sy, 12, 5, .int wd)] [] [(jFg, jFr dC dI ca G0 r0)] H_7 locs_7 := ((hh_5.call hb_71 hb_72 hb_73 hb_74 hS_7 rfl (L1 := [(r1, 5, 3, .ref formula_3), (r0, 7, 10, .int pf), (r0, 7, 1, .ref sy), (sy, 12, 5, .int wd)]) [0, 1, 2, 3] rfl rfl (M1 := []) [] rfl rfl (I1 := [(jFg, jFr dC dI ca G0 r0)]) [0] rfl rfl).more hb_75)
    clear hh_5 ht_7 hvm_7 hz_7 hk_7 hS_7 hb_71 hb_72 hb_73 hb_74 hb_75
    obtain ⟨hr_8_0, hr_8_1⟩ := hr_8
    refine lv_istore (lv' := [(5, .int r_8), (4, .int w0_5), (0, .ref r0), (1, .ref r1), (2, .null), (3, .ref formula_3)]) hx hb dX5_act_29 hl (by decide) rfl (fun ls hl => ?_)
    have hmd : 1 ≤ r_8.toInt ∧ r_8.toInt ≤ 81 := by omega
    refine lv_aload_n hx hb dX5_act_31 rfl (lv_at hl 2 rfl) ?_
    refine j7_read hx hb hown hK (C := RX5) (T := TX5) (N := 11) rfl hly_7_1 hlk_23 (hh_7.at 2 rfl) dX5_act_32 ?_
    refine j7_read hx hb hown hK (C := RX10) (T := TX10) (N := 11) rfl hly_12_5 hlk_74 (hh_7.at 3 rfl) dX5_act_35 ?_
    rcases (by omega : (wd.toInt < 9 ∨ 20 < wd.toInt) ∨ wd.toInt = 9 ∨ wd.toInt = 10 ∨ wd.toInt = 11 ∨ wd.toInt = 12 ∨ wd.toInt = 13 ∨ wd.toInt = 14 ∨ wd.toInt = 15 ∨ wd.toInt = 16 ∨ wd.toInt = 17 ∨ wd.toInt = 18 ∨ wd.toInt = 19 ∨ wd.toInt = 20) with c_9 | c_9 | c_9 | c_9 | c_9 | c_9 | c_9 | c_9 | c_9 | c_9 | c_9 | c_9 | c_9
    · refine lv_tableOut (tgt := 395) hx hb dX5_act_38 c_9 (by decide) ?_
      refine lv_aload_n hx hb dX5_act_395 rfl (lv_at hl 2 rfl) ?_
      refine lv_aload_n hx hb dX5_act_396 rfl (lv_at hl 3 rfl) ?_
      have hsz_10 := hh_7.2.2.2.2.2.1
      have htt_10 := hh_7.2.2.2.2.2.2.1
      refine W.room (fun hrc_10 hrs_10 => ?_)
      refine va_calli (A0 := jA base) (H0 := s.heap) (va_runV (As := [.ref r1]) (rest := []) ⟨hx, hb, hml, hown, hts⟩ (uX5_have l dC dI ca base B hB hAp hB5 hB7 hB12 hB101 hB211 hB280 hB292 hB313 G0 H_7 r0 r1 n1 pf LC LS) (cwV 1 hts (jgV (jWr_88 _ (List.mem_of_getElem? (i := 16) rfl)) (jWr_88 _ (List.mem_of_getElem? (i := 17) rfl)) (jWr_88 _ (List.mem_of_getElem? (i := 18) rfl)) (jWr_2 _ (List.mem_of_getElem? (i := 4) rfl)) (jWr_88 _ (List.mem_of_getElem? (i := 19) rfl))) rfl rfl rfl (by decide +kernel) ⟨by rw [← hR]; exact Nat.le_of_ble_eq_true rfl, by rw [← hR]; exact Nat.le_of_ble_eq_true rfl⟩) ⟨fun a U g mk q => by obtain ⟨q0, q1, q2, qK, q10, q11, q12, q13, q14, q15, q16⟩ := q; exact ⟨q0, q1, q2, jG.calling g mk a qK, (va_K.moved (Vm.Alike.refl U.vm) q10), (jK5.moved (Vm.Alike.refl U.vm) q11), q12, q13, q14, q15, q16⟩, hh_7.recv (C := RX5) (T := TX5) (N := 11) hB7 rfl (by decide) hg_r0 hK, fun U hU hW => ⟨rfl, hU, hh_7.2.1, hG.step hW hU hh_7.1, va_K.moved hW.alike hK2, jK5.moved hW.alike hK5, hg_r0, hg_r1, (hh_7.2.2.1.sub (L1 := [(r0, 7, 10, .int pf)]) [1] rfl), (hh_7.2.2.2.2.2.2.2.2.sub (L1 := [(jFg, jFr dC dI ca G0 r0)]) [0] rfl), by first | omega | (refine ⟨?_, ?_, ?_⟩ <;> (first | omega | rfl | assumption | decide | exact Or.inl rfl | exact Or.inr rfl | (simp only; omega)))⟩⟩ rfl rfl hl.1 rfl (lv_room (Nat.le_of_ble_eq_true rfl)) dX5_act_397 ⟨by rw [hRc]; omega, by rw [hRs]; omega⟩) hh_7.1 (fun q _ h => h) (fun q h => h) (fun r_11 u_10 t_10 H_10 locs_10 ht_10 hvm_10 hr_11 hb_10 hz_10 hk_10 hS_10 => ?_)
      obtain ⟨qf_10, G_10⟩ := u_10
      rw [ht_10] at hb_10
      simp only at hb_10
      obtain ⟨⟨hb_101, hb_102, hb_103, hb_104, hb_105, hb_106⟩, hN_10, hbE_10⟩ := hb_10
      have hh_10 : jSt (dC, dI) B base G0 G_10 EX5_actSZ s.heap (0 + (5)) (0 + (150)) [(r0, 7, 10, .int qf_10), (r1, 5, 3, .ref formula_3), (r0, 7, 1, .ref sy), (sy, 12, 5, .int wd)] [] [] H_10 locs_10 := (hh_7.callG hb_101 hb_102 hb_103 hb_104 hb_105 hS_10 rfl (L1 := [(r1, 5, 3, .ref formula_3), (r0, 7, 1, .ref sy), (sy, 12, 5, .int wd)]) [0, 2, 3] rfl rfl (M1 := []) [] rfl rfl (I1 := []) [] rfl rfl).more hb_106
      have hNn_10 : (jNk [0, 1, 2, 3, 4, 6, 7, 8, 9, 10, 11, 12, 13, 14, 15, 16, 17, 175]) G0 G_10 := (jNk.rf).tr hN_10
      have hg_12 := hb_102 _ _ hg_r0
      have hg_13 := hb_102 _ _ hg_r1
      have hg_14 := hb_102 _ _ hg_formula_3
      have hg_15 := hb_102 _ _ hg_sy
      have hh_16 := hh_10.addIs hbE_10
      try simp only at hr_11
      obtain ⟨hr_11_0, hr_11_1⟩ := hr_11
      have hsz_17 := hh_16.2.2.2.2.2.1
      have htt_17 := hh_16.2.2.2.2.2.2.1
      refine W.room (fun hrc_17 hrs_17 => ?_)
      refine W.widen (k := LC - s.heap.size) (n := LS - jTot s.heap) (by omega) (by omega) ?_
      rw [hQ]
      exact W.iret (v := r_11) hx hb hr (fun t ht hW => ⟨⟨r_11, (qf_10, G_10), rfl, by (try dsimp only); exact ⟨(by first | omega | rfl | assumption | fail), (by first | omega | rfl | assumption | fail)⟩, ⟨hh_16.ra (by first | omega | (simp only; omega)) (by first | omega | (simp only; omega)) (M1 := [(r0, 7, 10, .int qf_10)]) [0] rfl ht, hNn_10, by rw [ht]; exact hh_16.2.2.2.2.2.2.2.2.sub (L1 := [(jFg, jFr dC dI ca G_10 r0)]) [0] rfl⟩⟩, by rw [ht]; try exact hh_16.1.1, fun q h9 hq => by rw [ht]; try exact hh_16.1.2.1 q h9 hq⟩) hh_16.1.2.2 dX5_act_400
    · refine lv_tableIn (off := 62) (tgt := 100) hx hb dX5_act_38 (by omega) (by omega) (by rw [c_9]; rfl) (by decide) ?_
      refine lv_aload_n hx hb dX5_act_100 rfl (lv_at hl 2 rfl) ?_
      refine lv_aload_n hx hb dX5_act_101 rfl (lv_at hl 3 rfl) ?_
      refine lv_iload hx hb dX5_act_102 (lv_at hl 1 rfl) ?_
      refine lv_iload hx hb dX5_act_104 (lv_at hl 0 rfl) ?_
      have hsz_18 := hh_7.2.2.2.2.2.1
      have htt_18 := hh_7.2.2.2.2.2.2.1
      refine W.room (fun hrc_18 hrs_18 => ?_)
      refine va_calli (A0 := jA base) (H0 := s.heap) (va_runV (As := [.ref r1, .int w0_5, .int r_8]) (rest := []) ⟨hx, hb, hml, hown, hts⟩ (uX5_intro l dC dI ca base B hB hAp hB5 hB7 hB12 hB101 hB211 hB280 hB290 hB291 hB292 hB313 G0 H_7 r0 r1 w0_5 r_8 n1 pf LC LS) (cwV 3 hts (jgV (jWr_84 _ (List.mem_of_getElem? (i := 16) rfl)) (jWr_84 _ (List.mem_of_getElem? (i := 17) rfl)) (jWr_84 _ (List.mem_of_getElem? (i := 18) rfl)) (jWr_2 _ (List.mem_of_getElem? (i := 4) rfl)) (jWr_84 _ (List.mem_of_getElem? (i := 19) rfl))) rfl rfl rfl (by decide +kernel) ⟨by rw [← hR]; exact Nat.le_of_ble_eq_true rfl, by rw [← hR]; exact Nat.le_of_ble_eq_true rfl⟩) ⟨fun a U g mk q => by obtain ⟨q0, q1, q2, qK, q10, q11, q12, q13, q14, q15, q16⟩ := q; exact ⟨q0, q1, q2, jG.calling g mk a qK, (va_K.moved (Vm.Alike.refl U.vm) q10), (jK5.moved (Vm.Alike.refl U.vm) q11), q12, q13, q14, q15, q16⟩, hh_7.recv (C := RX5) (T := TX5) (N := 11) hB7 rfl (by decide) hg_r0 hK, fun U hU hW => ⟨rfl, hU, hh_7.2.1, hG.step hW hU hh_7.1, va_K.moved hW.alike hK2, jK5.moved hW.alike hK5, hg_r0, hg_r1, (hh_7.2.2.1.sub (L1 := [(r0, 7, 10, .int pf)]) [1] rfl), (hh_7.2.2.2.2.2.2.2.2.sub (L1 := [(jFg, jFr dC dI ca G0 r0)]) [0] rfl), by first | omega | (refine ⟨?_, ?_, ?_, ?_⟩ <;> (first | omega | rfl | assumption | decide | exact Or.inl rfl | exact Or.inr rfl | (simp only; omega)))⟩⟩ rfl rfl hl.1 rfl (lv_room (Nat.le_of_ble_eq_true rfl)) dX5_act_106 ⟨by rw [hRc]; omega, by rw [hRs]; omega⟩) hh_7.1 (fun q _ h => h) (fun q h => h) (fun r_19 u_18 t_18 H_18 locs_18 ht_18 hvm_18 hr_19 hb_18 hz_18 hk_18 hS_18 => ?_)
      obtain ⟨qf_18, G_18⟩ := u_18
      rw [ht_18] at hb_18
      simp only at hb_18
      obtain ⟨⟨hb_181, hb_182, hb_183, hb_184, hb_185, hb_186⟩, hN_18, hbE_18⟩ := hb_18
      have hh_18 : jSt (dC, dI) B base G0 G_18 EX5_actSZ s.heap (0 + (6)) (0 + (200)) [(r0, 7, 10, .int qf_18), (r1, 5, 3, .ref formula_3), (r0, 7, 1, .ref sy), (sy, 12, 5, .int wd)] [] [] H_18 locs_18 := (hh_7.callG hb_181 hb_182 hb_183 hb_184 hb_185 hS_18 rfl (L1 := [(r1, 5, 3, .ref formula_3), (r0, 7, 1, .ref sy), (sy, 12, 5, .int wd)]) [0, 2, 3] rfl rfl (M1 := []) [] rfl rfl (I1 := []) [] rfl rfl).more hb_186
      have hNn_18 : (jNk [0, 1, 2, 3, 4, 6, 7, 8, 9, 10, 11, 12, 13, 14, 15, 16, 17, 175]) G0 G_18 := (jNk.rf).tr hN_18
      have hg_20 := hb_182 _ _ hg_r0
      have hg_21 := hb_182 _ _ hg_r1
      have hg_22 := hb_182 _ _ hg_formula_3
      have hg_23 := hb_182 _ _ hg_sy
      have hh_24 := hh_18.addIs hbE_18
      try simp only at hr_19
      obtain ⟨hr_19_0, hr_19_1⟩ := hr_19
      have hsz_25 := hh_24.2.2.2.2.2.1
      have htt_25 := hh_24.2.2.2.2.2.2.1
      refine W.room (fun hrc_25 hrs_25 => ?_)
      refine W.widen (k := LC - s.heap.size) (n := LS - jTot s.heap) (by omega) (by omega) ?_
      rw [hQ]
      exact W.iret (v := r_19) hx hb hr (fun t ht hW => ⟨⟨r_19, (qf_18, G_18), rfl, by (try dsimp only); exact ⟨(by first | omega | rfl | assumption | fail), (by first | omega | rfl | assumption | fail)⟩, ⟨hh_24.ra (by first | omega | (simp only; omega)) (by first | omega | (simp only; omega)) (M1 := [(r0, 7, 10, .int qf_18)]) [0] rfl ht, hNn_18, by rw [ht]; exact hh_24.2.2.2.2.2.2.2.2.sub (L1 := [(jFg, jFr dC dI ca G_18 r0)]) [0] rfl⟩⟩, by rw [ht]; try exact hh_24.1.1, fun q h9 hq => by rw [ht]; try exact hh_24.1.2.1 q h9 hq⟩) hh_24.1.2.2 dX5_act_109
    · refine lv_tableIn (off := 72) (tgt := 110) hx hb dX5_act_38 (by omega) (by omega) (by rw [c_9]; rfl) (by decide) ?_
      refine j7_nld_n hx hb dX5_act_110 rfl (lv_at hl 4 rfl) ?_
      refine lv_ifnullN (tgt := 126) hx hb dX5_act_111 (by decide) ?_
      refine lv_bipush (v := 8) hx hb dX5_act_126 (by decide) ?_
      have hsz_26 := hh_7.2.2.2.2.2.1
      have htt_26 := hh_7.2.2.2.2.2.2.1
      refine W.room (fun hrc_26 hrs_26 => ?_)
      refine W.widen (k := LC - s.heap.size) (n := LS - jTot s.heap) (by omega) (by omega) ?_
      rw [hQ]
      exact W.iret (v := 8) hx hb hr (fun t ht hW => ⟨⟨8, (pf, G0), rfl, by (try dsimp only); exact ⟨(by first | omega | rfl | assumption | fail), (by first | omega | rfl | assumption | fail)⟩, ⟨hh_7.ra (by first | omega | (simp only; omega)) (by first | omega | (simp only; omega)) (M1 := [(r0, 7, 10, .int pf)]) [1] rfl ht, jNk.rf, by rw [ht]; exact hh_7.2.2.2.2.2.2.2.2.sub (L1 := [(jFg, jFr dC dI ca G0 r0)]) [0] rfl⟩⟩, by rw [ht]; try exact hh_7.1.1, fun q h9 hq => by rw [ht]; try exact hh_7.1.2.1 q h9 hq⟩) hh_7.1.2.2 dX5_act_128
    · refine lv_tableIn (off := 91) (tgt := 129) hx hb dX5_act_38 (by omega) (by omega) (by rw [c_9]; rfl) (by decide) ?_
      refine j7_nld_n hx hb dX5_act_129 rfl (lv_at hl 4 rfl) ?_
      refine lv_ifnonnullN hx hb dX5_act_130 ?_
      refine lv_iconst (v := (-1)) hx hb dX5_act_133 (by decide) ?_
      refine lv_goto (tgt := 143) hx hb dX5_act_134 (by decide) ?_
      refine lv_istore (lv' := [(6, .int (-1)), (5, .int r_8), (4, .int w0_5), (0, .ref r0), (1, .ref r1), (2, .null), (3, .ref formula_3)]) hx hb dX5_act_143 hl (by decide) rfl (fun ls hl => ?_)
      refine lv_iload hx hb dX5_act_145 (lv_at hl 0 rfl) ?_
      refine lv_if_ge (tgt := 155) hx hb dX5_act_147 (by decide) (fun c_27 => ?_) (fun c_27 => ?_)
      · skip
        exact absurd c_27 (by decide)
      · skip
        refine lv_bipush (v := 8) hx hb dX5_act_150 (by decide) ?_
        refine lv_goto (tgt := 163) hx hb dX5_act_152 (by decide) ?_
        have hsz_28 := hh_7.2.2.2.2.2.1
        have htt_28 := hh_7.2.2.2.2.2.2.1
        refine W.room (fun hrc_28 hrs_28 => ?_)
        refine W.widen (k := LC - s.heap.size) (n := LS - jTot s.heap) (by omega) (by omega) ?_
        rw [hQ]
        exact W.iret (v := 8) hx hb hr (fun t ht hW => ⟨⟨8, (pf, G0), rfl, by (try dsimp only); exact ⟨(by first | omega | rfl | assumption | fail), (by first | omega | rfl | assumption | fail)⟩, ⟨hh_7.ra (by first | omega | (simp only; omega)) (by first | omega | (simp only; omega)) (M1 := [(r0, 7, 10, .int pf)]) [1] rfl ht, jNk.rf, by rw [ht]; exact hh_7.2.2.2.2.2.2.2.2.sub (L1 := [(jFg, jFr dC dI ca G0 r0)]) [0] rfl⟩⟩, by rw [ht]; try exact hh_7.1.1, fun q h9 hq => by rw [ht]; try exact hh_7.1.2.1 q h9 hq⟩) hh_7.1.2.2 dX5_act_163
    · refine lv_tableIn (off := 126) (tgt := 164) hx hb dX5_act_38 (by omega) (by omega) (by rw [c_9]; rfl) (by decide) ?_
      refine lv_aload_n hx hb dX5_act_164 rfl (lv_at hl 2 rfl) ?_
      refine lv_aload_n hx hb dX5_act_165 rfl (lv_at hl 3 rfl) ?_
      refine lv_iload hx hb dX5_act_166 (lv_at hl 1 rfl) ?_
      refine lv_iconst (v := 2) hx hb dX5_act_168 (by decide) ?_
      refine lv_icmp_ne (tgt := 176) hx hb dX5_act_169 (by decide) (fun c_29 => ?_) (fun c_29 => ?_)
      · skip
        have c_29' : w0_5.toInt ≠ 2 := jb_ne (rfl) ((by decide)) c_29
        refine lv_iconst (v := 0) hx hb dX5_act_176 (by decide) ?_
        refine lv_iconst (v := 1) hx hb dX5_act_177 (by decide) ?_
        refine lv_iload hx hb dX5_act_178 (lv_at hl 0 rfl) ?_
        have hsz_30 := hh_7.2.2.2.2.2.1
        have htt_30 := hh_7.2.2.2.2.2.2.1
        refine W.room (fun hrc_30 hrs_30 => ?_)
        refine va_calli (A0 := jA base) (H0 := s.heap) (va_runV (As := [.ref r1, .int 0, .int 1, .int r_8]) (rest := []) ⟨hx, hb, hml, hown, hts⟩ (uX5_addSide l dC dI ca base B hB hAp hB5 hB7 hB101 hB211 hB280 hB313 G0 H_7 r0 r1 0 1 r_8 n1 pf LC LS) (cwV 4 hts (jgV (jWr_87 _ (List.mem_of_getElem? (i := 14) rfl)) (jWr_87 _ (List.mem_of_getElem? (i := 15) rfl)) (jWr_87 _ (List.mem_of_getElem? (i := 16) rfl)) (jWr_2 _ (List.mem_of_getElem? (i := 4) rfl)) (jWr_87 _ (List.mem_of_getElem? (i := 17) rfl))) rfl rfl rfl (by decide +kernel) ⟨by rw [← hR]; exact Nat.le_of_ble_eq_true rfl, by rw [← hR]; exact Nat.le_of_ble_eq_true rfl⟩) ⟨fun a U g mk q => by obtain ⟨q0, q1, q2, qK, q10, q11, q12, q13, q14, q15, q16, q17⟩ := q; exact ⟨q0, q1, q2, jG.calling g mk a qK, (va_K.moved (Vm.Alike.refl U.vm) q10), (jK5.moved (Vm.Alike.refl U.vm) q11), q12, q13, q14, q15, q16, q17⟩, hh_7.recv (C := RX5) (T := TX5) (N := 11) hB7 rfl (by decide) hg_r0 hK, fun U hU hW => ⟨rfl, hU, hh_7.2.1, hG.step hW hU hh_7.1, va_K.moved hW.alike hK2, jK5.moved hW.alike hK5, hg_r0, hg_r1, (Or.inl rfl), (hh_7.2.2.1.sub (L1 := [(r0, 7, 10, .int pf)]) [1] rfl), (hh_7.2.2.2.2.2.2.2.2.sub (L1 := [(jFg, jFr dC dI ca G0 r0)]) [0] rfl), by first | omega | (refine ⟨?_, ?_, ?_, ?_⟩ <;> (first | omega | rfl | assumption | decide | exact Or.inl rfl | exact Or.inr rfl | (simp only; omega)))⟩⟩ rfl rfl hl.1 rfl (lv_room (Nat.le_of_ble_eq_true rfl)) dX5_act_180 ⟨by rw [hRc]; omega, by rw [hRs]; omega⟩) hh_7.1 (fun q _ h => h) (fun q h => h) (fun r_31 u_30 t_30 H_30 locs_30 ht_30 hvm_30 hr_31 hb_30 hz_30 hk_30 hS_30 => ?_)
        obtain ⟨qf_30, G_30⟩ := u_30
        rw [ht_30] at hb_30
        simp only at hb_30
        obtain ⟨⟨hb_301, hb_302, hb_303, hb_304, hb_305, hb_306⟩, hN_30, hbE_30⟩ := hb_30
        have hh_30 : jSt (dC, dI) B base G0 G_30 EX5_actSZ s.heap (0 + (2)) (0 + (84)) [(r0, 7, 10, .int qf_30), (r1, 5, 3, .ref formula_3), (r0, 7, 1, .ref sy), (sy, 12, 5, .int wd)] [] [] H_30 locs_30 := (hh_7.callG hb_301 hb_302 hb_303 hb_304 hb_305 hS_30 rfl (L1 := [(r1, 5, 3, .ref formula_3), (r0, 7, 1, .ref sy), (sy, 12, 5, .int wd)]) [0, 2, 3] rfl rfl (M1 := []) [] rfl rfl (I1 := []) [] rfl rfl).more hb_306
        have hNn_30 : (jNk [0, 1, 2, 3, 4, 6, 7, 8, 9, 10, 11, 12, 13, 14, 15, 16, 17, 175]) G0 G_30 := (jNk.rf).tr hN_30
        have hg_32 := hb_302 _ _ hg_r0
        have hg_33 := hb_302 _ _ hg_r1
        have hg_34 := hb_302 _ _ hg_formula_3
        have hg_35 := hb_302 _ _ hg_sy
        have hh_36 := hh_30.addIs hbE_30
        try simp only at hr_31
        obtain ⟨hr_31_0, hr_31_1⟩ := hr_31
        refine lv_istore (lv' := [(7, .int r_31), (5, .int r_8), (4, .int w0_5), (0, .ref r0), (1, .ref r1), (2, .null), (3, .ref formula_3)]) hx hb dX5_act_183 hl (by decide) rfl (fun ls hl => ?_)
        refine lv_iload hx hb dX5_act_185 (lv_at hl 0 rfl) ?_
        refine lv_if_le (tgt := 195) hx hb dX5_act_187 (by decide) (fun c_37 => ?_) (fun c_37 => ?_)
        · skip
          have c_37' : r_31.toInt ≤ 0 := jb_le (rfl) ((by decide)) c_37
          first | (have hr_8_1q := hr_8_1.resolve_left (by omega); clear hr_8_1) | (have hr_8_1q := hr_8_1.resolve_right (by omega); clear hr_8_1) | skip
          refine lv_aload_n hx hb dX5_act_195 rfl (lv_at hl 3 rfl) ?_
          refine lv_aload_n hx hb dX5_act_196 rfl (lv_at hl 4 rfl) ?_
          refine lv_iconst (v := 1) hx hb dX5_act_197 (by decide) ?_
          refine lv_iload hx hb dX5_act_198 (lv_at hl 1 rfl) ?_
          refine lv_aload_n hx hb dX5_act_200 rfl (lv_at hl 6 rfl) ?_
          refine j7_len hx hb hK hh_36 hB280 1 rfl (by decide) hg_34 (by omega) dX5_act_201 (fun z_38 hz_38 => ?_)
          have hsz_39 := hh_36.2.2.2.2.2.1
          have htt_39 := hh_36.2.2.2.2.2.2.1
          refine W.room (fun hrc_39 hrs_39 => ?_)
          refine va_calli (A0 := jA base) (H0 := s.heap) (va_runV (As := [.ref r1, .int 1, .int r_8, .int z_38]) (rest := []) ⟨hx, hb, hml, hown, hts⟩ (uX5_addSide l dC dI ca base B hB hAp hB5 hB7 hB101 hB211 hB280 hB313 G_30 H_30 r0 r1 1 r_8 z_38 n1 qf_30 LC LS) (cwV 4 hts (jgV (jWr_87 _ (List.mem_of_getElem? (i := 14) rfl)) (jWr_87 _ (List.mem_of_getElem? (i := 15) rfl)) (jWr_87 _ (List.mem_of_getElem? (i := 16) rfl)) (jWr_2 _ (List.mem_of_getElem? (i := 4) rfl)) (jWr_87 _ (List.mem_of_getElem? (i := 17) rfl))) rfl rfl rfl (by decide +kernel) ⟨by rw [← hR]; exact Nat.le_of_ble_eq_true rfl, by rw [← hR]; exact Nat.le_of_ble_eq_true rfl⟩) ⟨fun a U g mk q => by obtain ⟨q0, q1, q2, qK, q10, q11, q12, q13, q14, q15, q16, q17⟩ := q; exact ⟨q0, q1, q2, jG.calling g mk a qK, (va_K.moved (Vm.Alike.refl U.vm) q10), (jK5.moved (Vm.Alike.refl U.vm) q11), q12, q13, q14, q15, q16, q17⟩, hh_36.recv (C := RX5) (T := TX5) (N := 11) hB7 rfl (by decide) hg_32 hK, fun U hU hW => ⟨rfl, hU, hh_36.2.1, hG.step hW hU hh_36.1, va_K.moved hW.alike hK2, jK5.moved hW.alike hK5, hg_32, hg_33, (Or.inr rfl), (hh_36.2.2.1.sub (L1 := [(r0, 7, 10, .int qf_30)]) [0] rfl), (hh_36.2.2.2.2.2.2.2.2.sub (L1 := [(jFg, jFr dC dI ca G_30 r0)]) [0] rfl), by first | omega | (refine ⟨?_, ?_, ?_, ?_⟩ <;> (first | omega | rfl | assumption | decide | exact Or.inl rfl | exact Or.inr rfl | (simp only; omega)))⟩⟩ rfl rfl hl.1 rfl (lv_room (Nat.le_of_ble_eq_true rfl)) dX5_act_202 ⟨by rw [hRc]; omega, by rw [hRs]; omega⟩) hh_36.1 (fun q _ h => h) (fun q h => h) (fun r_40 u_39 t_39 H_39 locs_39 ht_39 hvm_39 hr_40 hb_39 hz_39 hk_39 hS_39 => ?_)
          obtain ⟨qf_39, G_39⟩ := u_39
          rw [ht_39] at hb_39
          simp only at hb_39
          obtain ⟨⟨hb_391, hb_392, hb_393, hb_394, hb_395, hb_396⟩, hN_39, hbE_39⟩ := hb_39
          have hh_39 : jSt (dC, dI) B base G0 G_39 EX5_actSZ s.heap ((0 + (2)) + (2)) ((0 + (84)) + (84)) [(r0, 7, 10, .int qf_39), (r1, 5, 3, .ref formula_3), (r0, 7, 1, .ref sy), (sy, 12, 5, .int wd)] [] [] H_39 locs_39 := (hh_36.callG hb_391 hb_392 hb_393 hb_394 hb_395 hS_39 rfl (L1 := [(r1, 5, 3, .ref formula_3), (r0, 7, 1, .ref sy), (sy, 12, 5, .int wd)]) [1, 2, 3] rfl rfl (M1 := []) [] rfl rfl (I1 := []) [] rfl rfl).more hb_396
          have hNn_39 : (jNk [0, 1, 2, 3, 4, 6, 7, 8, 9, 10, 11, 12, 13, 14, 15, 16, 17, 175]) G0 G_39 := (hNn_30).tr hN_39
          have hg_41 := hb_392 _ _ hg_32
          have hg_42 := hb_392 _ _ hg_33
          have hg_43 := hb_392 _ _ hg_34
          have hg_44 := hb_392 _ _ hg_35
          have hh_45 := hh_39.addIs hbE_39
          try simp only at hr_40
          obtain ⟨hr_40_0, hr_40_1⟩ := hr_40
          have hsz_46 := hh_45.2.2.2.2.2.1
          have htt_46 := hh_45.2.2.2.2.2.2.1
          refine W.room (fun hrc_46 hrs_46 => ?_)
          refine W.widen (k := LC - s.heap.size) (n := LS - jTot s.heap) (by omega) (by omega) ?_
          rw [hQ]
          exact W.iret (v := r_40) hx hb hr (fun t ht hW => ⟨⟨r_40, (qf_39, G_39), rfl, by (try dsimp only); exact ⟨(by first | omega | rfl | assumption | fail), (by first | omega | rfl | assumption | fail)⟩, ⟨hh_45.ra (by first | omega | (simp only; omega)) (by first | omega | (simp only; omega)) (M1 := [(r0, 7, 10, .int qf_39)]) [0] rfl ht, hNn_39, by rw [ht]; exact hh_45.2.2.2.2.2.2.2.2.sub (L1 := [(jFg, jFr dC dI ca G_39 r0)]) [0] rfl⟩⟩, by rw [ht]; try exact hh_45.1.1, fun q h9 hq => by rw [ht]; try exact hh_45.1.2.1 q h9 hq⟩) hh_45.1.2.2 dX5_act_205
        · skip
          have c_37' : r_31.toInt > 0 := jb_le_n (rfl) ((by decide)) c_37
          first | (have hr_8_1q := hr_8_1.resolve_left (by omega); clear hr_8_1) | (have hr_8_1q := hr_8_1.resolve_right (by omega); clear hr_8_1) | skip
          refine lv_iload hx hb dX5_act_190 (lv_at hl 0 rfl) ?_
          refine lv_goto (tgt := 205) hx hb dX5_act_192 (by decide) ?_
          have hsz_47 := hh_36.2.2.2.2.2.1
          have htt_47 := hh_36.2.2.2.2.2.2.1
          refine W.room (fun hrc_47 hrs_47 => ?_)
          refine W.widen (k := LC - s.heap.size) (n := LS - jTot s.heap) (by omega) (by omega) ?_
          rw [hQ]
          exact W.iret (v := r_31) hx hb hr (fun t ht hW => ⟨⟨r_31, (qf_30, G_30), rfl, by (try dsimp only); exact ⟨(by first | omega | rfl | assumption | fail), (by first | omega | rfl | assumption | fail)⟩, ⟨hh_36.ra (by first | omega | (simp only; omega)) (by first | omega | (simp only; omega)) (M1 := [(r0, 7, 10, .int qf_30)]) [0] rfl ht, hNn_30, by rw [ht]; exact hh_36.2.2.2.2.2.2.2.2.sub (L1 := [(jFg, jFr dC dI ca G_30 r0)]) [0] rfl⟩⟩, by rw [ht]; try exact hh_36.1.1, fun q h9 hq => by rw [ht]; try exact hh_36.1.2.1 q h9 hq⟩) hh_36.1.2.2 dX5_act_205
      · skip
        have c_29' : w0_5.toInt = 2 := jb_ne_n (rfl) ((by decide)) c_29
        refine lv_iconst (v := 1) hx hb dX5_act_172 (by decide) ?_
        refine lv_goto (tgt := 177) hx hb dX5_act_173 (by decide) ?_
        refine lv_iconst (v := 1) hx hb dX5_act_177 (by decide) ?_
        refine lv_iload hx hb dX5_act_178 (lv_at hl 0 rfl) ?_
        have hsz_48 := hh_7.2.2.2.2.2.1
        have htt_48 := hh_7.2.2.2.2.2.2.1
        refine W.room (fun hrc_48 hrs_48 => ?_)
        refine va_calli (A0 := jA base) (H0 := s.heap) (va_runV (As := [.ref r1, .int 1, .int 1, .int r_8]) (rest := []) ⟨hx, hb, hml, hown, hts⟩ (uX5_addSide l dC dI ca base B hB hAp hB5 hB7 hB101 hB211 hB280 hB313 G0 H_7 r0 r1 1 1 r_8 n1 pf LC LS) (cwV 4 hts (jgV (jWr_87 _ (List.mem_of_getElem? (i := 14) rfl)) (jWr_87 _ (List.mem_of_getElem? (i := 15) rfl)) (jWr_87 _ (List.mem_of_getElem? (i := 16) rfl)) (jWr_2 _ (List.mem_of_getElem? (i := 4) rfl)) (jWr_87 _ (List.mem_of_getElem? (i := 17) rfl))) rfl rfl rfl (by decide +kernel) ⟨by rw [← hR]; exact Nat.le_of_ble_eq_true rfl, by rw [← hR]; exact Nat.le_of_ble_eq_true rfl⟩) ⟨fun a U g mk q => by obtain ⟨q0, q1, q2, qK, q10, q11, q12, q13, q14, q15, q16, q17⟩ := q; exact ⟨q0, q1, q2, jG.calling g mk a qK, (va_K.moved (Vm.Alike.refl U.vm) q10), (jK5.moved (Vm.Alike.refl U.vm) q11), q12, q13, q14, q15, q16, q17⟩, hh_7.recv (C := RX5) (T := TX5) (N := 11) hB7 rfl (by decide) hg_r0 hK, fun U hU hW => ⟨rfl, hU, hh_7.2.1, hG.step hW hU hh_7.1, va_K.moved hW.alike hK2, jK5.moved hW.alike hK5, hg_r0, hg_r1, (Or.inr rfl), (hh_7.2.2.1.sub (L1 := [(r0, 7, 10, .int pf)]) [1] rfl), (hh_7.2.2.2.2.2.2.2.2.sub (L1 := [(jFg, jFr dC dI ca G0 r0)]) [0] rfl), by first | omega | (refine ⟨?_, ?_, ?_, ?_⟩ <;> (first | omega | rfl | assumption | decide | exact Or.inl rfl | exact Or.inr rfl | (simp only; omega)))⟩⟩ rfl rfl hl.1 rfl (lv_room (Nat.le_of_ble_eq_true rfl)) dX5_act_180 ⟨by rw [hRc]; omega, by rw [hRs]; omega⟩) hh_7.1 (fun q _ h => h) (fun q h => h) (fun r_49 u_48 t_48 H_48 locs_48 ht_48 hvm_48 hr_49 hb_48 hz_48 hk_48 hS_48 => ?_)
        obtain ⟨qf_48, G_48⟩ := u_48
        rw [ht_48] at hb_48
        simp only at hb_48
        obtain ⟨⟨hb_481, hb_482, hb_483, hb_484, hb_485, hb_486⟩, hN_48, hbE_48⟩ := hb_48
        have hh_48 : jSt (dC, dI) B base G0 G_48 EX5_actSZ s.heap (0 + (2)) (0 + (84)) [(r0, 7, 10, .int qf_48), (r1, 5, 3, .ref formula_3), (r0, 7, 1, .ref sy), (sy, 12, 5, .int wd)] [] [] H_48 locs_48 := (hh_7.callG hb_481 hb_482 hb_483 hb_484 hb_485 hS_48 rfl (L1 := [(r1, 5, 3, .ref formula_3), (r0, 7, 1, .ref sy), (sy, 12, 5, .int wd)]) [0, 2, 3] rfl rfl (M1 := []) [] rfl rfl (I1 := []) [] rfl rfl).more hb_486
        have hNn_48 : (jNk [0, 1, 2, 3, 4, 6, 7, 8, 9, 10, 11, 12, 13, 14, 15, 16, 17, 175]) G0 G_48 := (jNk.rf).tr hN_48
        have hg_50 := hb_482 _ _ hg_r0
        have hg_51 := hb_482 _ _ hg_r1
        have hg_52 := hb_482 _ _ hg_formula_3
        have hg_53 := hb_482 _ _ hg_sy
        have hh_54 := hh_48.addIs hbE_48
        try simp only at hr_49
        obtain ⟨hr_49_0, hr_49_1⟩ := hr_49
        refine lv_istore (lv' := [(7, .int r_49), (5, .int r_8), (4, .int w0_5), (0, .ref r0), (1, .ref r1), (2, .null), (3, .ref formula_3)]) hx hb dX5_act_183 hl (by decide) rfl (fun ls hl => ?_)
        refine lv_iload hx hb dX5_act_185 (lv_at hl 0 rfl) ?_
        refine lv_if_le (tgt := 195) hx hb dX5_act_187 (by decide) (fun c_55 => ?_) (fun c_55 => ?_)
        · skip
          have c_55' : r_49.toInt ≤ 0 := jb_le (rfl) ((by decide)) c_55
          first | (have hr_8_1q := hr_8_1.resolve_left (by omega); clear hr_8_1) | (have hr_8_1q := hr_8_1.resolve_right (by omega); clear hr_8_1) | skip
          refine lv_aload_n hx hb dX5_act_195 rfl (lv_at hl 3 rfl) ?_
          refine lv_aload_n hx hb dX5_act_196 rfl (lv_at hl 4 rfl) ?_
          refine lv_iconst (v := 1) hx hb dX5_act_197 (by decide) ?_
          refine lv_iload hx hb dX5_act_198 (lv_at hl 1 rfl) ?_
          refine lv_aload_n hx hb dX5_act_200 rfl (lv_at hl 6 rfl) ?_
          refine j7_len hx hb hK hh_54 hB280 1 rfl (by decide) hg_52 (by omega) dX5_act_201 (fun z_56 hz_56 => ?_)
          have hsz_57 := hh_54.2.2.2.2.2.1
          have htt_57 := hh_54.2.2.2.2.2.2.1
          refine W.room (fun hrc_57 hrs_57 => ?_)
          refine va_calli (A0 := jA base) (H0 := s.heap) (va_runV (As := [.ref r1, .int 1, .int r_8, .int z_56]) (rest := []) ⟨hx, hb, hml, hown, hts⟩ (uX5_addSide l dC dI ca base B hB hAp hB5 hB7 hB101 hB211 hB280 hB313 G_48 H_48 r0 r1 1 r_8 z_56 n1 qf_48 LC LS) (cwV 4 hts (jgV (jWr_87 _ (List.mem_of_getElem? (i := 14) rfl)) (jWr_87 _ (List.mem_of_getElem? (i := 15) rfl)) (jWr_87 _ (List.mem_of_getElem? (i := 16) rfl)) (jWr_2 _ (List.mem_of_getElem? (i := 4) rfl)) (jWr_87 _ (List.mem_of_getElem? (i := 17) rfl))) rfl rfl rfl (by decide +kernel) ⟨by rw [← hR]; exact Nat.le_of_ble_eq_true rfl, by rw [← hR]; exact Nat.le_of_ble_eq_true rfl⟩) ⟨fun a U g mk q => by obtain ⟨q0, q1, q2, qK, q10, q11, q12, q13, q14, q15, q16, q17⟩ := q; exact ⟨q0, q1, q2, jG.calling g mk a qK, (va_K.moved (Vm.Alike.refl U.vm) q10), (jK5.moved (Vm.Alike.refl U.vm) q11), q12, q13, q14, q15, q16, q17⟩, hh_54.recv (C := RX5) (T := TX5) (N := 11) hB7 rfl (by decide) hg_50 hK, fun U hU hW => ⟨rfl, hU, hh_54.2.1, hG.step hW hU hh_54.1, va_K.moved hW.alike hK2, jK5.moved hW.alike hK5, hg_50, hg_51, (Or.inr rfl), (hh_54.2.2.1.sub (L1 := [(r0, 7, 10, .int qf_48)]) [0] rfl), (hh_54.2.2.2.2.2.2.2.2.sub (L1 := [(jFg, jFr dC dI ca G_48 r0)]) [0] rfl), by first | omega | (refine ⟨?_, ?_, ?_, ?_⟩ <;> (first | omega | rfl | assumption | decide | exact Or.inl rfl | exact Or.inr rfl | (simp only; omega)))⟩⟩ rfl rfl hl.1 rfl (lv_room (Nat.le_of_ble_eq_true rfl)) dX5_act_202 ⟨by rw [hRc]; omega, by rw [hRs]; omega⟩) hh_54.1 (fun q _ h => h) (fun q h => h) (fun r_58 u_57 t_57 H_57 locs_57 ht_57 hvm_57 hr_58 hb_57 hz_57 hk_57 hS_57 => ?_)
          obtain ⟨qf_57, G_57⟩ := u_57
          rw [ht_57] at hb_57
          simp only at hb_57
          obtain ⟨⟨hb_571, hb_572, hb_573, hb_574, hb_575, hb_576⟩, hN_57, hbE_57⟩ := hb_57
          have hh_57 : jSt (dC, dI) B base G0 G_57 EX5_actSZ s.heap ((0 + (2)) + (2)) ((0 + (84)) + (84)) [(r0, 7, 10, .int qf_57), (r1, 5, 3, .ref formula_3), (r0, 7, 1, .ref sy), (sy, 12, 5, .int wd)] [] [] H_57 locs_57 := (hh_54.callG hb_571 hb_572 hb_573 hb_574 hb_575 hS_57 rfl (L1 := [(r1, 5, 3, .ref formula_3), (r0, 7, 1, .ref sy), (sy, 12, 5, .int wd)]) [1, 2, 3] rfl rfl (M1 := []) [] rfl rfl (I1 := []) [] rfl rfl).more hb_576
          have hNn_57 : (jNk [0, 1, 2, 3, 4, 6, 7, 8, 9, 10, 11, 12, 13, 14, 15, 16, 17, 175]) G0 G_57 := (hNn_48).tr hN_57
          have hg_59 := hb_572 _ _ hg_50
          have hg_60 := hb_572 _ _ hg_51
          have hg_61 := hb_572 _ _ hg_52
          have hg_62 := hb_572 _ _ hg_53
          have hh_63 := hh_57.addIs hbE_57
          try simp only at hr_58
          obtain ⟨hr_58_0, hr_58_1⟩ := hr_58
          have hsz_64 := hh_63.2.2.2.2.2.1
          have htt_64 := hh_63.2.2.2.2.2.2.1
          refine W.room (fun hrc_64 hrs_64 => ?_)
          refine W.widen (k := LC - s.heap.size) (n := LS - jTot s.heap) (by omega) (by omega) ?_
          rw [hQ]
          exact W.iret (v := r_58) hx hb hr (fun t ht hW => ⟨⟨r_58, (qf_57, G_57), rfl, by (try dsimp only); exact ⟨(by first | omega | rfl | assumption | fail), (by first | omega | rfl | assumption | fail)⟩, ⟨hh_63.ra (by first | omega | (simp only; omega)) (by first | omega | (simp only; omega)) (M1 := [(r0, 7, 10, .int qf_57)]) [0] rfl ht, hNn_57, by rw [ht]; exact hh_63.2.2.2.2.2.2.2.2.sub (L1 := [(jFg, jFr dC dI ca G_57 r0)]) [0] rfl⟩⟩, by rw [ht]; try exact hh_63.1.1, fun q h9 hq => by rw [ht]; try exact hh_63.1.2.1 q h9 hq⟩) hh_63.1.2.2 dX5_act_205
        · skip
          have c_55' : r_49.toInt > 0 := jb_le_n (rfl) ((by decide)) c_55
          first | (have hr_8_1q := hr_8_1.resolve_left (by omega); clear hr_8_1) | (have hr_8_1q := hr_8_1.resolve_right (by omega); clear hr_8_1) | skip
          refine lv_iload hx hb dX5_act_190 (lv_at hl 0 rfl) ?_
          refine lv_goto (tgt := 205) hx hb dX5_act_192 (by decide) ?_
          have hsz_65 := hh_54.2.2.2.2.2.1
          have htt_65 := hh_54.2.2.2.2.2.2.1
          refine W.room (fun hrc_65 hrs_65 => ?_)
          refine W.widen (k := LC - s.heap.size) (n := LS - jTot s.heap) (by omega) (by omega) ?_
          rw [hQ]
          exact W.iret (v := r_49) hx hb hr (fun t ht hW => ⟨⟨r_49, (qf_48, G_48), rfl, by (try dsimp only); exact ⟨(by first | omega | rfl | assumption | fail), (by first | omega | rfl | assumption | fail)⟩, ⟨hh_54.ra (by first | omega | (simp only; omega)) (by first | omega | (simp only; omega)) (M1 := [(r0, 7, 10, .int qf_48)]) [0] rfl ht, hNn_48, by rw [ht]; exact hh_54.2.2.2.2.2.2.2.2.sub (L1 := [(jFg, jFr dC dI ca G_48 r0)]) [0] rfl⟩⟩, by rw [ht]; try exact hh_54.1.1, fun q h9 hq => by rw [ht]; try exact hh_54.1.2.1 q h9 hq⟩) hh_54.1.2.2 dX5_act_205
    · refine lv_tableIn (off := 168) (tgt := 206) hx hb dX5_act_38 (by omega) (by omega) (by rw [c_9]; rfl) (by decide) ?_
      refine lv_aload_n hx hb dX5_act_206 rfl (lv_at hl 2 rfl) ?_
      refine lv_aload_n hx hb dX5_act_207 rfl (lv_at hl 3 rfl) ?_
      refine lv_iload hx hb dX5_act_208 (lv_at hl 1 rfl) ?_
      refine lv_iconst (v := 3) hx hb dX5_act_210 (by decide) ?_
      refine lv_icmp_ne (tgt := 218) hx hb dX5_act_211 (by decide) (fun c_66 => ?_) (fun c_66 => ?_)
      · skip
        have c_66' : w0_5.toInt ≠ 3 := jb_ne (rfl) ((by decide)) c_66
        refine lv_iconst (v := 0) hx hb dX5_act_218 (by decide) ?_
        refine lv_iconst (v := 1) hx hb dX5_act_219 (by decide) ?_
        refine lv_iload hx hb dX5_act_220 (lv_at hl 0 rfl) ?_
        have hsz_67 := hh_7.2.2.2.2.2.1
        have htt_67 := hh_7.2.2.2.2.2.2.1
        refine W.room (fun hrc_67 hrs_67 => ?_)
        refine va_calli (A0 := jA base) (H0 := s.heap) (va_runV (As := [.ref r1, .int 0, .int 1, .int r_8]) (rest := []) ⟨hx, hb, hml, hown, hts⟩ (uX5_addSide l dC dI ca base B hB hAp hB5 hB7 hB101 hB211 hB280 hB313 G0 H_7 r0 r1 0 1 r_8 n1 pf LC LS) (cwV 4 hts (jgV (jWr_87 _ (List.mem_of_getElem? (i := 14) rfl)) (jWr_87 _ (List.mem_of_getElem? (i := 15) rfl)) (jWr_87 _ (List.mem_of_getElem? (i := 16) rfl)) (jWr_2 _ (List.mem_of_getElem? (i := 4) rfl)) (jWr_87 _ (List.mem_of_getElem? (i := 17) rfl))) rfl rfl rfl (by decide +kernel) ⟨by rw [← hR]; exact Nat.le_of_ble_eq_true rfl, by rw [← hR]; exact Nat.le_of_ble_eq_true rfl⟩) ⟨fun a U g mk q => by obtain ⟨q0, q1, q2, qK, q10, q11, q12, q13, q14, q15, q16, q17⟩ := q; exact ⟨q0, q1, q2, jG.calling g mk a qK, (va_K.moved (Vm.Alike.refl U.vm) q10), (jK5.moved (Vm.Alike.refl U.vm) q11), q12, q13, q14, q15, q16, q17⟩, hh_7.recv (C := RX5) (T := TX5) (N := 11) hB7 rfl (by decide) hg_r0 hK, fun U hU hW => ⟨rfl, hU, hh_7.2.1, hG.step hW hU hh_7.1, va_K.moved hW.alike hK2, jK5.moved hW.alike hK5, hg_r0, hg_r1, (Or.inl rfl), (hh_7.2.2.1.sub (L1 := [(r0, 7, 10, .int pf)]) [1] rfl), (hh_7.2.2.2.2.2.2.2.2.sub (L1 := [(jFg, jFr dC dI ca G0 r0)]) [0] rfl), by first | omega | (refine ⟨?_, ?_, ?_, ?_⟩ <;> (first | omega | rfl | assumption | decide | exact Or.inl rfl | exact Or.inr rfl | (simp only; omega)))⟩⟩ rfl rfl hl.1 rfl (lv_room (Nat.le_of_ble_eq_true rfl)) dX5_act_222 ⟨by rw [hRc]; omega, by rw [hRs]; omega⟩) hh_7.1 (fun q _ h => h) (fun q h => h) (fun r_68 u_67 t_67 H_67 locs_67 ht_67 hvm_67 hr_68 hb_67 hz_67 hk_67 hS_67 => ?_)
        obtain ⟨qf_67, G_67⟩ := u_67
        rw [ht_67] at hb_67
        simp only at hb_67
        obtain ⟨⟨hb_671, hb_672, hb_673, hb_674, hb_675, hb_676⟩, hN_67, hbE_67⟩ := hb_67
        have hh_67 : jSt (dC, dI) B base G0 G_67 EX5_actSZ s.heap (0 + (2)) (0 + (84)) [(r0, 7, 10, .int qf_67), (r1, 5, 3, .ref formula_3), (r0, 7, 1, .ref sy), (sy, 12, 5, .int wd)] [] [] H_67 locs_67 := (hh_7.callG hb_671 hb_672 hb_673 hb_674 hb_675 hS_67 rfl (L1 := [(r1, 5, 3, .ref formula_3), (r0, 7, 1, .ref sy), (sy, 12, 5, .int wd)]) [0, 2, 3] rfl rfl (M1 := []) [] rfl rfl (I1 := []) [] rfl rfl).more hb_676
        have hNn_67 : (jNk [0, 1, 2, 3, 4, 6, 7, 8, 9, 10, 11, 12, 13, 14, 15, 16, 17, 175]) G0 G_67 := (jNk.rf).tr hN_67
        have hg_69 := hb_672 _ _ hg_r0
        have hg_70 := hb_672 _ _ hg_r1
        have hg_71 := hb_672 _ _ hg_formula_3
        have hg_72 := hb_672 _ _ hg_sy
        have hh_73 := hh_67.addIs hbE_67
        try simp only at hr_68
        obtain ⟨hr_68_0, hr_68_1⟩ := hr_68
        have hsz_74 := hh_73.2.2.2.2.2.1
        have htt_74 := hh_73.2.2.2.2.2.2.1
        refine W.room (fun hrc_74 hrs_74 => ?_)
        refine W.widen (k := LC - s.heap.size) (n := LS - jTot s.heap) (by omega) (by omega) ?_
        rw [hQ]
        exact W.iret (v := r_68) hx hb hr (fun t ht hW => ⟨⟨r_68, (qf_67, G_67), rfl, by (try dsimp only); exact ⟨(by first | omega | rfl | assumption | fail), (by first | omega | rfl | assumption | fail)⟩, ⟨hh_73.ra (by first | omega | (simp only; omega)) (by first | omega | (simp only; omega)) (M1 := [(r0, 7, 10, .int qf_67)]) [0] rfl ht, hNn_67, by rw [ht]; exact hh_73.2.2.2.2.2.2.2.2.sub (L1 := [(jFg, jFr dC dI ca G_67 r0)]) [0] rfl⟩⟩, by rw [ht]; try exact hh_73.1.1, fun q h9 hq => by rw [ht]; try exact hh_73.1.2.1 q h9 hq⟩) hh_73.1.2.2 dX5_act_225
      · skip
        have c_66' : w0_5.toInt = 3 := jb_ne_n (rfl) ((by decide)) c_66
        refine lv_iconst (v := 1) hx hb dX5_act_214 (by decide) ?_
        refine lv_goto (tgt := 219) hx hb dX5_act_215 (by decide) ?_
        refine lv_iconst (v := 1) hx hb dX5_act_219 (by decide) ?_
        refine lv_iload hx hb dX5_act_220 (lv_at hl 0 rfl) ?_
        have hsz_75 := hh_7.2.2.2.2.2.1
        have htt_75 := hh_7.2.2.2.2.2.2.1
        refine W.room (fun hrc_75 hrs_75 => ?_)
        refine va_calli (A0 := jA base) (H0 := s.heap) (va_runV (As := [.ref r1, .int 1, .int 1, .int r_8]) (rest := []) ⟨hx, hb, hml, hown, hts⟩ (uX5_addSide l dC dI ca base B hB hAp hB5 hB7 hB101 hB211 hB280 hB313 G0 H_7 r0 r1 1 1 r_8 n1 pf LC LS) (cwV 4 hts (jgV (jWr_87 _ (List.mem_of_getElem? (i := 14) rfl)) (jWr_87 _ (List.mem_of_getElem? (i := 15) rfl)) (jWr_87 _ (List.mem_of_getElem? (i := 16) rfl)) (jWr_2 _ (List.mem_of_getElem? (i := 4) rfl)) (jWr_87 _ (List.mem_of_getElem? (i := 17) rfl))) rfl rfl rfl (by decide +kernel) ⟨by rw [← hR]; exact Nat.le_of_ble_eq_true rfl, by rw [← hR]; exact Nat.le_of_ble_eq_true rfl⟩) ⟨fun a U g mk q => by obtain ⟨q0, q1, q2, qK, q10, q11, q12, q13, q14, q15, q16, q17⟩ := q; exact ⟨q0, q1, q2, jG.calling g mk a qK, (va_K.moved (Vm.Alike.refl U.vm) q10), (jK5.moved (Vm.Alike.refl U.vm) q11), q12, q13, q14, q15, q16, q17⟩, hh_7.recv (C := RX5) (T := TX5) (N := 11) hB7 rfl (by decide) hg_r0 hK, fun U hU hW => ⟨rfl, hU, hh_7.2.1, hG.step hW hU hh_7.1, va_K.moved hW.alike hK2, jK5.moved hW.alike hK5, hg_r0, hg_r1, (Or.inr rfl), (hh_7.2.2.1.sub (L1 := [(r0, 7, 10, .int pf)]) [1] rfl), (hh_7.2.2.2.2.2.2.2.2.sub (L1 := [(jFg, jFr dC dI ca G0 r0)]) [0] rfl), by first | omega | (refine ⟨?_, ?_, ?_, ?_⟩ <;> (first | omega | rfl | assumption | decide | exact Or.inl rfl | exact Or.inr rfl | (simp only; omega)))⟩⟩ rfl rfl hl.1 rfl (lv_room (Nat.le_of_ble_eq_true rfl)) dX5_act_222 ⟨by rw [hRc]; omega, by rw [hRs]; omega⟩) hh_7.1 (fun q _ h => h) (fun q h => h) (fun r_76 u_75 t_75 H_75 locs_75 ht_75 hvm_75 hr_76 hb_75 hz_75 hk_75 hS_75 => ?_)
        obtain ⟨qf_75, G_75⟩ := u_75
        rw [ht_75] at hb_75
        simp only at hb_75
        obtain ⟨⟨hb_751, hb_752, hb_753, hb_754, hb_755, hb_756⟩, hN_75, hbE_75⟩ := hb_75
        have hh_75 : jSt (dC, dI) B base G0 G_75 EX5_actSZ s.heap (0 + (2)) (0 + (84)) [(r0, 7, 10, .int qf_75), (r1, 5, 3, .ref formula_3), (r0, 7, 1, .ref sy), (sy, 12, 5, .int wd)] [] [] H_75 locs_75 := (hh_7.callG hb_751 hb_752 hb_753 hb_754 hb_755 hS_75 rfl (L1 := [(r1, 5, 3, .ref formula_3), (r0, 7, 1, .ref sy), (sy, 12, 5, .int wd)]) [0, 2, 3] rfl rfl (M1 := []) [] rfl rfl (I1 := []) [] rfl rfl).more hb_756
        have hNn_75 : (jNk [0, 1, 2, 3, 4, 6, 7, 8, 9, 10, 11, 12, 13, 14, 15, 16, 17, 175]) G0 G_75 := (jNk.rf).tr hN_75
        have hg_77 := hb_752 _ _ hg_r0
        have hg_78 := hb_752 _ _ hg_r1
        have hg_79 := hb_752 _ _ hg_formula_3
        have hg_80 := hb_752 _ _ hg_sy
        have hh_81 := hh_75.addIs hbE_75
        try simp only at hr_76
        obtain ⟨hr_76_0, hr_76_1⟩ := hr_76
        have hsz_82 := hh_81.2.2.2.2.2.1
        have htt_82 := hh_81.2.2.2.2.2.2.1
        refine W.room (fun hrc_82 hrs_82 => ?_)
        refine W.widen (k := LC - s.heap.size) (n := LS - jTot s.heap) (by omega) (by omega) ?_
        rw [hQ]
        exact W.iret (v := r_76) hx hb hr (fun t ht hW => ⟨⟨r_76, (qf_75, G_75), rfl, by (try dsimp only); exact ⟨(by first | omega | rfl | assumption | fail), (by first | omega | rfl | assumption | fail)⟩, ⟨hh_81.ra (by first | omega | (simp only; omega)) (by first | omega | (simp only; omega)) (M1 := [(r0, 7, 10, .int qf_75)]) [0] rfl ht, hNn_75, by rw [ht]; exact hh_81.2.2.2.2.2.2.2.2.sub (L1 := [(jFg, jFr dC dI ca G_75 r0)]) [0] rfl⟩⟩, by rw [ht]; try exact hh_81.1.1, fun q h9 hq => by rw [ht]; try exact hh_81.1.2.1 q h9 hq⟩) hh_81.1.2.2 dX5_act_225
    · refine lv_tableIn (off := 188) (tgt := 226) hx hb dX5_act_38 (by omega) (by omega) (by rw [c_9]; rfl) (by decide) ?_
      refine lv_aload_n hx hb dX5_act_226 rfl (lv_at hl 2 rfl) ?_
      refine lv_aload_n hx hb dX5_act_227 rfl (lv_at hl 3 rfl) ?_
      refine lv_iload hx hb dX5_act_228 (lv_at hl 1 rfl) ?_
      refine lv_iconst (v := 3) hx hb dX5_act_230 (by decide) ?_
      refine lv_icmp_ne (tgt := 238) hx hb dX5_act_231 (by decide) (fun c_83 => ?_) (fun c_83 => ?_)
      · skip
        have c_83' : w0_5.toInt ≠ 3 := jb_ne (rfl) ((by decide)) c_83
        refine lv_iconst (v := 0) hx hb dX5_act_238 (by decide) ?_
        refine lv_iload hx hb dX5_act_239 (lv_at hl 0 rfl) ?_
        refine lv_aload_n hx hb dX5_act_241 rfl (lv_at hl 5 rfl) ?_
        refine j7_len hx hb hK hh_7 hB280 1 rfl (by decide) hg_formula_3 (by omega) dX5_act_242 (fun z_84 hz_84 => ?_)
        have hsz_85 := hh_7.2.2.2.2.2.1
        have htt_85 := hh_7.2.2.2.2.2.2.1
        refine W.room (fun hrc_85 hrs_85 => ?_)
        refine va_calli (A0 := jA base) (H0 := s.heap) (va_runV (As := [.ref r1, .int 0, .int r_8, .int z_84]) (rest := []) ⟨hx, hb, hml, hown, hts⟩ (uX5_addSide l dC dI ca base B hB hAp hB5 hB7 hB101 hB211 hB280 hB313 G0 H_7 r0 r1 0 r_8 z_84 n1 pf LC LS) (cwV 4 hts (jgV (jWr_87 _ (List.mem_of_getElem? (i := 14) rfl)) (jWr_87 _ (List.mem_of_getElem? (i := 15) rfl)) (jWr_87 _ (List.mem_of_getElem? (i := 16) rfl)) (jWr_2 _ (List.mem_of_getElem? (i := 4) rfl)) (jWr_87 _ (List.mem_of_getElem? (i := 17) rfl))) rfl rfl rfl (by decide +kernel) ⟨by rw [← hR]; exact Nat.le_of_ble_eq_true rfl, by rw [← hR]; exact Nat.le_of_ble_eq_true rfl⟩) ⟨fun a U g mk q => by obtain ⟨q0, q1, q2, qK, q10, q11, q12, q13, q14, q15, q16, q17⟩ := q; exact ⟨q0, q1, q2, jG.calling g mk a qK, (va_K.moved (Vm.Alike.refl U.vm) q10), (jK5.moved (Vm.Alike.refl U.vm) q11), q12, q13, q14, q15, q16, q17⟩, hh_7.recv (C := RX5) (T := TX5) (N := 11) hB7 rfl (by decide) hg_r0 hK, fun U hU hW => ⟨rfl, hU, hh_7.2.1, hG.step hW hU hh_7.1, va_K.moved hW.alike hK2, jK5.moved hW.alike hK5, hg_r0, hg_r1, (Or.inl rfl), (hh_7.2.2.1.sub (L1 := [(r0, 7, 10, .int pf)]) [1] rfl), (hh_7.2.2.2.2.2.2.2.2.sub (L1 := [(jFg, jFr dC dI ca G0 r0)]) [0] rfl), by first | omega | (refine ⟨?_, ?_, ?_, ?_⟩ <;> (first | omega | rfl | assumption | decide | exact Or.inl rfl | exact Or.inr rfl | (simp only; omega)))⟩⟩ rfl rfl hl.1 rfl (lv_room (Nat.le_of_ble_eq_true rfl)) dX5_act_243 ⟨by rw [hRc]; omega, by rw [hRs]; omega⟩) hh_7.1 (fun q _ h => h) (fun q h => h) (fun r_86 u_85 t_85 H_85 locs_85 ht_85 hvm_85 hr_86 hb_85 hz_85 hk_85 hS_85 => ?_)
        obtain ⟨qf_85, G_85⟩ := u_85
        rw [ht_85] at hb_85
        simp only at hb_85
        obtain ⟨⟨hb_851, hb_852, hb_853, hb_854, hb_855, hb_856⟩, hN_85, hbE_85⟩ := hb_85
        have hh_85 : jSt (dC, dI) B base G0 G_85 EX5_actSZ s.heap (0 + (2)) (0 + (84)) [(r0, 7, 10, .int qf_85), (r1, 5, 3, .ref formula_3), (r0, 7, 1, .ref sy), (sy, 12, 5, .int wd)] [] [] H_85 locs_85 := (hh_7.callG hb_851 hb_852 hb_853 hb_854 hb_855 hS_85 rfl (L1 := [(r1, 5, 3, .ref formula_3), (r0, 7, 1, .ref sy), (sy, 12, 5, .int wd)]) [0, 2, 3] rfl rfl (M1 := []) [] rfl rfl (I1 := []) [] rfl rfl).more hb_856
        have hNn_85 : (jNk [0, 1, 2, 3, 4, 6, 7, 8, 9, 10, 11, 12, 13, 14, 15, 16, 17, 175]) G0 G_85 := (jNk.rf).tr hN_85
        have hg_87 := hb_852 _ _ hg_r0
        have hg_88 := hb_852 _ _ hg_r1
        have hg_89 := hb_852 _ _ hg_formula_3
        have hg_90 := hb_852 _ _ hg_sy
        have hh_91 := hh_85.addIs hbE_85
        try simp only at hr_86
        obtain ⟨hr_86_0, hr_86_1⟩ := hr_86
        have hsz_92 := hh_91.2.2.2.2.2.1
        have htt_92 := hh_91.2.2.2.2.2.2.1
        refine W.room (fun hrc_92 hrs_92 => ?_)
        refine W.widen (k := LC - s.heap.size) (n := LS - jTot s.heap) (by omega) (by omega) ?_
        rw [hQ]
        exact W.iret (v := r_86) hx hb hr (fun t ht hW => ⟨⟨r_86, (qf_85, G_85), rfl, by (try dsimp only); exact ⟨(by first | omega | rfl | assumption | fail), (by first | omega | rfl | assumption | fail)⟩, ⟨hh_91.ra (by first | omega | (simp only; omega)) (by first | omega | (simp only; omega)) (M1 := [(r0, 7, 10, .int qf_85)]) [0] rfl ht, hNn_85, by rw [ht]; exact hh_91.2.2.2.2.2.2.2.2.sub (L1 := [(jFg, jFr dC dI ca G_85 r0)]) [0] rfl⟩⟩, by rw [ht]; try exact hh_91.1.1, fun q h9 hq => by rw [ht]; try exact hh_91.1.2.1 q h9 hq⟩) hh_91.1.2.2 dX5_act_246
      · skip
        have c_83' : w0_5.toInt = 3 := jb_ne_n (rfl) ((by decide)) c_83
        refine lv_iconst (v := 1) hx hb dX5_act_234 (by decide) ?_
        refine lv_goto (tgt := 239) hx hb dX5_act_235 (by decide) ?_
        refine lv_iload hx hb dX5_act_239 (lv_at hl 0 rfl) ?_
        refine lv_aload_n hx hb dX5_act_241 rfl (lv_at hl 5 rfl) ?_
        refine j7_len hx hb hK hh_7 hB280 1 rfl (by decide) hg_formula_3 (by omega) dX5_act_242 (fun z_93 hz_93 => ?_)
        have hsz_94 := hh_7.2.2.2.2.2.1
        have htt_94 := hh_7.2.2.2.2.2.2.1
        refine W.room (fun hrc_94 hrs_94 => ?_)
        refine va_calli (A0 := jA base) (H0 := s.heap) (va_runV (As := [.ref r1, .int 1, .int r_8, .int z_93]) (rest := []) ⟨hx, hb, hml, hown, hts⟩ (uX5_addSide l dC dI ca base B hB hAp hB5 hB7 hB101 hB211 hB280 hB313 G0 H_7 r0 r1 1 r_8 z_93 n1 pf LC LS) (cwV 4 hts (jgV (jWr_87 _ (List.mem_of_getElem? (i := 14) rfl)) (jWr_87 _ (List.mem_of_getElem? (i := 15) rfl)) (jWr_87 _ (List.mem_of_getElem? (i := 16) rfl)) (jWr_2 _ (List.mem_of_getElem? (i := 4) rfl)) (jWr_87 _ (List.mem_of_getElem? (i := 17) rfl))) rfl rfl rfl (by decide +kernel) ⟨by rw [← hR]; exact Nat.le_of_ble_eq_true rfl, by rw [← hR]; exact Nat.le_of_ble_eq_true rfl⟩) ⟨fun a U g mk q => by obtain ⟨q0, q1, q2, qK, q10, q11, q12, q13, q14, q15, q16, q17⟩ := q; exact ⟨q0, q1, q2, jG.calling g mk a qK, (va_K.moved (Vm.Alike.refl U.vm) q10), (jK5.moved (Vm.Alike.refl U.vm) q11), q12, q13, q14, q15, q16, q17⟩, hh_7.recv (C := RX5) (T := TX5) (N := 11) hB7 rfl (by decide) hg_r0 hK, fun U hU hW => ⟨rfl, hU, hh_7.2.1, hG.step hW hU hh_7.1, va_K.moved hW.alike hK2, jK5.moved hW.alike hK5, hg_r0, hg_r1, (Or.inr rfl), (hh_7.2.2.1.sub (L1 := [(r0, 7, 10, .int pf)]) [1] rfl), (hh_7.2.2.2.2.2.2.2.2.sub (L1 := [(jFg, jFr dC dI ca G0 r0)]) [0] rfl), by first | omega | (refine ⟨?_, ?_, ?_, ?_⟩ <;> (first | omega | rfl | assumption | decide | exact Or.inl rfl | exact Or.inr rfl | (simp only; omega)))⟩⟩ rfl rfl hl.1 rfl (lv_room (Nat.le_of_ble_eq_true rfl)) dX5_act_243 ⟨by rw [hRc]; omega, by rw [hRs]; omega⟩) hh_7.1 (fun q _ h => h) (fun q h => h) (fun r_95 u_94 t_94 H_94 locs_94 ht_94 hvm_94 hr_95 hb_94 hz_94 hk_94 hS_94 => ?_)
        obtain ⟨qf_94, G_94⟩ := u_94
        rw [ht_94] at hb_94
        simp only at hb_94
        obtain ⟨⟨hb_941, hb_942, hb_943, hb_944, hb_945, hb_946⟩, hN_94, hbE_94⟩ := hb_94
        have hh_94 : jSt (dC, dI) B base G0 G_94 EX5_actSZ s.heap (0 + (2)) (0 + (84)) [(r0, 7, 10, .int qf_94), (r1, 5, 3, .ref formula_3), (r0, 7, 1, .ref sy), (sy, 12, 5, .int wd)] [] [] H_94 locs_94 := (hh_7.callG hb_941 hb_942 hb_943 hb_944 hb_945 hS_94 rfl (L1 := [(r1, 5, 3, .ref formula_3), (r0, 7, 1, .ref sy), (sy, 12, 5, .int wd)]) [0, 2, 3] rfl rfl (M1 := []) [] rfl rfl (I1 := []) [] rfl rfl).more hb_946
        have hNn_94 : (jNk [0, 1, 2, 3, 4, 6, 7, 8, 9, 10, 11, 12, 13, 14, 15, 16, 17, 175]) G0 G_94 := (jNk.rf).tr hN_94
        have hg_96 := hb_942 _ _ hg_r0
        have hg_97 := hb_942 _ _ hg_r1
        have hg_98 := hb_942 _ _ hg_formula_3
        have hg_99 := hb_942 _ _ hg_sy
        have hh_100 := hh_94.addIs hbE_94
        try simp only at hr_95
        obtain ⟨hr_95_0, hr_95_1⟩ := hr_95
        have hsz_101 := hh_100.2.2.2.2.2.1
        have htt_101 := hh_100.2.2.2.2.2.2.1
        refine W.room (fun hrc_101 hrs_101 => ?_)
        refine W.widen (k := LC - s.heap.size) (n := LS - jTot s.heap) (by omega) (by omega) ?_
        rw [hQ]
        exact W.iret (v := r_95) hx hb hr (fun t ht hW => ⟨⟨r_95, (qf_94, G_94), rfl, by (try dsimp only); exact ⟨(by first | omega | rfl | assumption | fail), (by first | omega | rfl | assumption | fail)⟩, ⟨hh_100.ra (by first | omega | (simp only; omega)) (by first | omega | (simp only; omega)) (M1 := [(r0, 7, 10, .int qf_94)]) [0] rfl ht, hNn_94, by rw [ht]; exact hh_100.2.2.2.2.2.2.2.2.sub (L1 := [(jFg, jFr dC dI ca G_94 r0)]) [0] rfl⟩⟩, by rw [ht]; try exact hh_100.1.1, fun q h9 hq => by rw [ht]; try exact hh_100.1.2.1 q h9 hq⟩) hh_100.1.2.2 dX5_act_246
    · refine lv_tableIn (off := 209) (tgt := 247) hx hb dX5_act_38 (by omega) (by omega) (by rw [c_9]; rfl) (by decide) ?_
      refine lv_aload_n hx hb dX5_act_247 rfl (lv_at hl 2 rfl) ?_
      refine lv_aload_n hx hb dX5_act_248 rfl (lv_at hl 3 rfl) ?_
      have hsz_102 := hh_7.2.2.2.2.2.1
      have htt_102 := hh_7.2.2.2.2.2.2.1
      refine W.room (fun hrc_102 hrs_102 => ?_)
      refine va_calli (A0 := jA base) (H0 := s.heap) (va_runV (As := [.ref r1]) (rest := []) ⟨hx, hb, hml, hown, hts⟩ (uX5_cases l dC dI ca base B hB hAp hB5 hB7 hB12 hB101 hB211 hB280 hB290 hB291 hB292 hB313 hB315 G0 H_7 r0 r1 n1 pf LC LS) (cwV 1 hts (jgV (jWr_87 _ (List.mem_of_getElem? (i := 18) rfl)) (jWr_87 _ (List.mem_of_getElem? (i := 19) rfl)) (jWr_87 _ (List.mem_of_getElem? (i := 20) rfl)) (jWr_2 _ (List.mem_of_getElem? (i := 4) rfl)) (jWr_87 _ (List.mem_of_getElem? (i := 21) rfl))) rfl rfl rfl (by decide +kernel) ⟨by rw [← hR]; exact Nat.le_of_ble_eq_true rfl, by rw [← hR]; exact Nat.le_of_ble_eq_true rfl⟩) ⟨fun a U g mk q => by obtain ⟨q0, q1, q2, qK, q10, q11, q12, q13, q14, q15, q16⟩ := q; exact ⟨q0, q1, q2, jG.calling g mk a qK, (va_K.moved (Vm.Alike.refl U.vm) q10), (jK5.moved (Vm.Alike.refl U.vm) q11), q12, q13, q14, q15, q16⟩, hh_7.recv (C := RX5) (T := TX5) (N := 11) hB7 rfl (by decide) hg_r0 hK, fun U hU hW => ⟨rfl, hU, hh_7.2.1, hG.step hW hU hh_7.1, va_K.moved hW.alike hK2, jK5.moved hW.alike hK5, hg_r0, hg_r1, (hh_7.2.2.1.sub (L1 := [(r0, 7, 10, .int pf)]) [1] rfl), (hh_7.2.2.2.2.2.2.2.2.sub (L1 := [(jFg, jFr dC dI ca G0 r0)]) [0] rfl), by first | omega | (refine ⟨?_, ?_, ?_⟩ <;> (first | omega | rfl | assumption | decide | exact Or.inl rfl | exact Or.inr rfl | (simp only; omega)))⟩⟩ rfl rfl hl.1 rfl (lv_room (Nat.le_of_ble_eq_true rfl)) dX5_act_249 ⟨by rw [hRc]; omega, by rw [hRs]; omega⟩) hh_7.1 (fun q _ h => h) (fun q h => h) (fun r_103 u_102 t_102 H_102 locs_102 ht_102 hvm_102 hr_103 hb_102 hz_102 hk_102 hS_102 => ?_)
      obtain ⟨qf_102, G_102⟩ := u_102
      rw [ht_102] at hb_102
      simp only at hb_102
      obtain ⟨⟨hb_1021, hb_1022, hb_1023, hb_1024, hb_1025, hb_1026⟩, hN_102, hbE_102⟩ := hb_102
      have hh_102 : jSt (dC, dI) B base G0 G_102 EX5_actSZ s.heap (0 + (16)) (0 + (500)) [(r0, 7, 10, .int qf_102), (r1, 5, 3, .ref formula_3), (r0, 7, 1, .ref sy), (sy, 12, 5, .int wd)] [] [] H_102 locs_102 := (hh_7.callG hb_1021 hb_1022 hb_1023 hb_1024 hb_1025 hS_102 rfl (L1 := [(r1, 5, 3, .ref formula_3), (r0, 7, 1, .ref sy), (sy, 12, 5, .int wd)]) [0, 2, 3] rfl rfl (M1 := []) [] rfl rfl (I1 := []) [] rfl rfl).more hb_1026
      have hNn_102 : (jNk [0, 1, 2, 3, 4, 6, 7, 8, 9, 10, 11, 12, 13, 14, 15, 16, 17, 175]) G0 G_102 := (jNk.rf).tr hN_102
      have hg_104 := hb_1022 _ _ hg_r0
      have hg_105 := hb_1022 _ _ hg_r1
      have hg_106 := hb_1022 _ _ hg_formula_3
      have hg_107 := hb_1022 _ _ hg_sy
      have hh_108 := hh_102.addIs hbE_102
      try simp only at hr_103
      obtain ⟨hr_103_0, hr_103_1⟩ := hr_103
      have hsz_109 := hh_108.2.2.2.2.2.1
      have htt_109 := hh_108.2.2.2.2.2.2.1
      refine W.room (fun hrc_109 hrs_109 => ?_)
      refine W.widen (k := LC - s.heap.size) (n := LS - jTot s.heap) (by omega) (by omega) ?_
      rw [hQ]
      exact W.iret (v := r_103) hx hb hr (fun t ht hW => ⟨⟨r_103, (qf_102, G_102), rfl, by (try dsimp only); exact ⟨(by first | omega | rfl | assumption | fail), (by first | omega | rfl | assumption | fail)⟩, ⟨hh_108.ra (by first | omega | (simp only; omega)) (by first | omega | (simp only; omega)) (M1 := [(r0, 7, 10, .int qf_102)]) [0] rfl ht, hNn_102, by rw [ht]; exact hh_108.2.2.2.2.2.2.2.2.sub (L1 := [(jFg, jFr dC dI ca G_102 r0)]) [0] rfl⟩⟩, by rw [ht]; try exact hh_108.1.1, fun q h9 hq => by rw [ht]; try exact hh_108.1.2.1 q h9 hq⟩) hh_108.1.2.2 dX5_act_252
    · refine lv_tableIn (off := 215) (tgt := 253) hx hb dX5_act_38 (by omega) (by omega) (by rw [c_9]; rfl) (by decide) ?_
      refine j7_nld_n hx hb dX5_act_253 rfl (lv_at hl 4 rfl) ?_
      refine lv_ifnullN (tgt := 276) hx hb dX5_act_254 (by decide) ?_
      refine lv_bipush (v := 8) hx hb dX5_act_276 (by decide) ?_
      have hsz_110 := hh_7.2.2.2.2.2.1
      have htt_110 := hh_7.2.2.2.2.2.2.1
      refine W.room (fun hrc_110 hrs_110 => ?_)
      refine W.widen (k := LC - s.heap.size) (n := LS - jTot s.heap) (by omega) (by omega) ?_
      rw [hQ]
      exact W.iret (v := 8) hx hb hr (fun t ht hW => ⟨⟨8, (pf, G0), rfl, by (try dsimp only); exact ⟨(by first | omega | rfl | assumption | fail), (by first | omega | rfl | assumption | fail)⟩, ⟨hh_7.ra (by first | omega | (simp only; omega)) (by first | omega | (simp only; omega)) (M1 := [(r0, 7, 10, .int pf)]) [1] rfl ht, jNk.rf, by rw [ht]; exact hh_7.2.2.2.2.2.2.2.2.sub (L1 := [(jFg, jFr dC dI ca G0 r0)]) [0] rfl⟩⟩, by rw [ht]; try exact hh_7.1.1, fun q h9 hq => by rw [ht]; try exact hh_7.1.2.1 q h9 hq⟩) hh_7.1.2.2 dX5_act_278
    · refine lv_tableIn (off := 241) (tgt := 279) hx hb dX5_act_38 (by omega) (by omega) (by rw [c_9]; rfl) (by decide) ?_
      refine lv_iload hx hb dX5_act_279 (lv_at hl 1 rfl) ?_
      refine lv_bipush (v := 6) hx hb dX5_act_281 (by decide) ?_
      refine lv_icmp_ne (tgt := 316) hx hb dX5_act_283 (by decide) (fun c_111 => ?_) (fun c_111 => ?_)
      · skip
        have c_111' : w0_5.toInt ≠ 6 := jb_ne (rfl) ((by decide)) c_111
        refine lv_bipush (v := 8) hx hb dX5_act_316 (by decide) ?_
        have hsz_112 := hh_7.2.2.2.2.2.1
        have htt_112 := hh_7.2.2.2.2.2.2.1
        refine W.room (fun hrc_112 hrs_112 => ?_)
        refine W.widen (k := LC - s.heap.size) (n := LS - jTot s.heap) (by omega) (by omega) ?_
        rw [hQ]
        exact W.iret (v := 8) hx hb hr (fun t ht hW => ⟨⟨8, (pf, G0), rfl, by (try dsimp only); exact ⟨(by first | omega | rfl | assumption | fail), (by first | omega | rfl | assumption | fail)⟩, ⟨hh_7.ra (by first | omega | (simp only; omega)) (by first | omega | (simp only; omega)) (M1 := [(r0, 7, 10, .int pf)]) [1] rfl ht, jNk.rf, by rw [ht]; exact hh_7.2.2.2.2.2.2.2.2.sub (L1 := [(jFg, jFr dC dI ca G0 r0)]) [0] rfl⟩⟩, by rw [ht]; try exact hh_7.1.1, fun q h9 hq => by rw [ht]; try exact hh_7.1.2.1 q h9 hq⟩) hh_7.1.2.2 dX5_act_318
      · skip
        have c_111' : w0_5.toInt = 6 := jb_ne_n (rfl) ((by decide)) c_111
        refine lv_aload_n hx hb dX5_act_286 rfl (lv_at hl 2 rfl) ?_
        refine lv_aload_n hx hb dX5_act_287 rfl (lv_at hl 3 rfl) ?_
        refine lv_aload_n hx hb dX5_act_288 rfl (lv_at hl 2 rfl) ?_
        refine lv_aload_n hx hb dX5_act_289 rfl (lv_at hl 5 rfl) ?_
        refine lv_aload_n hx hb dX5_act_290 rfl (lv_at hl 2 rfl) ?_
        refine j7_read hx hb hown hK (C := RX5) (T := TX5) (N := 11) rfl hly_7_1 hlk_23 (hh_7.at 2 rfl) dX5_act_291 ?_
        obtain ⟨v_113, hv_113, hh_114⟩ := hh_7.pin (C := RX10) (T := TX10) (N := 11) hB12 rfl (by decide) hg_sy (i := 9) (by decide) rfl
        clear hh_7
        obtain ⟨nodes_115, rfl, hg_nodes_115⟩ := hv_113
        refine j7_read hx hb hown hK (C := RX10) (T := TX10) (N := 11) rfl hly_12_9 hlk_121 (hh_114.at 0 rfl) dX5_act_294 ?_
        refine lv_aload_n hx hb dX5_act_297 rfl (lv_at hl 2 rfl) ?_
        refine j7_read hx hb hown hK (C := RX5) (T := TX5) (N := 11) rfl hly_7_1 hlk_23 (hh_114.at 3 rfl) dX5_act_298 ?_
        obtain ⟨v_116, hv_116, hh_117⟩ := hh_114.pin (C := RX10) (T := TX10) (N := 11) hB12 rfl (by decide) hg_sy (i := 10) (by decide) rfl
        clear hh_114
        obtain ⟨nodeCount_118, rfl, hlonodeCount_118, hhinodeCount_118⟩ := hv_116
        refine j7_read hx hb hown hK (C := RX10) (T := TX10) (N := 11) rfl hly_12_10 hlk_114 (hh_117.at 0 rfl) dX5_act_301 ?_
        obtain ⟨v_121, hv_121, hh_122⟩ := hh_117.pin (C := RX5) (T := TX5) (N := 11) hB7 rfl (by decide) hg_r0 (i := 6) (by decide) rfl
        obtain ⟨termFrom_123, rfl, hg_termFrom_123⟩ := hv_121
        obtain ⟨v_124, hv_124, hh_125⟩ := hh_122.pin (C := RX5) (T := TX5) (N := 11) hB7 rfl (by decide) hg_r0 (i := 7) (by decide) rfl
        obtain ⟨termSize_126, rfl, hg_termSize_126⟩ := hv_124
        obtain ⟨f_fx_127, hh_127⟩ := hh_125.cpin hB290 (by decide) (by decide) hg_termFrom_123
        clear hh_125
        obtain ⟨f_ft_128, hh_128⟩ := hh_127.cpin hB291 (by decide) (by decide) hg_termSize_126
        clear hh_127
        have hsz_119 := hh_128.2.2.2.2.2.1
        have htt_119 := hh_128.2.2.2.2.2.2.1
        refine W.room (fun hrc_119 hrs_119 => ?_)
        refine j_callx (A0 := jA base) (H0 := s.heap) (va_runV (As := [.ref formula_3, .ref nodes_115, .int nodeCount_118]) (rest := [.ref r1, .ref r0]) ⟨hx, hb, hml, hown, hts⟩ (uX5_opened l dC dI ca base B hB hAp hB7 hB280 hB290 hB291 G0 H_7 r0 formula_3 nodes_115 nodeCount_118 nformula_3 3000 termFrom_123 termSize_126 f_fx_127 f_ft_128 LC LS) (cwV 3 hts (jgV (jWr_85 _ (List.mem_of_getElem? (i := 16) rfl)) (jWr_85 _ (List.mem_of_getElem? (i := 17) rfl)) (jWr_85 _ (List.mem_of_getElem? (i := 18) rfl)) (jWr_2 _ (List.mem_of_getElem? (i := 4) rfl)) (jWr_85 _ (List.mem_of_getElem? (i := 19) rfl))) rfl rfl rfl (by decide +kernel) ⟨by rw [← hR]; exact Nat.le_of_ble_eq_true rfl, by rw [← hR]; exact Nat.le_of_ble_eq_true rfl⟩) ⟨fun a U g mk q => by obtain ⟨q0, q1, q2, qK, q10, q11, q12, q13, q14, q15, q16, q17⟩ := q; exact ⟨q0, q1, q2, jG.calling g mk a qK, q10, q11, q12, q13, q14, q15, q16, q17⟩, hh_128.recv (C := RX5) (T := TX5) (N := 11) hB7 rfl (by decide) hg_r0 hK, fun U hU hW => ⟨rfl, hU, hh_128.2.1, hG.step hW hU hh_128.1, hg_formula_3, hg_nodes_115, hg_r0, hg_termFrom_123, hg_termSize_126, (hh_128.2.2.1.sub (L1 := [(r0, 7, 6, .ref termFrom_123), (r0, 7, 7, .ref termSize_126)]) [1, 0] rfl), (hh_128.2.2.2.2.2.2.2.1.sub (L1 := [(termFrom_123, 290, 13, ca 1, f_fx_127), (termSize_126, 291, 13, ca 1, f_ft_128)]) [1, 0] rfl), by first | omega | (refine ⟨?_, ?_, ?_⟩ <;> (first | omega | rfl | assumption | decide | exact Or.inl rfl | exact Or.inr rfl | (simp only; omega)))⟩⟩ rfl rfl hl.1 rfl (lv_room (Nat.le_of_ble_eq_true rfl)) dX5_act_304 ⟨by rw [hRc]; omega, by rw [hRs]; omega⟩) hh_128.1 (fun q _ h => h) (fun q h => h) (fun r_120 u_119 t_119 H_119 locs_119 ht_119 hvm_119 hr_120 hb_119 hz_119 hk_119 hS_119 => ?_)
        rw [ht_119] at hb_119
        obtain ⟨m_ret_119, G_119⟩ := u_119
        simp only at hb_119
        obtain ⟨⟨hb_1191, hb_1192, hb_1193, hb_1194, hb_1195, hb_1196⟩, hN_119⟩ := hb_119
        have hN_119 : (jNk [0, 1, 2, 3, 4, 6, 7, 8, 9, 10, 11, 12, 13, 14, 15, 16, 17, 175]) G0 G_119 := hN_119.sub (by decide)
        have hh_119 : jSt (dC, dI) B base G0 G_119 EX5_actSZ s.heap (0 + (1)) (0 + (80)) [(r0, 7, 7, .ref termSize_126), (r0, 7, 6, .ref termFrom_123), (sy, 12, 10, .int nodeCount_118), (sy, 12, 9, .ref nodes_115), (r1, 5, 3, .ref formula_3), (r0, 7, 10, .int pf), (r0, 7, 1, .ref sy), (sy, 12, 5, .int wd)] [] [(jFg, jFr dC dI ca G0 r0)] H_119 locs_119 := (hh_128.callG hb_1191 hb_1192 hb_1193 hb_1194 hb_1195 hS_119 rfl (L1 := [(r0, 7, 7, .ref termSize_126), (r0, 7, 6, .ref termFrom_123), (sy, 12, 10, .int nodeCount_118), (sy, 12, 9, .ref nodes_115), (r1, 5, 3, .ref formula_3), (r0, 7, 10, .int pf), (r0, 7, 1, .ref sy), (sy, 12, 5, .int wd)]) [0, 1, 2, 3, 4, 5, 6, 7] rfl rfl (M1 := []) [] rfl rfl (I1 := [(jFg, jFr dC dI ca G0 r0)]) [0] rfl rfl).more hb_1196
        have hNn_119 : (jNk [0, 1, 2, 3, 4, 6, 7, 8, 9, 10, 11, 12, 13, 14, 15, 16, 17, 175]) G0 G_119 := (jNk.rf).tr hN_119
        have hg_129 := hb_1192 _ _ hg_r0
        have hg_130 := hb_1192 _ _ hg_r1
        have hg_131 := hb_1192 _ _ hg_formula_3
        have hg_132 := hb_1192 _ _ hg_termSize_126
        have hg_133 := hb_1192 _ _ hg_termFrom_123
        have hg_134 := hb_1192 _ _ hg_nodes_115
        have hg_135 := hb_1192 _ _ hg_sy
        have hd_136 := jFr.grow (hh_119.iv 0 rfl) hb_1192
        have hh_137 := hh_119.sub (L1 := [(r0, 7, 7, .ref termSize_126), (r0, 7, 6, .ref termFrom_123), (sy, 12, 10, .int nodeCount_118), (sy, 12, 9, .ref nodes_115), (r1, 5, 3, .ref formula_3), (r0, 7, 10, .int pf), (r0, 7, 1, .ref sy), (sy, 12, 5, .int wd)]) [0, 1, 2, 3, 4, 5, 6, 7] rfl (M1 := []) [] rfl (I1 := []) [] rfl
        clear hh_119
        have hh_138 := hh_137.addI (jFr.ie hd_136)
        clear hh_137
        obtain ⟨hr_120, hr_120p⟩ := hr_120
        try simp only at hr_120p
        rcases hr_120 with rfl | ⟨hr_120, hr_120n⟩
        · skip
          have hsz_139 := hh_138.2.2.2.2.2.1
          have htt_139 := hh_138.2.2.2.2.2.2.1
          refine W.room (fun hrc_139 hrs_139 => ?_)
          refine j_callx (A0 := jA base) (H0 := s.heap) (va_runV (As := [.null]) (rest := [.ref r0]) ⟨hx, hb, hml, hown, hts⟩ (uX3_withFormulaZ l dC dI ca base B hB hAp hB5 hB101 hB280 hB313 G_119 H_119 r1 n1 LC LS) (cwV 1 hts (jgV (jWr_87 _ (List.mem_of_getElem? (i := 10) rfl)) (jWr_87 _ (List.mem_of_getElem? (i := 11) rfl)) (jWr_87 _ (List.mem_of_getElem? (i := 12) rfl)) (jWr_82 _ (List.mem_of_getElem? (i := 10) rfl)) (jWr_87 _ (List.mem_of_getElem? (i := 13) rfl))) rfl rfl rfl (by decide +kernel) ⟨by rw [← hR]; exact Nat.le_of_ble_eq_true rfl, by rw [← hR]; exact Nat.le_of_ble_eq_true rfl⟩) ⟨fun a U g mk q => by obtain ⟨q0, q1, q2, qK, q10, q11, q12⟩ := q; exact ⟨q0, q1, q2, jG.calling g mk a qK, q10, q11, q12⟩, hh_138.recv (C := RX3) (T := TX3) (N := 4) hB5 rfl (by decide) hg_130 hK, fun U hU hW => ⟨rfl, hU, hh_138.2.1, hG.step hW hU hh_138.1, hg_130, jP.nil, by first | omega | rfl | assumption | decide | exact Or.inl rfl | exact Or.inr rfl | (simp only; omega)⟩⟩ rfl rfl hl.1 rfl (lv_room (Nat.le_of_ble_eq_true rfl)) dX5_act_307 ⟨by rw [hRc]; omega, by rw [hRs]; omega⟩) hh_138.1 (fun q _ h => h) (fun q h => h) (fun r_140 u_139 t_139 H_139 locs_139 ht_139 hvm_139 hr_140 hb_139 hz_139 hk_139 hS_139 => ?_)
          rw [ht_139] at hb_139
          obtain ⟨m_ret_139, G_139⟩ := u_139
          simp only at hb_139
          obtain ⟨⟨hb_1391, hb_1392, hb_1393, hb_1394, hb_1395, hb_1396⟩, hN_139⟩ := hb_139
          have hh_139 : jSt (dC, dI) B base G0 G_139 EX5_actSZ s.heap ((0 + (1)) + (1)) ((0 + (80)) + (4)) [(r0, 7, 7, .ref termSize_126), (r0, 7, 6, .ref termFrom_123), (sy, 12, 10, .int nodeCount_118), (sy, 12, 9, .ref nodes_115), (r1, 5, 3, .ref formula_3), (r0, 7, 10, .int pf), (r0, 7, 1, .ref sy), (sy, 12, 5, .int wd)] [] [(jFg, jFr dC dI ca G_119 r0)] H_139 locs_139 := (hh_138.callG hb_1391 hb_1392 hb_1393 hb_1394 hb_1395 hS_139 rfl (L1 := [(r0, 7, 7, .ref termSize_126), (r0, 7, 6, .ref termFrom_123), (sy, 12, 10, .int nodeCount_118), (sy, 12, 9, .ref nodes_115), (r1, 5, 3, .ref formula_3), (r0, 7, 10, .int pf), (r0, 7, 1, .ref sy), (sy, 12, 5, .int wd)]) [0, 1, 2, 3, 4, 5, 6, 7] rfl rfl (M1 := []) [] rfl rfl (I1 := [(jFg, jFr dC dI ca G_119 r0)]) [0] rfl rfl).more hb_1396
          have hNn_139 : (jNk [0, 1, 2, 3, 4, 6, 7, 8, 9, 10, 11, 12, 13, 14, 15, 16, 17, 175]) G0 G_139 := (hNn_119).tr hN_139
          have hg_141 := hb_1392 _ _ hg_129
          have hg_142 := hb_1392 _ _ hg_130
          have hg_143 := hb_1392 _ _ hg_131
          have hg_144 := hb_1392 _ _ hg_132
          have hg_145 := hb_1392 _ _ hg_133
          have hg_146 := hb_1392 _ _ hg_134
          have hg_147 := hb_1392 _ _ hg_135
          have hd_148 := jFr.grow (hh_139.iv 0 rfl) hb_1392
          have hh_149 := hh_139.sub (L1 := [(r0, 7, 7, .ref termSize_126), (r0, 7, 6, .ref termFrom_123), (sy, 12, 10, .int nodeCount_118), (sy, 12, 9, .ref nodes_115), (r1, 5, 3, .ref formula_3), (r0, 7, 10, .int pf), (r0, 7, 1, .ref sy), (sy, 12, 5, .int wd)]) [0, 1, 2, 3, 4, 5, 6, 7] rfl (M1 := []) [] rfl (I1 := []) [] rfl
          clear hh_139
          have hh_150 := hh_149.addI (jFr.ie hd_148)
          clear hh_149
          obtain ⟨hr_140, hr_140n, hr_140p⟩ := hr_140
          try simp only at hr_140p
          obtain ⟨ret_151, rfl, hg_ret_151⟩ := hr_140
          have hsy_139 : s.heap.size ≤ ret_151 := Nat.le_trans hh_138.1.1 hr_140n.le
          have hsz_152 := hh_150.2.2.2.2.2.1
          have htt_152 := hh_150.2.2.2.2.2.2.1
          refine W.room (fun hrc_152 hrs_152 => ?_)
          refine va_calli (A0 := jA base) (H0 := s.heap) (va_runV (As := [.ref ret_151]) (rest := []) ⟨hx, hb, hml, hown, hts⟩ (uX5_add l dC dI ca base B hB hAp hB5 hB7 hB211 G_139 H_139 r0 ret_151 m_ret_139 pf) (cwV 1 hts (jgV (jWr_85 _ (List.mem_of_getElem? (i := 8) rfl)) (jWr_85 _ (List.mem_of_getElem? (i := 9) rfl)) (jWr_85 _ (List.mem_of_getElem? (i := 10) rfl)) (jWr_2 _ (List.mem_of_getElem? (i := 4) rfl)) (jWr_85 _ (List.mem_of_getElem? (i := 11) rfl))) rfl rfl rfl (by decide +kernel) ⟨by rw [← hR]; exact Nat.le_of_ble_eq_true rfl, by rw [← hR]; exact Nat.le_of_ble_eq_true rfl⟩) ⟨fun a U g mk q => by obtain ⟨q0, q1, q2, qK, q10, q11, q12, q13, q14, q15⟩ := q; exact ⟨q0, q1, q2, jG.calling g mk a qK, (va_K.moved (Vm.Alike.refl U.vm) q10), q11, q12, q13, q14, q15⟩, hh_150.recv (C := RX5) (T := TX5) (N := 11) hB7 rfl (by decide) hg_141 hK, fun U hU hW => ⟨rfl, hU, hh_150.2.1, hG.step hW hU hh_150.1, va_K.moved hW.alike hK2, hg_141, hg_ret_151, (hh_150.2.2.1.sub (L1 := [(r0, 7, 10, .int pf)]) [5] rfl), (hh_150.2.2.2.2.2.2.2.2.sub (L1 := [(jFg, jFr dC dI ca G_139 r0)]) [0] rfl), by first | omega | (refine ⟨?_, ?_, ?_⟩ <;> (first | omega | rfl | assumption | decide | exact Or.inl rfl | exact Or.inr rfl | (simp only; omega)))⟩⟩ rfl rfl hl.1 rfl (lv_room (Nat.le_of_ble_eq_true rfl)) dX5_act_310 ⟨by rw [hRc]; show _ + 0 ≤ _; omega, by rw [hRs]; show _ + 0 ≤ _; omega⟩) hh_150.1 (fun q _ h => h) (fun q h => h) (fun r_153 u_152 t_152 H_152 locs_152 ht_152 hvm_152 hr_153 hb_152 hz_152 hk_152 hS_152 => ?_)
          obtain ⟨qf_152, rfl⟩ : ∃ z, z = u_152 := ⟨_, rfl⟩
          rw [ht_152] at hb_152
          obtain ⟨hb_152, hbE_152⟩ := hb_152
          obtain ⟨hb_1521, hb_1522, hb_1523, hb_1524, hb_1525⟩ := hb_152
          have hh_152 : jSt (dC, dI) B base G0 G_139 EX5_actSZ s.heap ((0 + (1)) + (1)) ((0 + (80)) + (4)) [(r0, 7, 10, .int qf_152), (r0, 7, 7, .ref termSize_126), (r0, 7, 6, .ref termFrom_123), (sy, 12, 10, .int nodeCount_118), (sy, 12, 9, .ref nodes_115), (r1, 5, 3, .ref formula_3), (r0, 7, 1, .ref sy), (sy, 12, 5, .int wd)] [] [(jFg, jFr dC dI ca G_139 r0)] H_152 locs_152 := (((hh_150.call hb_1521 hb_1522 hb_1523 hb_1524 hS_152 rfl (L1 := [(r0, 7, 7, .ref termSize_126), (r0, 7, 6, .ref termFrom_123), (sy, 12, 10, .int nodeCount_118), (sy, 12, 9, .ref nodes_115), (r1, 5, 3, .ref formula_3), (r0, 7, 1, .ref sy), (sy, 12, 5, .int wd)]) [0, 1, 2, 3, 4, 6, 7] rfl rfl (M1 := []) [] rfl rfl (I1 := []) [] rfl rfl).more hb_1525)).addIs hbE_152
          clear hh_150 ht_152 hvm_152 hz_152 hk_152 hS_152 hb_1521 hb_1522 hb_1523 hb_1524 hb_1525
          clear  hbE_152
          obtain ⟨hr_153_0, hr_153_1⟩ := hr_153
          refine lv_goto (tgt := 318) hx hb dX5_act_313 (by decide) ?_
          have hsz_154 := hh_152.2.2.2.2.2.1
          have htt_154 := hh_152.2.2.2.2.2.2.1
          refine W.room (fun hrc_154 hrs_154 => ?_)
          refine W.widen (k := LC - s.heap.size) (n := LS - jTot s.heap) (by omega) (by omega) ?_
          rw [hQ]
          exact W.iret (v := r_153) hx hb hr (fun t ht hW => ⟨⟨r_153, (qf_152, G_139), rfl, by (try dsimp only); exact ⟨(by first | omega | rfl | assumption | fail), (by first | omega | rfl | assumption | fail)⟩, ⟨hh_152.ra (by first | omega | (simp only; omega)) (by first | omega | (simp only; omega)) (M1 := [(r0, 7, 10, .int qf_152)]) [0] rfl ht, hNn_139, by rw [ht]; exact hh_152.2.2.2.2.2.2.2.2.sub (L1 := [(jFg, jFr dC dI ca G_139 r0)]) [0] rfl⟩⟩, by rw [ht]; try exact hh_152.1.1, fun q h9 hq => by rw [ht]; try exact hh_152.1.2.1 q h9 hq⟩) hh_152.1.2.2 dX5_act_318
        · skip
          obtain ⟨ret_155, rfl, hg_ret_155⟩ := hr_120
          have hsy_119 : s.heap.size ≤ ret_155 := Nat.le_trans hh_128.1.1 hr_120n.le
          have hsz_156 := hh_138.2.2.2.2.2.1
          have htt_156 := hh_138.2.2.2.2.2.2.1
          refine W.room (fun hrc_156 hrs_156 => ?_)
          refine j_callx (A0 := jA base) (H0 := s.heap) (va_runV (As := [.ref ret_155]) (rest := [.ref r0]) ⟨hx, hb, hml, hown, hts⟩ (uX3_withFormula l dC dI ca base B hB hAp hB5 hB101 hB280 hB313 G_119 H_119 r1 ret_155 n1 m_ret_119 LC LS) (cwV 1 hts (jgV (jWr_87 _ (List.mem_of_getElem? (i := 10) rfl)) (jWr_87 _ (List.mem_of_getElem? (i := 11) rfl)) (jWr_87 _ (List.mem_of_getElem? (i := 12) rfl)) (jWr_82 _ (List.mem_of_getElem? (i := 10) rfl)) (jWr_87 _ (List.mem_of_getElem? (i := 13) rfl))) rfl rfl rfl (by decide +kernel) ⟨by rw [← hR]; exact Nat.le_of_ble_eq_true rfl, by rw [← hR]; exact Nat.le_of_ble_eq_true rfl⟩) ⟨fun a U g mk q => by obtain ⟨q0, q1, q2, qK, q10, q11, q12, q13⟩ := q; exact ⟨q0, q1, q2, jG.calling g mk a qK, q10, q11, q12, q13⟩, hh_138.recv (C := RX3) (T := TX3) (N := 4) hB5 rfl (by decide) hg_130 hK, fun U hU hW => ⟨rfl, hU, hh_138.2.1, hG.step hW hU hh_138.1, hg_130, hg_ret_155, jP.nil, by first | omega | (refine ⟨?_, ?_⟩ <;> (first | omega | rfl | assumption | decide | exact Or.inl rfl | exact Or.inr rfl | (simp only; omega)))⟩⟩ rfl rfl hl.1 rfl (lv_room (Nat.le_of_ble_eq_true rfl)) dX5_act_307 ⟨by rw [hRc]; omega, by rw [hRs]; omega⟩) hh_138.1 (fun q _ h => h) (fun q h => h) (fun r_157 u_156 t_156 H_156 locs_156 ht_156 hvm_156 hr_157 hb_156 hz_156 hk_156 hS_156 => ?_)
          rw [ht_156] at hb_156
          obtain ⟨m_ret_156, G_156⟩ := u_156
          simp only at hb_156
          obtain ⟨⟨hb_1561, hb_1562, hb_1563, hb_1564, hb_1565, hb_1566⟩, hN_156⟩ := hb_156
          have hh_156 : jSt (dC, dI) B base G0 G_156 EX5_actSZ s.heap ((0 + (1)) + (1)) ((0 + (80)) + (4)) [(r0, 7, 7, .ref termSize_126), (r0, 7, 6, .ref termFrom_123), (sy, 12, 10, .int nodeCount_118), (sy, 12, 9, .ref nodes_115), (r1, 5, 3, .ref formula_3), (r0, 7, 10, .int pf), (r0, 7, 1, .ref sy), (sy, 12, 5, .int wd)] [] [(jFg, jFr dC dI ca G_119 r0)] H_156 locs_156 := (hh_138.callG hb_1561 hb_1562 hb_1563 hb_1564 hb_1565 hS_156 rfl (L1 := [(r0, 7, 7, .ref termSize_126), (r0, 7, 6, .ref termFrom_123), (sy, 12, 10, .int nodeCount_118), (sy, 12, 9, .ref nodes_115), (r1, 5, 3, .ref formula_3), (r0, 7, 10, .int pf), (r0, 7, 1, .ref sy), (sy, 12, 5, .int wd)]) [0, 1, 2, 3, 4, 5, 6, 7] rfl rfl (M1 := []) [] rfl rfl (I1 := [(jFg, jFr dC dI ca G_119 r0)]) [0] rfl rfl).more hb_1566
          have hNn_156 : (jNk [0, 1, 2, 3, 4, 6, 7, 8, 9, 10, 11, 12, 13, 14, 15, 16, 17, 175]) G0 G_156 := (hNn_119).tr hN_156
          have hg_158 := hb_1562 _ _ hg_129
          have hg_159 := hb_1562 _ _ hg_130
          have hg_160 := hb_1562 _ _ hg_131
          have hg_161 := hb_1562 _ _ hg_132
          have hg_162 := hb_1562 _ _ hg_133
          have hg_163 := hb_1562 _ _ hg_134
          have hg_164 := hb_1562 _ _ hg_135
          have hd_165 := jFr.grow (hh_156.iv 0 rfl) hb_1562
          have hh_166 := hh_156.sub (L1 := [(r0, 7, 7, .ref termSize_126), (r0, 7, 6, .ref termFrom_123), (sy, 12, 10, .int nodeCount_118), (sy, 12, 9, .ref nodes_115), (r1, 5, 3, .ref formula_3), (r0, 7, 10, .int pf), (r0, 7, 1, .ref sy), (sy, 12, 5, .int wd)]) [0, 1, 2, 3, 4, 5, 6, 7] rfl (M1 := []) [] rfl (I1 := []) [] rfl
          clear hh_156
          have hh_167 := hh_166.addI (jFr.ie hd_165)
          clear hh_166
          obtain ⟨hr_157, hr_157n, hr_157p⟩ := hr_157
          try simp only at hr_157p
          obtain ⟨ret_168, rfl, hg_ret_168⟩ := hr_157
          have hsy_156 : s.heap.size ≤ ret_168 := Nat.le_trans hh_138.1.1 hr_157n.le
          have hsz_169 := hh_167.2.2.2.2.2.1
          have htt_169 := hh_167.2.2.2.2.2.2.1
          refine W.room (fun hrc_169 hrs_169 => ?_)
          refine va_calli (A0 := jA base) (H0 := s.heap) (va_runV (As := [.ref ret_168]) (rest := []) ⟨hx, hb, hml, hown, hts⟩ (uX5_add l dC dI ca base B hB hAp hB5 hB7 hB211 G_156 H_156 r0 ret_168 m_ret_156 pf) (cwV 1 hts (jgV (jWr_85 _ (List.mem_of_getElem? (i := 8) rfl)) (jWr_85 _ (List.mem_of_getElem? (i := 9) rfl)) (jWr_85 _ (List.mem_of_getElem? (i := 10) rfl)) (jWr_2 _ (List.mem_of_getElem? (i := 4) rfl)) (jWr_85 _ (List.mem_of_getElem? (i := 11) rfl))) rfl rfl rfl (by decide +kernel) ⟨by rw [← hR]; exact Nat.le_of_ble_eq_true rfl, by rw [← hR]; exact Nat.le_of_ble_eq_true rfl⟩) ⟨fun a U g mk q => by obtain ⟨q0, q1, q2, qK, q10, q11, q12, q13, q14, q15⟩ := q; exact ⟨q0, q1, q2, jG.calling g mk a qK, (va_K.moved (Vm.Alike.refl U.vm) q10), q11, q12, q13, q14, q15⟩, hh_167.recv (C := RX5) (T := TX5) (N := 11) hB7 rfl (by decide) hg_158 hK, fun U hU hW => ⟨rfl, hU, hh_167.2.1, hG.step hW hU hh_167.1, va_K.moved hW.alike hK2, hg_158, hg_ret_168, (hh_167.2.2.1.sub (L1 := [(r0, 7, 10, .int pf)]) [5] rfl), (hh_167.2.2.2.2.2.2.2.2.sub (L1 := [(jFg, jFr dC dI ca G_156 r0)]) [0] rfl), by first | omega | (refine ⟨?_, ?_, ?_⟩ <;> (first | omega | rfl | assumption | decide | exact Or.inl rfl | exact Or.inr rfl | (simp only; omega)))⟩⟩ rfl rfl hl.1 rfl (lv_room (Nat.le_of_ble_eq_true rfl)) dX5_act_310 ⟨by rw [hRc]; show _ + 0 ≤ _; omega, by rw [hRs]; show _ + 0 ≤ _; omega⟩) hh_167.1 (fun q _ h => h) (fun q h => h) (fun r_170 u_169 t_169 H_169 locs_169 ht_169 hvm_169 hr_170 hb_169 hz_169 hk_169 hS_169 => ?_)
          obtain ⟨qf_169, rfl⟩ : ∃ z, z = u_169 := ⟨_, rfl⟩
          rw [ht_169] at hb_169
          obtain ⟨hb_169, hbE_169⟩ := hb_169
          obtain ⟨hb_1691, hb_1692, hb_1693, hb_1694, hb_1695⟩ := hb_169
          have hh_169 : jSt (dC, dI) B base G0 G_156 EX5_actSZ s.heap ((0 + (1)) + (1)) ((0 + (80)) + (4)) [(r0, 7, 10, .int qf_169), (r0, 7, 7, .ref termSize_126), (r0, 7, 6, .ref termFrom_123), (sy, 12, 10, .int nodeCount_118), (sy, 12, 9, .ref nodes_115), (r1, 5, 3, .ref formula_3), (r0, 7, 1, .ref sy), (sy, 12, 5, .int wd)] [] [(jFg, jFr dC dI ca G_156 r0)] H_169 locs_169 := (((hh_167.call hb_1691 hb_1692 hb_1693 hb_1694 hS_169 rfl (L1 := [(r0, 7, 7, .ref termSize_126), (r0, 7, 6, .ref termFrom_123), (sy, 12, 10, .int nodeCount_118), (sy, 12, 9, .ref nodes_115), (r1, 5, 3, .ref formula_3), (r0, 7, 1, .ref sy), (sy, 12, 5, .int wd)]) [0, 1, 2, 3, 4, 6, 7] rfl rfl (M1 := []) [] rfl rfl (I1 := []) [] rfl rfl).more hb_1695)).addIs hbE_169
          clear hh_167 ht_169 hvm_169 hz_169 hk_169 hS_169 hb_1691 hb_1692 hb_1693 hb_1694 hb_1695
          clear  hbE_169
          obtain ⟨hr_170_0, hr_170_1⟩ := hr_170
          refine lv_goto (tgt := 318) hx hb dX5_act_313 (by decide) ?_
          have hsz_171 := hh_169.2.2.2.2.2.1
          have htt_171 := hh_169.2.2.2.2.2.2.1
          refine W.room (fun hrc_171 hrs_171 => ?_)
          refine W.widen (k := LC - s.heap.size) (n := LS - jTot s.heap) (by omega) (by omega) ?_
          rw [hQ]
          exact W.iret (v := r_170) hx hb hr (fun t ht hW => ⟨⟨r_170, (qf_169, G_156), rfl, by (try dsimp only); exact ⟨(by first | omega | rfl | assumption | fail), (by first | omega | rfl | assumption | fail)⟩, ⟨hh_169.ra (by first | omega | (simp only; omega)) (by first | omega | (simp only; omega)) (M1 := [(r0, 7, 10, .int qf_169)]) [0] rfl ht, hNn_156, by rw [ht]; exact hh_169.2.2.2.2.2.2.2.2.sub (L1 := [(jFg, jFr dC dI ca G_156 r0)]) [0] rfl⟩⟩, by rw [ht]; try exact hh_169.1.1, fun q h9 hq => by rw [ht]; try exact hh_169.1.2.1 q h9 hq⟩) hh_169.1.2.2 dX5_act_318
    · refine lv_tableIn (off := 281) (tgt := 319) hx hb dX5_act_38 (by omega) (by omega) (by rw [c_9]; rfl) (by decide) ?_
      refine lv_aload_n hx hb dX5_act_319 rfl (lv_at hl 2 rfl) ?_
      refine lv_aload_n hx hb dX5_act_320 rfl (lv_at hl 3 rfl) ?_
      refine j7_nld_n hx hb dX5_act_321 rfl (lv_at hl 4 rfl) ?_
      have hsz_172 := hh_7.2.2.2.2.2.1
      have htt_172 := hh_7.2.2.2.2.2.2.1
      refine W.room (fun hrc_172 hrs_172 => ?_)
      refine va_calli (A0 := jA base) (H0 := s.heap) (va_runV (As := [.ref r1, .null]) (rest := []) ⟨hx, hb, hml, hown, hts⟩ (uX5_useZ l dC dI ca base B hB hAp hB5 hB7 hB12 hB101 hB211 hB280 hB290 hB291 hB292 hB313 hB315 G0 H_7 r0 r1 n1 pf LC LS) (cwV 2 hts (jgV (jWr_88 _ (List.mem_of_getElem? (i := 4) rfl)) (jWr_88 _ (List.mem_of_getElem? (i := 5) rfl)) (jWr_88 _ (List.mem_of_getElem? (i := 6) rfl)) (jWr_2 _ (List.mem_of_getElem? (i := 4) rfl)) (jWr_88 _ (List.mem_of_getElem? (i := 7) rfl))) rfl rfl rfl (by decide +kernel) ⟨by rw [← hR]; exact Nat.le_of_ble_eq_true rfl, by rw [← hR]; exact Nat.le_of_ble_eq_true rfl⟩) ⟨fun a U g mk q => by obtain ⟨q0, q1, q2, qK, q10, q11, q12, q13, q14, q15, q16⟩ := q; exact ⟨q0, q1, q2, jG.calling g mk a qK, (va_K.moved (Vm.Alike.refl U.vm) q10), (jK5.moved (Vm.Alike.refl U.vm) q11), q12, q13, q14, q15, q16⟩, hh_7.recv (C := RX5) (T := TX5) (N := 11) hB7 rfl (by decide) hg_r0 hK, fun U hU hW => ⟨rfl, hU, hh_7.2.1, hG.step hW hU hh_7.1, va_K.moved hW.alike hK2, jK5.moved hW.alike hK5, hg_r0, hg_r1, (hh_7.2.2.1.sub (L1 := [(r0, 7, 10, .int pf)]) [1] rfl), (hh_7.2.2.2.2.2.2.2.2.sub (L1 := [(jFg, jFr dC dI ca G0 r0)]) [0] rfl), by first | omega | (refine ⟨?_, ?_, ?_⟩ <;> (first | omega | rfl | assumption | decide | exact Or.inl rfl | exact Or.inr rfl | (simp only; omega)))⟩⟩ rfl rfl hl.1 rfl (lv_room (Nat.le_of_ble_eq_true rfl)) dX5_act_322 ⟨by rw [hRc]; omega, by rw [hRs]; omega⟩) hh_7.1 (fun q _ h => h) (fun q h => h) (fun r_173 u_172 t_172 H_172 locs_172 ht_172 hvm_172 hr_173 hb_172 hz_172 hk_172 hS_172 => ?_)
      obtain ⟨qf_172, G_172⟩ := u_172
      rw [ht_172] at hb_172
      simp only at hb_172
      obtain ⟨⟨hb_1721, hb_1722, hb_1723, hb_1724, hb_1725, hb_1726⟩, hN_172, hbE_172⟩ := hb_172
      have hh_172 : jSt (dC, dI) B base G0 G_172 EX5_actSZ s.heap (0 + (4)) (0 + (120)) [(r0, 7, 10, .int qf_172), (r1, 5, 3, .ref formula_3), (r0, 7, 1, .ref sy), (sy, 12, 5, .int wd)] [] [] H_172 locs_172 := (hh_7.callG hb_1721 hb_1722 hb_1723 hb_1724 hb_1725 hS_172 rfl (L1 := [(r1, 5, 3, .ref formula_3), (r0, 7, 1, .ref sy), (sy, 12, 5, .int wd)]) [0, 2, 3] rfl rfl (M1 := []) [] rfl rfl (I1 := []) [] rfl rfl).more hb_1726
      have hNn_172 : (jNk [0, 1, 2, 3, 4, 6, 7, 8, 9, 10, 11, 12, 13, 14, 15, 16, 17, 175]) G0 G_172 := (jNk.rf).tr hN_172
      have hg_174 := hb_1722 _ _ hg_r0
      have hg_175 := hb_1722 _ _ hg_r1
      have hg_176 := hb_1722 _ _ hg_formula_3
      have hg_177 := hb_1722 _ _ hg_sy
      have hh_178 := hh_172.addIs hbE_172
      try simp only at hr_173
      obtain ⟨hr_173_0, hr_173_1⟩ := hr_173
      have hsz_179 := hh_178.2.2.2.2.2.1
      have htt_179 := hh_178.2.2.2.2.2.2.1
      refine W.room (fun hrc_179 hrs_179 => ?_)
      refine W.widen (k := LC - s.heap.size) (n := LS - jTot s.heap) (by omega) (by omega) ?_
      rw [hQ]
      exact W.iret (v := r_173) hx hb hr (fun t ht hW => ⟨⟨r_173, (qf_172, G_172), rfl, by (try dsimp only); exact ⟨(by first | omega | rfl | assumption | fail), (by first | omega | rfl | assumption | fail)⟩, ⟨hh_178.ra (by first | omega | (simp only; omega)) (by first | omega | (simp only; omega)) (M1 := [(r0, 7, 10, .int qf_172)]) [0] rfl ht, hNn_172, by rw [ht]; exact hh_178.2.2.2.2.2.2.2.2.sub (L1 := [(jFg, jFr dC dI ca G_172 r0)]) [0] rfl⟩⟩, by rw [ht]; try exact hh_178.1.1, fun q h9 hq => by rw [ht]; try exact hh_178.1.2.1 q h9 hq⟩) hh_178.1.2.2 dX5_act_325
    · refine lv_tableIn (off := 288) (tgt := 326) hx hb dX5_act_38 (by omega) (by omega) (by rw [c_9]; rfl) (by decide) ?_
      refine lv_iload hx hb dX5_act_326 (lv_at hl 1 rfl) ?_
      refine lv_iconst (v := 4) hx hb dX5_act_328 (by decide) ?_
      have C349 : ∀ (w0_180 : Int32) (H_180 : Heap) (locs_180 : List Loc), jSt (dC, dI) B base G0 G0 EX5_actSZ s.heap 0 0 [(r1, 5, 3, .ref formula_3), (r0, 7, 10, .int pf), (r0, 7, 1, .ref sy), (sy, 12, 5, .int wd)] [] [(jFg, jFr dC dI ca G0 r0)] H_180 locs_180 → (w0_180 = 0 ∨ w0_180 = 1) → (True) → ∀ ls : Array Slot, lv_has ls 9 [(0, .ref r0), (1, .ref r1), (2, .null), (3, .ref formula_3), (4, .int w0_5), (5, .int r_8)] → W p l e R s m ([.ref r0, .ref r1, .null] : List Value).toArray below meth c H_180 locs_180 0 0 Q (F0 m 349 ls [.int w0_180]) := by
        intro w0_180 H_180 locs_180 hh_180 hb_w0_180 hi_180 ls hl
        have hb_w0_180' := jb_01 hb_w0_180
        try clear hr_8_1
        refine lv_istore (lv' := [(8, .int w0_180), (0, .ref r0), (1, .ref r1), (2, .null), (3, .ref formula_3), (4, .int w0_5), (5, .int r_8)]) hx hb dX5_act_349 hl (by decide) rfl (fun ls hl => ?_)
        refine lv_iload hx hb dX5_act_351 (lv_at hl 0 rfl) ?_
        refine lv_if_eq (tgt := 376) hx hb dX5_act_353 (by decide) (fun c_181 => ?_) (fun c_181 => ?_)
        · skip
          have c_181' : w0_180.toInt = 0 := jb_eq (rfl) ((by decide)) c_181
          refine lv_bipush (v := 8) hx hb dX5_act_376 (by decide) ?_
          have hsz_182 := hh_180.2.2.2.2.2.1
          have htt_182 := hh_180.2.2.2.2.2.2.1
          refine W.room (fun hrc_182 hrs_182 => ?_)
          refine W.widen (k := LC - s.heap.size) (n := LS - jTot s.heap) (by omega) (by omega) ?_
          rw [hQ]
          exact W.iret (v := 8) hx hb hr (fun t ht hW => ⟨⟨8, (pf, G0), rfl, by (try dsimp only); exact ⟨(by first | omega | rfl | assumption | fail), (by first | omega | rfl | assumption | fail)⟩, ⟨hh_180.ra (by first | omega | (simp only; omega)) (by first | omega | (simp only; omega)) (M1 := [(r0, 7, 10, .int pf)]) [1] rfl ht, jNk.rf, by rw [ht]; exact hh_180.2.2.2.2.2.2.2.2.sub (L1 := [(jFg, jFr dC dI ca G0 r0)]) [0] rfl⟩⟩, by rw [ht]; try exact hh_180.1.1, fun q h9 hq => by rw [ht]; try exact hh_180.1.2.1 q h9 hq⟩) hh_180.1.2.2 dX5_act_378
        · skip
          have c_181' : w0_180.toInt ≠ 0 := jb_eq_n (rfl) ((by decide)) c_181
          refine lv_aload_n hx hb dX5_act_356 rfl (lv_at hl 4 rfl) ?_
          refine lv_iconst (v := 1) hx hb dX5_act_357 (by decide) ?_
          refine lv_aload_n hx hb dX5_act_358 rfl (lv_at hl 4 rfl) ?_
          refine lv_iload hx hb dX5_act_359 (lv_at hl 6 rfl) ?_
          refine lv_aload_n hx hb dX5_act_361 rfl (lv_at hl 4 rfl) ?_
          refine j7_len hx hb hK hh_180 hB280 1 rfl (by decide) hg_formula_3 (by omega) dX5_act_362 (fun z_183 hz_183 => ?_)
          refine lv_iload hx hb dX5_act_363 (lv_at hl 6 rfl) ?_
          refine lv_isub hx hb dX5_act_365 ?_
          refine lv_topi (fun z_184 ez_184 => ?_)
          have hz_184 : z_184.toInt = z_183.toInt - r_8.toInt := by rw [ez_184]; exact jb_isub2 (rfl) (rfl) (by omega)
          have hsz_185 := hh_180.2.2.2.2.2.1
          have htt_185 := hh_180.2.2.2.2.2.2.1
          refine W.room (fun hrc_185 hrs_185 => ?_)
          refine va_calli (A0 := jA base) (H0 := s.heap) (va_runS (As := [.ref formula_3, .int 1, .ref formula_3, .int r_8, .int z_184]) (rest := []) ⟨hx, hb, hml, hown, hts⟩ (uX5_standsAtB l dC dI ca base B hB hAp hB280 G0 H_180 formula_3 1 formula_3 r_8 z_184 nformula_3 nformula_3) (va_cwS 5 hts (jgS (jWr_88 _ (List.mem_of_getElem? (i := 8) rfl)) (jWr_88 _ (List.mem_of_getElem? (i := 9) rfl)) (jWr_2 _ (List.mem_of_getElem? (i := 4) rfl)) (jWr_88 _ (List.mem_of_getElem? (i := 10) rfl))) rfl rfl rfl (by decide +kernel) ⟨by rw [← hR]; exact Nat.le_of_ble_eq_true rfl, by rw [← hR]; exact Nat.le_of_ble_eq_true rfl⟩) ⟨fun a U g mk q => by obtain ⟨q0, q1, q2, qK, q10, q11, q12, q13⟩ := q; exact ⟨q0, q1, q2, jG.calling g mk a qK, q10, q11, q12, q13⟩, fun U hU hW => ⟨rfl, hU, hh_180.2.1, hG.step hW hU hh_180.1, hg_formula_3, hg_formula_3, jP.nil, by first | omega | (refine ⟨?_, ?_, ?_, ?_, ?_⟩ <;> (first | omega | rfl | assumption | decide | exact Or.inl rfl | exact Or.inr rfl | (simp only; omega)))⟩⟩ rfl rfl hl.1 rfl (lv_room (Nat.le_of_ble_eq_true rfl)) dX5_act_366 ⟨by rw [hRc]; show _ + 0 ≤ _; omega, by rw [hRs]; show _ + 0 ≤ _; omega⟩) hh_180.1 (fun q _ h => h) (fun q h => h) (fun r_186 u_185 t_185 H_185 locs_185 ht_185 hvm_185 hr_186 hb_185 hz_185 hk_185 hS_185 => ?_)
          rw [ht_185] at hb_185
          obtain ⟨hb_1851, hb_1852, hb_1853, hb_1854, hb_1855⟩ := hb_185
          have hh_185 : jSt (dC, dI) B base G0 G0 EX5_actSZ s.heap 0 0 [(r1, 5, 3, .ref formula_3), (r0, 7, 10, .int pf), (r0, 7, 1, .ref sy), (sy, 12, 5, .int wd)] [] [(jFg, jFr dC dI ca G0 r0)] H_185 locs_185 := ((hh_180.call hb_1851 hb_1852 hb_1853 hb_1854 hS_185 rfl (L1 := [(r1, 5, 3, .ref formula_3), (r0, 7, 10, .int pf), (r0, 7, 1, .ref sy), (sy, 12, 5, .int wd)]) [0, 1, 2, 3] rfl rfl (M1 := []) [] rfl rfl (I1 := [(jFg, jFr dC dI ca G0 r0)]) [0] rfl rfl).more hb_1855)
          clear hh_180 ht_185 hvm_185 hz_185 hk_185 hS_185 hb_1851 hb_1852 hb_1853 hb_1854 hb_1855
          obtain ⟨hr_186b, hr_186p⟩ := hr_186
          have hr_186' := jb_01 hr_186b
          refine lv_if_eq (tgt := 376) hx hb dX5_act_369 (by decide) (fun c_187 => ?_) (fun c_187 => ?_)
          · skip
            have c_187' : r_186.toInt = 0 := jb_eq (rfl) ((by decide)) c_187
            refine lv_bipush (v := 8) hx hb dX5_act_376 (by decide) ?_
            have hsz_188 := hh_185.2.2.2.2.2.1
            have htt_188 := hh_185.2.2.2.2.2.2.1
            refine W.room (fun hrc_188 hrs_188 => ?_)
            refine W.widen (k := LC - s.heap.size) (n := LS - jTot s.heap) (by omega) (by omega) ?_
            rw [hQ]
            exact W.iret (v := 8) hx hb hr (fun t ht hW => ⟨⟨8, (pf, G0), rfl, by (try dsimp only); exact ⟨(by first | omega | rfl | assumption | fail), (by first | omega | rfl | assumption | fail)⟩, ⟨hh_185.ra (by first | omega | (simp only; omega)) (by first | omega | (simp only; omega)) (M1 := [(r0, 7, 10, .int pf)]) [1] rfl ht, jNk.rf, by rw [ht]; exact hh_185.2.2.2.2.2.2.2.2.sub (L1 := [(jFg, jFr dC dI ca G0 r0)]) [0] rfl⟩⟩, by rw [ht]; try exact hh_185.1.1, fun q h9 hq => by rw [ht]; try exact hh_185.1.2.1 q h9 hq⟩) hh_185.1.2.2 dX5_act_378
          · skip
            have c_187' : r_186.toInt ≠ 0 := jb_eq_n (rfl) ((by decide)) c_187
            refine lv_iconst (v := 0) hx hb dX5_act_372 (by decide) ?_
            refine lv_goto (tgt := 378) hx hb dX5_act_373 (by decide) ?_
            have hsz_189 := hh_185.2.2.2.2.2.1
            have htt_189 := hh_185.2.2.2.2.2.2.1
            refine W.room (fun hrc_189 hrs_189 => ?_)
            refine W.widen (k := LC - s.heap.size) (n := LS - jTot s.heap) (by omega) (by omega) ?_
            rw [hQ]
            exact W.iret (v := 0) hx hb hr (fun t ht hW => ⟨⟨0, (pf, G0), rfl, by (try dsimp only); exact ⟨(by first | omega | rfl | assumption | fail), (by first | omega | rfl | assumption | fail)⟩, ⟨hh_185.ra (by first | omega | (simp only; omega)) (by first | omega | (simp only; omega)) (M1 := [(r0, 7, 10, .int pf)]) [1] rfl ht, jNk.rf, by rw [ht]; exact hh_185.2.2.2.2.2.2.2.2.sub (L1 := [(jFg, jFr dC dI ca G0 r0)]) [0] rfl⟩⟩, by rw [ht]; try exact hh_185.1.1, fun q h9 hq => by rw [ht]; try exact hh_185.1.2.1 q h9 hq⟩) hh_185.1.2.2 dX5_act_378
      refine lv_icmp_ne (tgt := 348) hx hb dX5_act_329 (by decide) (fun c_190 => ?_) (fun c_190 => ?_)
      · skip
        have c_190' : w0_5.toInt ≠ 4 := jb_ne (rfl) ((by decide)) c_190
        refine lv_iconst (v := 0) hx hb dX5_act_348 (by decide) ?_
        refine W.tight (c2 := 0) (n2 := 0) hh_7.2.2.2.2.2.1 hh_7.2.2.2.2.2.2.1 ?_
        exact C349 0 _ _ hh_7 (Or.inl rfl) (trivial) _ (lv_sub hl [2, 3, 4, 5, 1, 0] rfl)
      · skip
        have c_190' : w0_5.toInt = 4 := jb_ne_n (rfl) ((by decide)) c_190
        refine lv_iload hx hb dX5_act_332 (lv_at hl 0 rfl) ?_
        refine lv_iconst (v := 1) hx hb dX5_act_334 (by decide) ?_
        refine lv_isub hx hb dX5_act_335 ?_
        refine lv_topi (fun z_191 ez_191 => ?_)
        have hz_191 : z_191.toInt = r_8.toInt - 1 := by rw [ez_191]; exact jb_isub2 (rfl) ((by decide)) (by omega)
        refine lv_aload_n hx hb dX5_act_336 rfl (lv_at hl 5 rfl) ?_
        refine j7_len hx hb hK hh_7 hB280 1 rfl (by decide) hg_formula_3 (by omega) dX5_act_337 (fun z_192 hz_192 => ?_)
        refine lv_iload hx hb dX5_act_338 (lv_at hl 0 rfl) ?_
        refine lv_isub hx hb dX5_act_340 ?_
        refine lv_topi (fun z_193 ez_193 => ?_)
        have hz_193 : z_193.toInt = z_192.toInt - r_8.toInt := by rw [ez_193]; exact jb_isub2 (rfl) (rfl) (by omega)
        refine lv_icmp_ne (tgt := 348) hx hb dX5_act_341 (by decide) (fun c_194 => ?_) (fun c_194 => ?_)
        · skip
          have c_194' : z_191.toInt ≠ z_193.toInt := jb_ne (rfl) (rfl) c_194
          refine lv_iconst (v := 0) hx hb dX5_act_348 (by decide) ?_
          refine W.tight (c2 := 0) (n2 := 0) hh_7.2.2.2.2.2.1 hh_7.2.2.2.2.2.2.1 ?_
          exact C349 0 _ _ hh_7 (Or.inl rfl) (trivial) _ (lv_sub hl [2, 3, 4, 5, 1, 0] rfl)
        · skip
          have c_194' : z_191.toInt = z_193.toInt := jb_ne_n (rfl) (rfl) c_194
          refine lv_iconst (v := 1) hx hb dX5_act_344 (by decide) ?_
          refine lv_goto (tgt := 349) hx hb dX5_act_345 (by decide) ?_
          refine W.tight (c2 := 0) (n2 := 0) hh_7.2.2.2.2.2.1 hh_7.2.2.2.2.2.2.1 ?_
          exact C349 1 _ _ hh_7 (Or.inr rfl) (trivial) _ (lv_sub hl [2, 3, 4, 5, 1, 0] rfl)
    · refine lv_tableIn (off := 341) (tgt := 379) hx hb dX5_act_38 (by omega) (by omega) (by rw [c_9]; rfl) (by decide) ?_
      refine j7_nld_n hx hb dX5_act_379 rfl (lv_at hl 4 rfl) ?_
      refine lv_ifnullN (tgt := 392) hx hb dX5_act_380 (by decide) ?_
      refine lv_bipush (v := 8) hx hb dX5_act_392 (by decide) ?_
      have hsz_195 := hh_7.2.2.2.2.2.1
      have htt_195 := hh_7.2.2.2.2.2.2.1
      refine W.room (fun hrc_195 hrs_195 => ?_)
      refine W.widen (k := LC - s.heap.size) (n := LS - jTot s.heap) (by omega) (by omega) ?_
      rw [hQ]
      exact W.iret (v := 8) hx hb hr (fun t ht hW => ⟨⟨8, (pf, G0), rfl, by (try dsimp only); exact ⟨(by first | omega | rfl | assumption | fail), (by first | omega | rfl | assumption | fail)⟩, ⟨hh_7.ra (by first | omega | (simp only; omega)) (by first | omega | (simp only; omega)) (M1 := [(r0, 7, 10, .int pf)]) [1] rfl ht, jNk.rf, by rw [ht]; exact hh_7.2.2.2.2.2.2.2.2.sub (L1 := [(jFg, jFr dC dI ca G0 r0)]) [0] rfl⟩⟩, by rw [ht]; try exact hh_7.1.1, fun q h9 hq => by rw [ht]; try exact hh_7.1.2.1 q h9 hq⟩) hh_7.1.2.2 dX5_act_394
  refine lv_if_le (tgt := 19) hx hb dX5_act_7 (by decide) (fun c_196 => ?_) (fun c_196 => ?_)
  · skip
    have c_196' : z_4.toInt ≤ 0 := jb_le (rfl) ((by decide)) c_196
    refine lv_iconst (v := 0) hx hb dX5_act_19 (by decide) ?_
    refine W.tight (c2 := 0) (n2 := 0) hh_2.2.2.2.2.2.1 hh_2.2.2.2.2.2.2.1 ?_
    exact C20 0 _ _ hh_2 (by first | omega | rfl | assumption | decide | exact Or.inl rfl | exact Or.inr rfl | (simp only; omega)) _ (lv_sub hl [1, 2, 3, 0] rfl)
  · skip
    have c_196' : z_4.toInt > 0 := jb_le_n (rfl) ((by decide)) c_196
    refine lv_aload_n hx hb dX5_act_10 rfl (lv_at hl 0 rfl) ?_
    refine lv_iconst (v := 0) hx hb dX5_act_11 (by decide) ?_
    refine j7_iald hx hb hK hh_2 hB280 1 rfl (by decide) hg_formula_3 (x := 0) ((by decide)) (by omega) dX5_act_12 (fun z_197 (hz_197 : -1 ≤ z_197.toInt) => ?_)
    refine lv_bipush (v := 15) hx hb dX5_act_13 (by decide) ?_
    refine lv_iand hx hb dX5_act_15 ?_
    refine lv_topi (fun z_198 ez_198 => ?_)
    have hz_198 : 0 ≤ z_198.toInt ∧ z_198.toInt ≤ 15 := by rw [ez_198]; exact jb_and z_197 (m := 15) (k := 4) (by decide) (by decide)
    have hbz_198 : z_198.toInt = z_197.toInt % 16 := by rw [ez_198, jb_and15]
    refine lv_goto (tgt := 20) hx hb dX5_act_16 (by decide) ?_
    refine W.tight (c2 := 0) (n2 := 0) hh_2.2.2.2.2.2.1 hh_2.2.2.2.2.2.2.1 ?_
    exact C20 z_198 _ _ hh_2 (by first | omega | rfl | assumption | decide | exact Or.inl rfl | exact Or.inr rfl | (simp only; omega)) _ (lv_sub hl [1, 2, 3, 0] rfl)
set_option maxHeartbeats 4000000 in
set_option maxRecDepth 20000 in
theorem uX5_tacticS (l : Launch) (dC : Nat → ClassId) (dI : Nat → Nat → Nat) (ca : Nat → ClassId) (base : Nat) (B : jF) (hB : jBok B) (hAp : jAp (dC, dI)) (hB5 : ∀ n G a H, B 5 n G a H ↔ jOb (dC, dI) 5 4 (F5 n G) a H) (hB7 : ∀ n G a H, B 7 n G a H ↔ jOb (dC, dI) 7 11 (F7 n G) a H) (hB11 : ∀ n G a H, B 11 n G a H ↔ jOb (dC, dI) 11 9 (F11 n G) a H) (hB12 : ∀ n G a H, B 12 n G a H ↔ jOb (dC, dI) 12 11 (F12b n G) a H) (hB101 : ∀ n G a H, B 101 n G a H ↔ jAr (dC, dI) (ca 1) (fun j z => True) n a H) (hB211 : ∀ n G a H, B 211 n G a H ↔ jAq (dC, dI) (ca 7) (jQh) n G a H) (hB214 : ∀ n G a H, B 214 n G a H ↔ jAq (dC, dI) (ca 7) (jQg) n G a H) (hB280 : ∀ n G a H, B 280 n G a H ↔ jAr (dC, dI) (ca 1) (fun j z => -1 ≤ z.toInt) n a H) (hB290 : ∀ n G a H, B 290 n G a H ↔ jAr (dC, dI) (ca 1) (fun j z => 0 ≤ z.toInt ∧ z.toInt ≤ 3000) n a H) (hB291 : ∀ n G a H, B 291 n G a H ↔ jAr (dC, dI) (ca 1) (fun j z => 0 ≤ z.toInt ∧ z.toInt ≤ 3000) n a H) (hB292 : ∀ n G a H, B 292 n G a H ↔ jAr (dC, dI) (ca 1) (fun j z => 0 ≤ z.toInt ∧ z.toInt ≤ 8191) n a H) (hB313 : ∀ n G a H, B 313 n G a H ↔ jAq (dC, dI) (ca 8) (jQk 280 80) n G a H) (hB315 : ∀ n G a H, B 315 n G a H ↔ jAqZ (dC, dI) (ca 8) n a H) (G0 : jT) (H0 : Heap) (r0 : Nat) (r1 : Nat) (sy : Nat) (wd : Int32) (gx : Nat) (LC LS : Nat) : Met l yX5_tactic (jw yX5_tactic cX5_tactic 4 (some .int)) ({ frames := 6, cells := LC - H0.size, slots := LS - jTot H0, locals := 187 }) (va_Pc [.ref r0, .ref r1] (fun U => U.heap = H0 ∧ jX B base G0 [] H0 ∧ jG dC dI ca base U ∧ jK2 dC dI ca U ∧ jK5 dC dI ca U ∧ jK6 U ∧ G0 r0 = some (7, 0) ∧ G0 r1 = some (11, 0) ∧ G0 sy = some (12, 0) ∧ jP (dC, dI) G0 H0 [(r0, 7, 1, .ref sy), (sy, 12, 5, .int wd)] ∧ jIs (dC, dI) G0 H0 [(jFs11, jSef dC dI G0)] ∧ H0.size + 17 ≤ LC ∧ jTot H0 + (174 + 336 * gx) ≤ LS ∧ (gx = 1 ∨ (wd.toInt ≠ 9 ∧ wd.toInt ≠ 11 ∧ wd.toInt ≠ 15)))) (va_Qi (S := jT) (fun r u => (True)) (fun u t => jRa (dC, dI) B base G0 u EX5_tacticS H0 (17) ((174 + 336 * gx)) [] t.heap ∧ (jNk [0, 1, 2, 3, 4, 6, 7, 8, 9, 10, 11, 12, 13, 14, 15, 16, 17, 175]) G0 u ∧ jIs (dC, dI) u t.heap [(jFs11, jSef dC dI u)]) (jA base)) (LC - H0.size) (LS - jTot H0) (jA base) := by
  refine Met.ofW (cc := cX5_tactic) (maxL := 4) (ret := (some .int)) (by decide) rfl ?_
  intro p e s m args below meth c s₁ Bd hml hv
  obtain ⟨rfl, hH0, hX, hG, hK2, hK5, hK6, hg_r0, hg_r1, hg_sy, hP0, hI0, hLC0, hLS0, hp0⟩ := hv
  have hK := hG.1
  have hx := Bd.exec
  have hb := Bd.bytes
  have hr := Bd.returns
  have hts := atoms_spec (ws := (jw yX5_tactic cX5_tactic 4 (some .int))) Bd.pre
  have htw : ∀ w ∈ jWl, w.before _ s = true := fun w h => hts w (List.mem_cons_of_mem _ h)
  have hown : s.vm.findClass RX5 = some m.cls := findClass_of_methodNamed Bd.named
  have hlocks := Bd.notSynchronized
  obtain ⟨Q, hQ⟩ : ∃ Q, Q = MQ below (va_Qi (S := jT) (fun r u => (True)) (fun u t => jRa (dC, dI) B base G0 u EX5_tacticS H0 (17) ((174 + 336 * gx)) [] t.heap ∧ (jNk [0, 1, 2, 3, 4, 6, 7, 8, 9, 10, 11, 12, 13, 14, 15, 16, 17, 175]) G0 u ∧ jIs (dC, dI) u t.heap [(jFs11, jSef dC dI u)]) (jA base)) ([.ref r0, .ref r1] : List Value).toArray s (LC - H0.size) (LS - jTot H0) (jA base) := ⟨_, rfl⟩
  rw [← hQ]
  have hl := lv_entry ([.ref r0, .ref r1]) (n := 4) (Nat.le_of_ble_eq_true rfl)
  rw [lg_entry_eq]
  generalize (lg_sl ([.ref r0, .ref r1]) ++ List.replicate (4 - (lg_sl ([.ref r0, .ref r1])).length) Slot.unset).toArray = ls at hl ⊢
  have hl : lv_has ls 4 [(0, .ref r0), (1, .ref r1)] := hl
  generalize hR : (headSpec (jw yX5_tactic cX5_tactic 4 (some .int)) ({ frames := 6, cells := LC - H0.size, slots := LS - jTot H0, locals := 187 })).room = R
  subst hH0
  have hh : jSt (dC, dI) B base G0 G0 EX5_tacticS s.heap 0 0 [(r0, 7, 1, .ref sy), (sy, 12, 5, .int wd)] [] [(jFs11, jSef dC dI G0)] s.heap [] := jSt.start hX hP0 jMc.nil hI0
  clear hX hP0
  have hk0 : (0 : Int32).toInt = 0 := by decide
  have hk1 : (1 : Int32).toInt = 1 := by decide
  have hk8 : (8 : Int32).toInt = 8 := by decide
  have hly_7_1 := htw (u_lay RX5 TX5 1) (jWc_wsX50 _ (u_in_lay (by decide)))
  have hly_7_10 := htw (u_lay RX5 TX5 10) (jWc_wsX50 _ (u_in_lay (by decide)))
  have hly_11_8 := htw (u_lay RX9 TX9 8) (jWc_wsX90 _ (u_in_lay (by decide)))
  have hly_12_6 := htw (u_lay RX10 TX10 6) (jWc_wsX100 _ (u_in_lay (by decide)))
  have hlk_140 := (htw (.fieldLink RX5 140 "ProofServer$State" "goals" "[LProofServer$Goal;") (jWr_82 _ (List.mem_of_getElem? (i := 12) rfl)))
  have hlk_150 := (htw (.fieldLink RX5 150 "ProofServer$Kernel" "freshCount" "I") (jWr_84 _ (List.mem_of_getElem? (i := 2) rfl)))
  have hlk_23 := (htw (.fieldLink RX5 23 "ProofServer$Kernel" "syntax" "LProofServer$Syntax;") (jWr_4 _ (List.mem_of_getElem? (i := 15) rfl)))
  have hlk_93 := (htw (.fieldLink RX5 93 "ProofServer$Syntax" "told" "[I") (jWr_81 _ (List.mem_of_getElem? (i := 8) rfl)))
  have hbs : base ≤ s.heap.size := Nat.le_of_lt (Nat.lt_of_le_of_lt (hh.ab hg_r0).1 (hh.ab hg_r0).2)
  have hRc : R.cells = LC - s.heap.size := by rw [← hR]; rfl
  have hRs : R.slots = LS - jTot s.heap := by rw [← hR]; rfl
  refine lv_aload_n hx hb dX5_tactic_0 rfl (lv_at hl 1 rfl) ?_
  obtain ⟨v_1, hv_1, hh_2⟩ := hh.pin (C := RX9) (T := TX9) (N := 9) hB11 rfl (by decide) hg_r1 (i := 8) (by decide) rfl
  clear hh
  obtain ⟨goals_3, ngoals_3, rfl, hg_goals_3, hn_goals_3⟩ := hv_1
  refine j7_read hx hb hown hK (C := RX9) (T := TX9) (N := 9) rfl hly_11_8 hlk_140 (hh_2.at 0 rfl) dX5_tactic_1 ?_
  refine j7_qlen hx hb hK2 hh_2 hB214 3 rfl (by decide) hg_goals_3 (by omega) dX5_tactic_4 (fun z_4 hz_4 => ?_)
  refine lv_if_le (tgt := 17) hx hb dX5_tactic_5 (by decide) (fun c_5 => ?_) (fun c_5 => ?_)
  · skip
    have c_5' : z_4.toInt ≤ 0 := jb_le (rfl) ((by decide)) c_5
    refine lv_null hx hb dX5_tactic_17 ?_
    refine j7_nst_n (lv' := [(2, .null), (0, .ref r0), (1, .ref r1)]) hx hb dX5_tactic_18 rfl hl (by decide) rfl (fun ls hl => ?_)
    refine lv_aload_n hx hb dX5_tactic_19 rfl (lv_at hl 1 rfl) ?_
    refine lv_aload_n hx hb dX5_tactic_20 rfl (lv_at hl 2 rfl) ?_
    refine j7_nld_n hx hb dX5_tactic_21 rfl (lv_at hl 0 rfl) ?_
    have hsz_6 := hh_2.2.2.2.2.2.1
    have htt_6 := hh_2.2.2.2.2.2.2.1
    refine W.room (fun hrc_6 hrs_6 => ?_)
    refine va_calli (A0 := jA base) (H0 := s.heap) (va_runV (As := [.ref r1, .null]) (rest := []) ⟨hx, hb, hml, hown, hts⟩ (uX5_nameFaultZ l dC dI ca base B hB hAp hB5 hB7 hB11 hB12 hB101 hB280 hB292 hB313 G0 s.heap r0 r1) (cwV 2 hts (jgV (jWr_84 _ (List.mem_of_getElem? (i := 3) rfl)) (jWr_84 _ (List.mem_of_getElem? (i := 4) rfl)) (jWr_84 _ (List.mem_of_getElem? (i := 5) rfl)) (jWr_2 _ (List.mem_of_getElem? (i := 4) rfl)) (jWr_84 _ (List.mem_of_getElem? (i := 6) rfl))) rfl rfl rfl (by decide +kernel) ⟨by rw [← hR]; exact Nat.le_of_ble_eq_true rfl, by rw [← hR]; exact Nat.le_of_ble_eq_true rfl⟩) ⟨fun a U g mk q => by obtain ⟨q0, q1, q2, qK, q10, q11, q12, q13, q14, q15, q16⟩ := q; exact ⟨q0, q1, q2, jG.calling g mk a qK, (va_K.moved (Vm.Alike.refl U.vm) q10), (jK5.moved (Vm.Alike.refl U.vm) q11), q12, q13, q14, q15, q16⟩, hh_2.recv (C := RX5) (T := TX5) (N := 11) hB7 rfl (by decide) hg_r0 hK, fun U hU hW => ⟨rfl, hU, hh_2.2.1, hG.step hW hU hh_2.1, va_K.moved hW.alike hK2, jK5.moved hW.alike hK5, hg_r0, hg_r1, jP.nil, (hh_2.2.2.2.2.2.2.2.2.sub (L1 := [(jFs11, jSef dC dI G0)]) [0] rfl), trivial⟩⟩ rfl rfl hl.1 rfl (lv_room (Nat.le_of_ble_eq_true rfl)) dX5_tactic_22 ⟨by rw [hRc]; show _ + 0 ≤ _; omega, by rw [hRs]; show _ + 0 ≤ _; omega⟩) hh_2.1 (fun q _ h => h) (fun q h => h) (fun r_7 u_6 t_6 H_6 locs_6 ht_6 hvm_6 hr_7 hb_6 hz_6 hk_6 hS_6 => ?_)
    rw [ht_6] at hb_6
    obtain ⟨hb_6, hbE_6⟩ := hb_6
    obtain ⟨hb_61, hb_62, hb_63, hb_64, hb_65⟩ := hb_6
    have hh_6 : jSt (dC, dI) B base G0 G0 EX5_tacticS s.heap 0 0 [(r1, 11, 8, .ref goals_3), (r0, 7, 1, .ref sy), (sy, 12, 5, .int wd)] [] [(jFs11, jSef dC dI G0)] H_6 locs_6 := (((hh_2.call hb_61 hb_62 hb_63 hb_64 hS_6 rfl (L1 := [(r1, 11, 8, .ref goals_3), (r0, 7, 1, .ref sy), (sy, 12, 5, .int wd)]) [0, 1, 2] rfl rfl (M1 := []) [] rfl rfl (I1 := []) [] rfl rfl).more hb_65)).addIs hbE_6
    clear hh_2 ht_6 hvm_6 hz_6 hk_6 hS_6 hb_61 hb_62 hb_63 hb_64 hb_65
    clear  hbE_6
    refine lv_istore_n (lv' := [(3, .int r_7), (2, .null), (0, .ref r0), (1, .ref r1)]) hx hb dX5_tactic_25 rfl hl (by decide) rfl (fun ls hl => ?_)
    refine lv_iload_n hx hb dX5_tactic_26 rfl (lv_at hl 0 rfl) ?_
    refine lv_if_le (tgt := 32) hx hb dX5_tactic_27 (by decide) (fun c_8 => ?_) (fun c_8 => ?_)
    · skip
      have c_8' : r_7.toInt ≤ 0 := jb_le (rfl) ((by decide)) c_8
      refine j7_nld_n hx hb dX5_tactic_32 rfl (lv_at hl 1 rfl) ?_
      refine lv_ifnonnullN hx hb dX5_tactic_33 ?_
      refine lv_bipush (v := 8) hx hb dX5_tactic_36 (by decide) ?_
      have hsz_9 := hh_6.2.2.2.2.2.1
      have htt_9 := hh_6.2.2.2.2.2.2.1
      refine W.room (fun hrc_9 hrs_9 => ?_)
      refine W.widen (k := LC - s.heap.size) (n := LS - jTot s.heap) (by omega) (by omega) ?_
      rw [hQ]
      exact W.iret (v := 8) hx hb hr (fun t ht hW => ⟨⟨8, G0, rfl, trivial, ⟨hh_6.ra (by first | omega | (simp only; omega)) (by first | omega | (simp only; omega)) (M1 := []) [] rfl ht, jNk.rf, by rw [ht]; exact hh_6.2.2.2.2.2.2.2.2.sub (L1 := [(jFs11, jSef dC dI G0)]) [0] rfl⟩⟩, by rw [ht]; try exact hh_6.1.1, fun q h9 hq => by rw [ht]; try exact hh_6.1.2.1 q h9 hq⟩) hh_6.1.2.2 dX5_tactic_38
    · skip
      have c_8' : r_7.toInt > 0 := jb_le_n (rfl) ((by decide)) c_8
      refine lv_iload_n hx hb dX5_tactic_30 rfl (lv_at hl 0 rfl) ?_
      have hsz_10 := hh_6.2.2.2.2.2.1
      have htt_10 := hh_6.2.2.2.2.2.2.1
      refine W.room (fun hrc_10 hrs_10 => ?_)
      refine W.widen (k := LC - s.heap.size) (n := LS - jTot s.heap) (by omega) (by omega) ?_
      rw [hQ]
      exact W.iret (v := r_7) hx hb hr (fun t ht hW => ⟨⟨r_7, G0, rfl, trivial, ⟨hh_6.ra (by first | omega | (simp only; omega)) (by first | omega | (simp only; omega)) (M1 := []) [] rfl ht, jNk.rf, by rw [ht]; exact hh_6.2.2.2.2.2.2.2.2.sub (L1 := [(jFs11, jSef dC dI G0)]) [0] rfl⟩⟩, by rw [ht]; try exact hh_6.1.1, fun q h9 hq => by rw [ht]; try exact hh_6.1.2.1 q h9 hq⟩) hh_6.1.2.2 dX5_tactic_31
  · skip
    have c_5' : z_4.toInt > 0 := jb_le_n (rfl) ((by decide)) c_5
    refine lv_aload_n hx hb dX5_tactic_8 rfl (lv_at hl 1 rfl) ?_
    refine j7_read hx hb hown hK (C := RX9) (T := TX9) (N := 9) rfl hly_11_8 hlk_140 (hh_2.at 0 rfl) dX5_tactic_9 ?_
    refine lv_iconst (v := 0) hx hb dX5_tactic_12 (by decide) ?_
    refine j7_qald hx hb hK2 hh_2 hB214 3 rfl (by decide) hg_goals_3 (x := 0) ((by decide)) (by omega) dX5_tactic_13 (fun o_11 ho_11 => ?_)
    obtain ⟨el_12, nel_12, rfl, hg_el_12, hm_el_12⟩ := ho_11
    simp only [va_rf]
    refine lv_goto (tgt := 18) hx hb dX5_tactic_14 (by decide) ?_
    refine lv_astore_n (lv' := [(2, .ref el_12), (0, .ref r0), (1, .ref r1)]) hx hb dX5_tactic_18 rfl hl (by decide) rfl (fun ls hl => ?_)
    refine lv_aload_n hx hb dX5_tactic_19 rfl (lv_at hl 1 rfl) ?_
    refine lv_aload_n hx hb dX5_tactic_20 rfl (lv_at hl 2 rfl) ?_
    refine lv_aload_n hx hb dX5_tactic_21 rfl (lv_at hl 0 rfl) ?_
    have hsz_13 := hh_2.2.2.2.2.2.1
    have htt_13 := hh_2.2.2.2.2.2.2.1
    refine W.room (fun hrc_13 hrs_13 => ?_)
    refine va_calli (A0 := jA base) (H0 := s.heap) (va_runV (As := [.ref r1, .ref el_12]) (rest := []) ⟨hx, hb, hml, hown, hts⟩ (uX5_nameFault l dC dI ca base B hB hAp hB5 hB7 hB11 hB12 hB101 hB280 hB292 hB313 G0 s.heap r0 r1 el_12 nel_12) (cwV 2 hts (jgV (jWr_84 _ (List.mem_of_getElem? (i := 3) rfl)) (jWr_84 _ (List.mem_of_getElem? (i := 4) rfl)) (jWr_84 _ (List.mem_of_getElem? (i := 5) rfl)) (jWr_2 _ (List.mem_of_getElem? (i := 4) rfl)) (jWr_84 _ (List.mem_of_getElem? (i := 6) rfl))) rfl rfl rfl (by decide +kernel) ⟨by rw [← hR]; exact Nat.le_of_ble_eq_true rfl, by rw [← hR]; exact Nat.le_of_ble_eq_true rfl⟩) ⟨fun a U g mk q => by obtain ⟨q0, q1, q2, qK, q10, q11, q12, q13, q14, q15, q16, q17⟩ := q; exact ⟨q0, q1, q2, jG.calling g mk a qK, (va_K.moved (Vm.Alike.refl U.vm) q10), (jK5.moved (Vm.Alike.refl U.vm) q11), q12, q13, q14, q15, q16, q17⟩, hh_2.recv (C := RX5) (T := TX5) (N := 11) hB7 rfl (by decide) hg_r0 hK, fun U hU hW => ⟨rfl, hU, hh_2.2.1, hG.step hW hU hh_2.1, va_K.moved hW.alike hK2, jK5.moved hW.alike hK5, hg_r0, hg_r1, hg_el_12, jP.nil, (hh_2.2.2.2.2.2.2.2.2.sub (L1 := [(jFs11, jSef dC dI G0)]) [0] rfl), by first | omega | rfl | assumption | decide | exact Or.inl rfl | exact Or.inr rfl | (simp only; omega)⟩⟩ rfl rfl hl.1 rfl (lv_room (Nat.le_of_ble_eq_true rfl)) dX5_tactic_22 ⟨by rw [hRc]; show _ + 0 ≤ _; omega, by rw [hRs]; show _ + 0 ≤ _; omega⟩) hh_2.1 (fun q _ h => h) (fun q h => h) (fun r_14 u_13 t_13 H_13 locs_13 ht_13 hvm_13 hr_14 hb_13 hz_13 hk_13 hS_13 => ?_)
    rw [ht_13] at hb_13
    obtain ⟨hb_13, hbE_13⟩ := hb_13
    obtain ⟨hb_131, hb_132, hb_133, hb_134, hb_135⟩ := hb_13
    have hh_13 : jSt (dC, dI) B base G0 G0 EX5_tacticS s.heap 0 0 [(r1, 11, 8, .ref goals_3), (r0, 7, 1, .ref sy), (sy, 12, 5, .int wd)] [] [(jFs11, jSef dC dI G0)] H_13 locs_13 := (((hh_2.call hb_131 hb_132 hb_133 hb_134 hS_13 rfl (L1 := [(r1, 11, 8, .ref goals_3), (r0, 7, 1, .ref sy), (sy, 12, 5, .int wd)]) [0, 1, 2] rfl rfl (M1 := []) [] rfl rfl (I1 := []) [] rfl rfl).more hb_135)).addIs hbE_13
    clear hh_2 ht_13 hvm_13 hz_13 hk_13 hS_13 hb_131 hb_132 hb_133 hb_134 hb_135
    clear  hbE_13
    refine lv_istore_n (lv' := [(3, .int r_14), (2, .ref el_12), (0, .ref r0), (1, .ref r1)]) hx hb dX5_tactic_25 rfl hl (by decide) rfl (fun ls hl => ?_)
    refine lv_iload_n hx hb dX5_tactic_26 rfl (lv_at hl 0 rfl) ?_
    refine lv_if_le (tgt := 32) hx hb dX5_tactic_27 (by decide) (fun c_15 => ?_) (fun c_15 => ?_)
    · skip
      have c_15' : r_14.toInt ≤ 0 := jb_le (rfl) ((by decide)) c_15
      refine lv_aload_n hx hb dX5_tactic_32 rfl (lv_at hl 1 rfl) ?_
      refine lv_ifnonnull (tgt := 39) hx hb dX5_tactic_33 (by decide) ?_
      obtain ⟨v_16, hv_16, hh_17⟩ := hh_13.pin (C := RX3) (T := TX3) (N := 4) hB5 rfl (by decide) hg_el_12 (i := 2) (by decide) rfl
      obtain ⟨hypotheses_18, khypotheses_18, rfl, hg_hypotheses_18, hhahypotheses_18, hhbhypotheses_18, hhchypotheses_18, hhdhypotheses_18, hhehypotheses_18⟩ := hv_16
      obtain rfl : khypotheses_18 = 313 := hhbhypotheses_18 (by omega)
      refine lv_aload_n hx hb dX5_tactic_39 rfl (lv_at hl 2 rfl) ?_
      refine lv_iconst (v := 0) hx hb dX5_tactic_40 (by decide) ?_
      refine j7_put hx hb hown hK hh_17 hB hAp hB7 (C := RX5) (T := TX5) (N := 11) rfl (by decide) hg_r0 (i := 10) (by decide) hly_7_10 rfl hlk_150 rfl (ty := .int) (v := .int 0) (by decide +kernel) rfl rfl (⟨_, rfl, by omega, by omega⟩) rfl (L1 := [(el_12, 5, 2, .ref hypotheses_18), (r1, 11, 8, .ref goals_3), (r0, 7, 1, .ref sy), (sy, 12, 5, .int wd)]) [0, 1, 2, 3] rfl rfl rfl dX5_tactic_41 (fun H_19 locs_19 hh_19 => ?_)
      clear hh_17
      obtain ⟨v_20, hv_20, hh_21⟩ := hh_19.pin (C := RX5) (T := TX5) (N := 11) hB7 rfl (by decide) hg_r0 (i := 9) (by decide) rfl
      obtain ⟨fresh_22, rfl, hg_fresh_22⟩ := hv_20
      obtain ⟨fq_23, hfq_23a, hfq_23p⟩ := hh_21.aq hB211 (by decide) hg_fresh_22
      have hh_24 := hh_21.addI (jQc.ie hfq_23a hg_fresh_22 (by decide) (by decide))
      clear hh_21
      have hd_25 : jFr dC dI ca G0 r0 H_19 := ⟨_, _, _, hg_r0, hg_fresh_22, hh_24.at 1 rfl, hh_24.at 0 rfl, hh_24.iv 0 rfl, (fun i _ h9 => absurd h9 (by omega))⟩
      have hh_26 := hh_24.sub (L1 := [(r0, 7, 9, .ref fresh_22), (r0, 7, 10, .int 0), (el_12, 5, 2, .ref hypotheses_18), (r1, 11, 8, .ref goals_3), (r0, 7, 1, .ref sy), (sy, 12, 5, .int wd)]) [0, 1, 2, 3, 4, 5] rfl (M1 := []) [] rfl (I1 := [(jFs11, jSef dC dI G0)]) [1] rfl
      clear hh_24
      have hh_27 := hh_26.addI (jFr.ie hd_25)
      clear hh_26
      refine lv_aload_n hx hb dX5_tactic_44 rfl (lv_at hl 2 rfl) ?_
      refine lv_aload_n hx hb dX5_tactic_45 rfl (lv_at hl 1 rfl) ?_
      refine lv_aload_n hx hb dX5_tactic_46 rfl (lv_at hl 3 rfl) ?_
      refine lv_aload_n hx hb dX5_tactic_47 rfl (lv_at hl 1 rfl) ?_
      refine lv_aload_n hx hb dX5_tactic_48 rfl (lv_at hl 2 rfl) ?_
      refine j7_read hx hb hown hK (C := RX5) (T := TX5) (N := 11) rfl hly_7_1 hlk_23 (hh_27.at 4 rfl) dX5_tactic_49 ?_
      obtain ⟨v_28, hv_28, hh_29⟩ := hh_27.pin (C := RX10) (T := TX10) (N := 11) hB12 rfl (by decide) hg_sy (i := 6) (by decide) rfl
      clear hh_27
      obtain ⟨told_30, rfl, hg_told_30⟩ := hv_28
      refine j7_read hx hb hown hK (C := RX10) (T := TX10) (N := 11) rfl hly_12_6 hlk_93 (hh_29.at 0 rfl) dX5_tactic_52 ?_
      refine lv_iconst (v := 0) hx hb dX5_tactic_55 (by decide) ?_
      refine j7_iald hx hb hK hh_29 hB292 1 rfl (by decide) hg_told_30 (x := 0) ((by decide)) (by omega) dX5_tactic_56 (fun z_31 (hz_31 : 0 ≤ z_31.toInt ∧ z_31.toInt ≤ 8191) => ?_)
      have hsz_32 := hh_29.2.2.2.2.2.1
      have htt_32 := hh_29.2.2.2.2.2.2.1
      refine W.room (fun hrc_32 hrs_32 => ?_)
      refine j_callx (A0 := jA base) (H0 := s.heap) (va_runS (As := [.ref r1, .ref el_12, .int z_31]) (rest := [.ref el_12, .ref r0]) ⟨hx, hb, hml, hown, hts⟩ (uX5_named l dC dI ca base B hB hAp hB5 hB11 hB101 hB280 hB313 G0 H_19 r1 el_12 z_31 nel_12) (va_cwS 3 hts (jgS (jWr_84 _ (List.mem_of_getElem? (i := 7) rfl)) (jWr_84 _ (List.mem_of_getElem? (i := 8) rfl)) (jWr_2 _ (List.mem_of_getElem? (i := 4) rfl)) (jWr_84 _ (List.mem_of_getElem? (i := 9) rfl))) rfl rfl rfl (by decide +kernel) ⟨by rw [← hR]; exact Nat.le_of_ble_eq_true rfl, by rw [← hR]; exact Nat.le_of_ble_eq_true rfl⟩) ⟨fun a U g mk q => by obtain ⟨q0, q1, q2, qK, q10, q11, q12, q13, q14, q15⟩ := q; exact ⟨q0, q1, q2, jG.calling g mk a qK, (jK5.moved (Vm.Alike.refl U.vm) q10), q11, q12, q13, q14, q15⟩, fun U hU hW => ⟨rfl, hU, hh_29.2.1, hG.step hW hU hh_29.1, jK5.moved hW.alike hK5, hg_r1, hg_el_12, jP.nil, (hh_29.2.2.2.2.2.2.2.2.sub (L1 := [(jFs11, jSef dC dI G0)]) [1] rfl), by first | omega | rfl | assumption | decide | exact Or.inl rfl | exact Or.inr rfl | (simp only; omega)⟩⟩ rfl rfl hl.1 rfl (lv_room (Nat.le_of_ble_eq_true rfl)) dX5_tactic_57 ⟨by rw [hRc]; show _ + 0 ≤ _; omega, by rw [hRs]; show _ + 0 ≤ _; omega⟩) hh_29.1 (fun q _ h => h) (fun q h => h) (fun r_33 u_32 t_32 H_32 locs_32 ht_32 hvm_32 hr_33 hb_32 hz_32 hk_32 hS_32 => ?_)
      rw [ht_32] at hb_32
      obtain ⟨hb_32, hbE_32⟩ := hb_32
      obtain ⟨hb_321, hb_322, hb_323, hb_324, hb_325⟩ := hb_32
      have hh_32 : jSt (dC, dI) B base G0 G0 EX5_tacticS s.heap 0 0 [(sy, 12, 6, .ref told_30), (r0, 7, 9, .ref fresh_22), (r0, 7, 10, .int 0), (el_12, 5, 2, .ref hypotheses_18), (r1, 11, 8, .ref goals_3), (r0, 7, 1, .ref sy), (sy, 12, 5, .int wd)] [] [(jFs11, jSef dC dI G0), (jFg, jFr dC dI ca G0 r0)] H_32 locs_32 := (((hh_29.call hb_321 hb_322 hb_323 hb_324 hS_32 rfl (L1 := [(sy, 12, 6, .ref told_30), (r0, 7, 9, .ref fresh_22), (r0, 7, 10, .int 0), (el_12, 5, 2, .ref hypotheses_18), (r1, 11, 8, .ref goals_3), (r0, 7, 1, .ref sy), (sy, 12, 5, .int wd)]) [0, 1, 2, 3, 4, 5, 6] rfl rfl (M1 := []) [] rfl rfl (I1 := [(jFg, jFr dC dI ca G0 r0)]) [0] rfl rfl).more hb_325)).addIs hbE_32
      clear hh_29 ht_32 hvm_32 hz_32 hk_32 hS_32 hb_321 hb_322 hb_323 hb_324 hb_325
      clear  hbE_32
      rcases hr_33 with rfl | ⟨ret_34, nret_34, rfl, hg_ret_34, hn_ret_34⟩
      · skip
        have hsz_35 := hh_32.2.2.2.2.2.1
        have htt_35 := hh_32.2.2.2.2.2.2.1
        refine W.room (fun hrc_35 hrs_35 => ?_)
        refine va_calli (A0 := jA base) (H0 := s.heap) (va_runV (As := [.ref el_12, .null]) (rest := []) ⟨hx, hb, hml, hown, hts⟩ (uX5_actSZ l dC dI ca base B hB hAp hB5 hB7 hB12 hB101 hB211 hB280 hB290 hB291 hB292 hB313 hB315 G0 H_32 r0 el_12 nel_12 0 sy wd gx LC LS) (cwV 2 hts (jgV (jWr_84 _ (List.mem_of_getElem? (i := 11) rfl)) (jWr_84 _ (List.mem_of_getElem? (i := 12) rfl)) (jWr_84 _ (List.mem_of_getElem? (i := 13) rfl)) (jWr_2 _ (List.mem_of_getElem? (i := 4) rfl)) (jWr_84 _ (List.mem_of_getElem? (i := 14) rfl))) rfl rfl rfl (by decide +kernel) ⟨by rw [← hR]; exact Nat.le_of_ble_eq_true rfl, by rw [← hR]; exact Nat.le_of_ble_eq_true rfl⟩) ⟨fun a U g mk q => by obtain ⟨q0, q1, q2, qK, q10, q11, q12, q13, q14, q15, q16, q17⟩ := q; exact ⟨q0, q1, q2, jG.calling g mk a qK, (va_K.moved (Vm.Alike.refl U.vm) q10), (jK5.moved (Vm.Alike.refl U.vm) q11), q12, q13, q14, q15, q16, q17⟩, hh_32.recv (C := RX5) (T := TX5) (N := 11) hB7 rfl (by decide) hg_r0 hK, fun U hU hW => ⟨rfl, hU, hh_32.2.1, hG.step hW hU hh_32.1, va_K.moved hW.alike hK2, jK5.moved hW.alike hK5, hg_r0, hg_el_12, hg_sy, (hh_32.2.2.1.sub (L1 := [(r0, 7, 10, .int 0), (r0, 7, 1, .ref sy), (sy, 12, 5, .int wd)]) [2, 5, 6] rfl), (hh_32.2.2.2.2.2.2.2.2.sub (L1 := [(jFg, jFr dC dI ca G0 r0)]) [1] rfl), by first | omega | (refine ⟨?_, ?_, ?_, ?_⟩ <;> (first | omega | rfl | assumption | decide | exact Or.inl rfl | exact Or.inr rfl | (simp only; omega)))⟩⟩ rfl rfl hl.1 rfl (lv_room (Nat.le_of_ble_eq_true rfl)) dX5_tactic_60 ⟨by rw [hRc]; omega, by rw [hRs]; omega⟩) hh_32.1 (fun q _ h => h) (fun q h => h) (fun r_36 u_35 t_35 H_35 locs_35 ht_35 hvm_35 hr_36 hb_35 hz_35 hk_35 hS_35 => ?_)
        obtain ⟨qf_35, G_35⟩ := u_35
        rw [ht_35] at hb_35
        simp only at hb_35
        obtain ⟨⟨hb_351, hb_352, hb_353, hb_354, hb_355, hb_356⟩, hN_35, hbE_35⟩ := hb_35
        have hh_35 : jSt (dC, dI) B base G0 G_35 EX5_tacticS s.heap (0 + (16)) (0 + ((168 + 336 * gx))) [(r0, 7, 10, .int qf_35), (sy, 12, 6, .ref told_30), (r0, 7, 9, .ref fresh_22), (el_12, 5, 2, .ref hypotheses_18), (r1, 11, 8, .ref goals_3), (r0, 7, 1, .ref sy), (sy, 12, 5, .int wd)] [] [(jFs11, jSef dC dI G0)] H_35 locs_35 := (hh_32.callG hb_351 hb_352 hb_353 hb_354 hb_355 hS_35 rfl (L1 := [(sy, 12, 6, .ref told_30), (r0, 7, 9, .ref fresh_22), (el_12, 5, 2, .ref hypotheses_18), (r1, 11, 8, .ref goals_3), (r0, 7, 1, .ref sy), (sy, 12, 5, .int wd)]) [0, 1, 3, 4, 5, 6] rfl rfl (M1 := []) [] rfl rfl (I1 := [(jFs11, jSef dC dI G0)]) [0] rfl rfl).more hb_356
        have hNn_35 : (jNk [0, 1, 2, 3, 4, 6, 7, 8, 9, 10, 11, 12, 13, 14, 15, 16, 17, 175]) G0 G_35 := (jNk.rf).tr hN_35
        have hg_37 := hb_352 _ _ hg_el_12
        have hg_38 := hb_352 _ _ hg_r0
        have hg_39 := hb_352 _ _ hg_r1
        have hg_40 := hb_352 _ _ hg_told_30
        have hg_41 := hb_352 _ _ hg_fresh_22
        have hg_42 := hb_352 _ _ hg_hypotheses_18
        have hg_43 := hb_352 _ _ hg_goals_3
        have hg_44 := hb_352 _ _ hg_sy
        have hd_45 := jSef.grow (hh_35.iv 0 rfl) hb_352 hN_35 (by decide)
        have hh_46 := hh_35.sub (L1 := [(r0, 7, 10, .int qf_35), (sy, 12, 6, .ref told_30), (r0, 7, 9, .ref fresh_22), (el_12, 5, 2, .ref hypotheses_18), (r1, 11, 8, .ref goals_3), (r0, 7, 1, .ref sy), (sy, 12, 5, .int wd)]) [0, 1, 2, 3, 4, 5, 6] rfl (M1 := []) [] rfl (I1 := []) [] rfl
        clear hh_35
        have hh_47 := hh_46.addI (jSef.ie hd_45)
        clear hh_46
        have hh_48 := hh_47.addIs hbE_35
        try simp only at hr_36
        obtain ⟨hr_36_0, hr_36_1⟩ := hr_36
        refine lv_istore_n (lv' := [(3, .int r_36), (2, .ref el_12), (0, .ref r0), (1, .ref r1)]) hx hb dX5_tactic_63 rfl hl (by decide) rfl (fun ls hl => ?_)
        refine lv_iload_n hx hb dX5_tactic_64 rfl (lv_at hl 0 rfl) ?_
        refine lv_if_le (tgt := 72) hx hb dX5_tactic_65 (by decide) (fun c_49 => ?_) (fun c_49 => ?_)
        · skip
          have c_49' : r_36.toInt ≤ 0 := jb_le (rfl) ((by decide)) c_49
          refine lv_aload_n hx hb dX5_tactic_72 rfl (lv_at hl 2 rfl) ?_
          refine lv_aload_n hx hb dX5_tactic_73 rfl (lv_at hl 3 rfl) ?_
          have hsz_50 := hh_48.2.2.2.2.2.1
          have htt_50 := hh_48.2.2.2.2.2.2.1
          refine W.room (fun hrc_50 hrs_50 => ?_)
          refine va_calli (A0 := jA base) (H0 := s.heap) (va_runV (As := [.ref r1]) (rest := []) ⟨hx, hb, hml, hown, hts⟩ (uX5_putFresh l dC dI ca base B hB hAp hB5 hB7 hB11 hB101 hB211 hB214 hB280 hB313 hB315 G_35 H_35 r0 r1 qf_35 LC LS) (cwV 1 hts (jgV (jWr_88 _ (List.mem_of_getElem? (i := 20) rfl)) (jWr_88 _ (List.mem_of_getElem? (i := 21) rfl)) (jWr_88 _ (List.mem_of_getElem? (i := 22) rfl)) (jWr_2 _ (List.mem_of_getElem? (i := 4) rfl)) (jWr_88 _ (List.mem_of_getElem? (i := 23) rfl))) rfl rfl rfl (by decide +kernel) ⟨by rw [← hR]; exact Nat.le_of_ble_eq_true rfl, by rw [← hR]; exact Nat.le_of_ble_eq_true rfl⟩) ⟨fun a U g mk q => by obtain ⟨q0, q1, q2, qK, q10, q11, q12, q13, q14, q15, q16, q17⟩ := q; exact ⟨q0, q1, q2, jG.calling g mk a qK, (va_K.moved (Vm.Alike.refl U.vm) q10), (jK5.moved (Vm.Alike.refl U.vm) q11), (jK6.moved (Vm.Alike.refl U.vm) q12), q13, q14, q15, q16, q17⟩, hh_48.recv (C := RX5) (T := TX5) (N := 11) hB7 rfl (by decide) hg_38 hK, fun U hU hW => ⟨rfl, hU, hh_48.2.1, hG.step hW hU hh_48.1, va_K.moved hW.alike hK2, jK5.moved hW.alike hK5, jK6.moved hW.alike hK6, hg_38, hg_39, (hh_48.2.2.1.sub (L1 := [(r0, 7, 10, .int qf_35)]) [0] rfl), (hh_48.2.2.2.2.2.2.2.2.sub (L1 := [(jFg, jFr dC dI ca G_35 r0)]) [0] rfl), by first | omega | (refine ⟨?_, ?_⟩ <;> (first | omega | rfl | assumption | decide | exact Or.inl rfl | exact Or.inr rfl | (simp only; omega)))⟩⟩ rfl rfl hl.1 rfl (lv_room (Nat.le_of_ble_eq_true rfl)) dX5_tactic_74 ⟨by rw [hRc]; omega, by rw [hRs]; omega⟩) hh_48.1 (fun q _ h => h) (fun q h => h) (fun r_51 u_50 t_50 H_50 locs_50 ht_50 hvm_50 hr_51 hb_50 hz_50 hk_50 hS_50 => ?_)
          rw [ht_50] at hb_50
          obtain ⟨G_50, rfl⟩ : ∃ z, z = u_50 := ⟨_, rfl⟩
          try simp only at hb_50
          obtain ⟨⟨hb_501, hb_502, hb_503, hb_504, hb_505, hb_506⟩, hN_50, hbE_50⟩ := hb_50
          have hN_50 : (jNk [0, 1, 2, 3, 4, 6, 7, 8, 9, 10, 11, 12, 13, 14, 15, 16, 17, 175]) G_35 G_50 := hN_50.sub (by decide)
          have hh_50 : jSt (dC, dI) B base G0 G_50 EX5_tacticS s.heap ((0 + (16)) + (1)) ((0 + ((168 + 336 * gx))) + (6)) [(r0, 7, 10, .int qf_35), (sy, 12, 6, .ref told_30), (r0, 7, 9, .ref fresh_22), (el_12, 5, 2, .ref hypotheses_18), (r0, 7, 1, .ref sy), (sy, 12, 5, .int wd)] [] [(jFs11, jSef dC dI G_35)] H_50 locs_50 := (hh_48.callG hb_501 hb_502 hb_503 hb_504 hb_505 hS_50 rfl (L1 := [(r0, 7, 10, .int qf_35), (sy, 12, 6, .ref told_30), (r0, 7, 9, .ref fresh_22), (el_12, 5, 2, .ref hypotheses_18), (r0, 7, 1, .ref sy), (sy, 12, 5, .int wd)]) [0, 1, 2, 3, 5, 6] rfl rfl (M1 := []) [] rfl rfl (I1 := [(jFs11, jSef dC dI G_35)]) [1] rfl rfl).more hb_506
          have hNn_50 : (jNk [0, 1, 2, 3, 4, 6, 7, 8, 9, 10, 11, 12, 13, 14, 15, 16, 17, 175]) G0 G_50 := (hNn_35).tr hN_50
          have hg_52 := hb_502 _ _ hg_37
          have hg_53 := hb_502 _ _ hg_38
          have hg_54 := hb_502 _ _ hg_39
          have hg_55 := hb_502 _ _ hg_40
          have hg_56 := hb_502 _ _ hg_41
          have hg_57 := hb_502 _ _ hg_42
          have hg_58 := hb_502 _ _ hg_44
          have hd_59 := jSef.grow (hh_50.iv 0 rfl) hb_502 hN_50 (by decide)
          have hh_60 := hh_50.sub (L1 := [(r0, 7, 10, .int qf_35), (sy, 12, 6, .ref told_30), (r0, 7, 9, .ref fresh_22), (el_12, 5, 2, .ref hypotheses_18), (r0, 7, 1, .ref sy), (sy, 12, 5, .int wd)]) [0, 1, 2, 3, 4, 5] rfl (M1 := []) [] rfl (I1 := []) [] rfl
          clear hh_50
          have hh_61 := hh_60.addI (jSef.ie hd_59)
          clear hh_60
          have hh_62 := hh_61.addIs hbE_50
          try simp only at hr_51
          have hsz_63 := hh_62.2.2.2.2.2.1
          have htt_63 := hh_62.2.2.2.2.2.2.1
          refine W.room (fun hrc_63 hrs_63 => ?_)
          refine W.widen (k := LC - s.heap.size) (n := LS - jTot s.heap) (by omega) (by omega) ?_
          rw [hQ]
          exact W.iret (v := r_51) hx hb hr (fun t ht hW => ⟨⟨r_51, G_50, rfl, trivial, ⟨hh_62.ra (by first | omega | (simp only; omega)) (by first | omega | (simp only; omega)) (M1 := []) [] rfl ht, hNn_50, by rw [ht]; exact hh_62.2.2.2.2.2.2.2.2.sub (L1 := [(jFs11, jSef dC dI G_50)]) [1] rfl⟩⟩, by rw [ht]; try exact hh_62.1.1, fun q h9 hq => by rw [ht]; try exact hh_62.1.2.1 q h9 hq⟩) hh_62.1.2.2 dX5_tactic_77
        · skip
          have c_49' : r_36.toInt > 0 := jb_le_n (rfl) ((by decide)) c_49
          refine lv_iload_n hx hb dX5_tactic_68 rfl (lv_at hl 0 rfl) ?_
          refine lv_goto (tgt := 77) hx hb dX5_tactic_69 (by decide) ?_
          have hsz_64 := hh_48.2.2.2.2.2.1
          have htt_64 := hh_48.2.2.2.2.2.2.1
          refine W.room (fun hrc_64 hrs_64 => ?_)
          refine W.widen (k := LC - s.heap.size) (n := LS - jTot s.heap) (by omega) (by omega) ?_
          rw [hQ]
          exact W.iret (v := r_36) hx hb hr (fun t ht hW => ⟨⟨r_36, G_35, rfl, trivial, ⟨hh_48.ra (by first | omega | (simp only; omega)) (by first | omega | (simp only; omega)) (M1 := []) [] rfl ht, hNn_35, by rw [ht]; exact hh_48.2.2.2.2.2.2.2.2.sub (L1 := [(jFs11, jSef dC dI G_35)]) [1] rfl⟩⟩, by rw [ht]; try exact hh_48.1.1, fun q h9 hq => by rw [ht]; try exact hh_48.1.2.1 q h9 hq⟩) hh_48.1.2.2 dX5_tactic_77
      · skip
        have hsz_65 := hh_32.2.2.2.2.2.1
        have htt_65 := hh_32.2.2.2.2.2.2.1
        refine W.room (fun hrc_65 hrs_65 => ?_)
        refine va_calli (A0 := jA base) (H0 := s.heap) (va_runV (As := [.ref el_12, .ref ret_34]) (rest := []) ⟨hx, hb, hml, hown, hts⟩ (uX5_actS l dC dI ca base B hB hAp hB5 hB7 hB12 hB101 hB211 hB280 hB290 hB291 hB292 hB313 hB315 G0 H_32 r0 el_12 ret_34 nel_12 nret_34 0 sy wd gx LC LS) (cwV 2 hts (jgV (jWr_84 _ (List.mem_of_getElem? (i := 11) rfl)) (jWr_84 _ (List.mem_of_getElem? (i := 12) rfl)) (jWr_84 _ (List.mem_of_getElem? (i := 13) rfl)) (jWr_2 _ (List.mem_of_getElem? (i := 4) rfl)) (jWr_84 _ (List.mem_of_getElem? (i := 14) rfl))) rfl rfl rfl (by decide +kernel) ⟨by rw [← hR]; exact Nat.le_of_ble_eq_true rfl, by rw [← hR]; exact Nat.le_of_ble_eq_true rfl⟩) ⟨fun a U g mk q => by obtain ⟨q0, q1, q2, qK, q10, q11, q12, q13, q14, q15, q16, q17, q18⟩ := q; exact ⟨q0, q1, q2, jG.calling g mk a qK, (va_K.moved (Vm.Alike.refl U.vm) q10), (jK5.moved (Vm.Alike.refl U.vm) q11), q12, q13, q14, q15, q16, q17, q18⟩, hh_32.recv (C := RX5) (T := TX5) (N := 11) hB7 rfl (by decide) hg_r0 hK, fun U hU hW => ⟨rfl, hU, hh_32.2.1, hG.step hW hU hh_32.1, va_K.moved hW.alike hK2, jK5.moved hW.alike hK5, hg_r0, hg_el_12, hg_ret_34, hg_sy, (hh_32.2.2.1.sub (L1 := [(r0, 7, 10, .int 0), (r0, 7, 1, .ref sy), (sy, 12, 5, .int wd)]) [2, 5, 6] rfl), (hh_32.2.2.2.2.2.2.2.2.sub (L1 := [(jFg, jFr dC dI ca G0 r0)]) [1] rfl), by first | omega | (refine ⟨?_, ?_, ?_, ?_, ?_⟩ <;> (first | omega | rfl | assumption | decide | exact Or.inl rfl | exact Or.inr rfl | (simp only; omega)))⟩⟩ rfl rfl hl.1 rfl (lv_room (Nat.le_of_ble_eq_true rfl)) dX5_tactic_60 ⟨by rw [hRc]; omega, by rw [hRs]; omega⟩) hh_32.1 (fun q _ h => h) (fun q h => h) (fun r_66 u_65 t_65 H_65 locs_65 ht_65 hvm_65 hr_66 hb_65 hz_65 hk_65 hS_65 => ?_)
        obtain ⟨qf_65, G_65⟩ := u_65
        rw [ht_65] at hb_65
        simp only at hb_65
        obtain ⟨⟨hb_651, hb_652, hb_653, hb_654, hb_655, hb_656⟩, hN_65, hbE_65⟩ := hb_65
        have hh_65 : jSt (dC, dI) B base G0 G_65 EX5_tacticS s.heap (0 + (16)) (0 + ((168 + 336 * gx))) [(r0, 7, 10, .int qf_65), (sy, 12, 6, .ref told_30), (r0, 7, 9, .ref fresh_22), (el_12, 5, 2, .ref hypotheses_18), (r1, 11, 8, .ref goals_3), (r0, 7, 1, .ref sy), (sy, 12, 5, .int wd)] [] [(jFs11, jSef dC dI G0)] H_65 locs_65 := (hh_32.callG hb_651 hb_652 hb_653 hb_654 hb_655 hS_65 rfl (L1 := [(sy, 12, 6, .ref told_30), (r0, 7, 9, .ref fresh_22), (el_12, 5, 2, .ref hypotheses_18), (r1, 11, 8, .ref goals_3), (r0, 7, 1, .ref sy), (sy, 12, 5, .int wd)]) [0, 1, 3, 4, 5, 6] rfl rfl (M1 := []) [] rfl rfl (I1 := [(jFs11, jSef dC dI G0)]) [0] rfl rfl).more hb_656
        have hNn_65 : (jNk [0, 1, 2, 3, 4, 6, 7, 8, 9, 10, 11, 12, 13, 14, 15, 16, 17, 175]) G0 G_65 := (jNk.rf).tr hN_65
        have hg_67 := hb_652 _ _ hg_el_12
        have hg_68 := hb_652 _ _ hg_r0
        have hg_69 := hb_652 _ _ hg_r1
        have hg_70 := hb_652 _ _ hg_told_30
        have hg_71 := hb_652 _ _ hg_fresh_22
        have hg_72 := hb_652 _ _ hg_hypotheses_18
        have hg_73 := hb_652 _ _ hg_goals_3
        have hg_74 := hb_652 _ _ hg_sy
        have hd_75 := jSef.grow (hh_65.iv 0 rfl) hb_652 hN_65 (by decide)
        have hh_76 := hh_65.sub (L1 := [(r0, 7, 10, .int qf_65), (sy, 12, 6, .ref told_30), (r0, 7, 9, .ref fresh_22), (el_12, 5, 2, .ref hypotheses_18), (r1, 11, 8, .ref goals_3), (r0, 7, 1, .ref sy), (sy, 12, 5, .int wd)]) [0, 1, 2, 3, 4, 5, 6] rfl (M1 := []) [] rfl (I1 := []) [] rfl
        clear hh_65
        have hh_77 := hh_76.addI (jSef.ie hd_75)
        clear hh_76
        have hh_78 := hh_77.addIs hbE_65
        try simp only at hr_66
        obtain ⟨hr_66_0, hr_66_1⟩ := hr_66
        refine lv_istore_n (lv' := [(3, .int r_66), (2, .ref el_12), (0, .ref r0), (1, .ref r1)]) hx hb dX5_tactic_63 rfl hl (by decide) rfl (fun ls hl => ?_)
        refine lv_iload_n hx hb dX5_tactic_64 rfl (lv_at hl 0 rfl) ?_
        refine lv_if_le (tgt := 72) hx hb dX5_tactic_65 (by decide) (fun c_79 => ?_) (fun c_79 => ?_)
        · skip
          have c_79' : r_66.toInt ≤ 0 := jb_le (rfl) ((by decide)) c_79
          refine lv_aload_n hx hb dX5_tactic_72 rfl (lv_at hl 2 rfl) ?_
          refine lv_aload_n hx hb dX5_tactic_73 rfl (lv_at hl 3 rfl) ?_
          have hsz_80 := hh_78.2.2.2.2.2.1
          have htt_80 := hh_78.2.2.2.2.2.2.1
          refine W.room (fun hrc_80 hrs_80 => ?_)
          refine va_calli (A0 := jA base) (H0 := s.heap) (va_runV (As := [.ref r1]) (rest := []) ⟨hx, hb, hml, hown, hts⟩ (uX5_putFresh l dC dI ca base B hB hAp hB5 hB7 hB11 hB101 hB211 hB214 hB280 hB313 hB315 G_65 H_65 r0 r1 qf_65 LC LS) (cwV 1 hts (jgV (jWr_88 _ (List.mem_of_getElem? (i := 20) rfl)) (jWr_88 _ (List.mem_of_getElem? (i := 21) rfl)) (jWr_88 _ (List.mem_of_getElem? (i := 22) rfl)) (jWr_2 _ (List.mem_of_getElem? (i := 4) rfl)) (jWr_88 _ (List.mem_of_getElem? (i := 23) rfl))) rfl rfl rfl (by decide +kernel) ⟨by rw [← hR]; exact Nat.le_of_ble_eq_true rfl, by rw [← hR]; exact Nat.le_of_ble_eq_true rfl⟩) ⟨fun a U g mk q => by obtain ⟨q0, q1, q2, qK, q10, q11, q12, q13, q14, q15, q16, q17⟩ := q; exact ⟨q0, q1, q2, jG.calling g mk a qK, (va_K.moved (Vm.Alike.refl U.vm) q10), (jK5.moved (Vm.Alike.refl U.vm) q11), (jK6.moved (Vm.Alike.refl U.vm) q12), q13, q14, q15, q16, q17⟩, hh_78.recv (C := RX5) (T := TX5) (N := 11) hB7 rfl (by decide) hg_68 hK, fun U hU hW => ⟨rfl, hU, hh_78.2.1, hG.step hW hU hh_78.1, va_K.moved hW.alike hK2, jK5.moved hW.alike hK5, jK6.moved hW.alike hK6, hg_68, hg_69, (hh_78.2.2.1.sub (L1 := [(r0, 7, 10, .int qf_65)]) [0] rfl), (hh_78.2.2.2.2.2.2.2.2.sub (L1 := [(jFg, jFr dC dI ca G_65 r0)]) [0] rfl), by first | omega | (refine ⟨?_, ?_⟩ <;> (first | omega | rfl | assumption | decide | exact Or.inl rfl | exact Or.inr rfl | (simp only; omega)))⟩⟩ rfl rfl hl.1 rfl (lv_room (Nat.le_of_ble_eq_true rfl)) dX5_tactic_74 ⟨by rw [hRc]; omega, by rw [hRs]; omega⟩) hh_78.1 (fun q _ h => h) (fun q h => h) (fun r_81 u_80 t_80 H_80 locs_80 ht_80 hvm_80 hr_81 hb_80 hz_80 hk_80 hS_80 => ?_)
          rw [ht_80] at hb_80
          obtain ⟨G_80, rfl⟩ : ∃ z, z = u_80 := ⟨_, rfl⟩
          try simp only at hb_80
          obtain ⟨⟨hb_801, hb_802, hb_803, hb_804, hb_805, hb_806⟩, hN_80, hbE_80⟩ := hb_80
          have hN_80 : (jNk [0, 1, 2, 3, 4, 6, 7, 8, 9, 10, 11, 12, 13, 14, 15, 16, 17, 175]) G_65 G_80 := hN_80.sub (by decide)
          have hh_80 : jSt (dC, dI) B base G0 G_80 EX5_tacticS s.heap ((0 + (16)) + (1)) ((0 + ((168 + 336 * gx))) + (6)) [(r0, 7, 10, .int qf_65), (sy, 12, 6, .ref told_30), (r0, 7, 9, .ref fresh_22), (el_12, 5, 2, .ref hypotheses_18), (r0, 7, 1, .ref sy), (sy, 12, 5, .int wd)] [] [(jFs11, jSef dC dI G_65)] H_80 locs_80 := (hh_78.callG hb_801 hb_802 hb_803 hb_804 hb_805 hS_80 rfl (L1 := [(r0, 7, 10, .int qf_65), (sy, 12, 6, .ref told_30), (r0, 7, 9, .ref fresh_22), (el_12, 5, 2, .ref hypotheses_18), (r0, 7, 1, .ref sy), (sy, 12, 5, .int wd)]) [0, 1, 2, 3, 5, 6] rfl rfl (M1 := []) [] rfl rfl (I1 := [(jFs11, jSef dC dI G_65)]) [1] rfl rfl).more hb_806
          have hNn_80 : (jNk [0, 1, 2, 3, 4, 6, 7, 8, 9, 10, 11, 12, 13, 14, 15, 16, 17, 175]) G0 G_80 := (hNn_65).tr hN_80
          have hg_82 := hb_802 _ _ hg_67
          have hg_83 := hb_802 _ _ hg_68
          have hg_84 := hb_802 _ _ hg_69
          have hg_85 := hb_802 _ _ hg_70
          have hg_86 := hb_802 _ _ hg_71
          have hg_87 := hb_802 _ _ hg_72
          have hg_88 := hb_802 _ _ hg_74
          have hd_89 := jSef.grow (hh_80.iv 0 rfl) hb_802 hN_80 (by decide)
          have hh_90 := hh_80.sub (L1 := [(r0, 7, 10, .int qf_65), (sy, 12, 6, .ref told_30), (r0, 7, 9, .ref fresh_22), (el_12, 5, 2, .ref hypotheses_18), (r0, 7, 1, .ref sy), (sy, 12, 5, .int wd)]) [0, 1, 2, 3, 4, 5] rfl (M1 := []) [] rfl (I1 := []) [] rfl
          clear hh_80
          have hh_91 := hh_90.addI (jSef.ie hd_89)
          clear hh_90
          have hh_92 := hh_91.addIs hbE_80
          try simp only at hr_81
          have hsz_93 := hh_92.2.2.2.2.2.1
          have htt_93 := hh_92.2.2.2.2.2.2.1
          refine W.room (fun hrc_93 hrs_93 => ?_)
          refine W.widen (k := LC - s.heap.size) (n := LS - jTot s.heap) (by omega) (by omega) ?_
          rw [hQ]
          exact W.iret (v := r_81) hx hb hr (fun t ht hW => ⟨⟨r_81, G_80, rfl, trivial, ⟨hh_92.ra (by first | omega | (simp only; omega)) (by first | omega | (simp only; omega)) (M1 := []) [] rfl ht, hNn_80, by rw [ht]; exact hh_92.2.2.2.2.2.2.2.2.sub (L1 := [(jFs11, jSef dC dI G_80)]) [1] rfl⟩⟩, by rw [ht]; try exact hh_92.1.1, fun q h9 hq => by rw [ht]; try exact hh_92.1.2.1 q h9 hq⟩) hh_92.1.2.2 dX5_tactic_77
        · skip
          have c_79' : r_66.toInt > 0 := jb_le_n (rfl) ((by decide)) c_79
          refine lv_iload_n hx hb dX5_tactic_68 rfl (lv_at hl 0 rfl) ?_
          refine lv_goto (tgt := 77) hx hb dX5_tactic_69 (by decide) ?_
          have hsz_94 := hh_78.2.2.2.2.2.1
          have htt_94 := hh_78.2.2.2.2.2.2.1
          refine W.room (fun hrc_94 hrs_94 => ?_)
          refine W.widen (k := LC - s.heap.size) (n := LS - jTot s.heap) (by omega) (by omega) ?_
          rw [hQ]
          exact W.iret (v := r_66) hx hb hr (fun t ht hW => ⟨⟨r_66, G_65, rfl, trivial, ⟨hh_78.ra (by first | omega | (simp only; omega)) (by first | omega | (simp only; omega)) (M1 := []) [] rfl ht, hNn_65, by rw [ht]; exact hh_78.2.2.2.2.2.2.2.2.sub (L1 := [(jFs11, jSef dC dI G_65)]) [1] rfl⟩⟩, by rw [ht]; try exact hh_78.1.1, fun q h9 hq => by rw [ht]; try exact hh_78.1.2.1 q h9 hq⟩) hh_78.1.2.2 dX5_tactic_77
    · skip
      have c_15' : r_14.toInt > 0 := jb_le_n (rfl) ((by decide)) c_15
      refine lv_iload_n hx hb dX5_tactic_30 rfl (lv_at hl 0 rfl) ?_
      have hsz_95 := hh_13.2.2.2.2.2.1
      have htt_95 := hh_13.2.2.2.2.2.2.1
      refine W.room (fun hrc_95 hrs_95 => ?_)
      refine W.widen (k := LC - s.heap.size) (n := LS - jTot s.heap) (by omega) (by omega) ?_
      rw [hQ]
      exact W.iret (v := r_14) hx hb hr (fun t ht hW => ⟨⟨r_14, G0, rfl, trivial, ⟨hh_13.ra (by first | omega | (simp only; omega)) (by first | omega | (simp only; omega)) (M1 := []) [] rfl ht, jNk.rf, by rw [ht]; exact hh_13.2.2.2.2.2.2.2.2.sub (L1 := [(jFs11, jSef dC dI G0)]) [0] rfl⟩⟩, by rw [ht]; try exact hh_13.1.1, fun q h9 hq => by rw [ht]; try exact hh_13.1.2.1 q h9 hq⟩) hh_13.1.2.2 dX5_tactic_31
end
