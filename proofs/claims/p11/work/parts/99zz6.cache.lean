theorem dX11_remember_0 : decode cX11_remember 0 = .ok (.iconst 0, 1) := by decide +kernel
theorem dX11_remember_1 : decode cX11_remember 1 = .ok (.istore_n 2, 1) := by decide +kernel
theorem dX11_remember_2 : decode cX11_remember 2 = .ok (.iload_n 2, 1) := by decide +kernel
theorem dX11_remember_3 : decode cX11_remember 3 = .ok (.aload_n 0, 1) := by decide +kernel
theorem dX11_remember_4 : decode cX11_remember 4 = .ok (.getfield 68, 3) := by decide +kernel
theorem dX11_remember_7 : decode cX11_remember 7 = .ok (.invokeinterface 142 1, 5) := by decide +kernel
theorem dX11_remember_12 : decode cX11_remember 12 = .ok (.if_icmp .ge 29, 3) := by decide +kernel
theorem dX11_remember_15 : decode cX11_remember 15 = .ok (.aload_n 0, 1) := by decide +kernel
theorem dX11_remember_16 : decode cX11_remember 16 = .ok (.getfield 68, 3) := by decide +kernel
theorem dX11_remember_19 : decode cX11_remember 19 = .ok (.iload_n 2, 1) := by decide +kernel
theorem dX11_remember_20 : decode cX11_remember 20 = .ok (.invokeinterface 249 2, 5) := by decide +kernel
theorem dX11_remember_25 : decode cX11_remember 25 = .ok (.checkcast 189, 3) := by decide +kernel
theorem dX11_remember_28 : decode cX11_remember 28 = .ok (.aload_n 1, 1) := by decide +kernel
theorem dX11_remember_29 : decode cX11_remember 29 = .ok (.invokestatic 605, 3) := by decide +kernel
theorem dX11_remember_32 : decode cX11_remember 32 = .ok (.ifCond .ne 9, 3) := by decide +kernel
theorem dX11_remember_35 : decode cX11_remember 35 = .ok (.iinc 2 1, 3) := by decide +kernel
theorem dX11_remember_38 : decode cX11_remember 38 = .ok (.goto (-36), 3) := by decide +kernel
theorem dX11_remember_41 : decode cX11_remember 41 = .ok (.iload_n 2, 1) := by decide +kernel
theorem dX11_remember_42 : decode cX11_remember 42 = .ok (.aload_n 0, 1) := by decide +kernel
theorem dX11_remember_43 : decode cX11_remember 43 = .ok (.getfield 68, 3) := by decide +kernel
theorem dX11_remember_46 : decode cX11_remember 46 = .ok (.invokeinterface 142 1, 5) := by decide +kernel
theorem dX11_remember_51 : decode cX11_remember 51 = .ok (.if_icmp .ge 17, 3) := by decide +kernel
theorem dX11_remember_54 : decode cX11_remember 54 = .ok (.aload_n 0, 1) := by decide +kernel
theorem dX11_remember_55 : decode cX11_remember 55 = .ok (.getfield 68, 3) := by decide +kernel
theorem dX11_remember_58 : decode cX11_remember 58 = .ok (.iload_n 2, 1) := by decide +kernel
theorem dX11_remember_59 : decode cX11_remember 59 = .ok (.invokeinterface 423 2, 5) := by decide +kernel
theorem dX11_remember_64 : decode cX11_remember 64 = .ok (.pop, 1) := by decide +kernel
theorem dX11_remember_65 : decode cX11_remember 65 = .ok (.goto 28, 3) := by decide +kernel
theorem dX11_remember_68 : decode cX11_remember 68 = .ok (.aload_n 0, 1) := by decide +kernel
theorem dX11_remember_69 : decode cX11_remember 69 = .ok (.getfield 68, 3) := by decide +kernel
theorem dX11_remember_72 : decode cX11_remember 72 = .ok (.invokeinterface 142 1, 5) := by decide +kernel
theorem dX11_remember_77 : decode cX11_remember 77 = .ok (.bipush 24, 2) := by decide +kernel
theorem dX11_remember_79 : decode cX11_remember 79 = .ok (.if_icmp .lt 14, 3) := by decide +kernel
theorem dX11_remember_82 : decode cX11_remember 82 = .ok (.aload_n 0, 1) := by decide +kernel
theorem dX11_remember_83 : decode cX11_remember 83 = .ok (.getfield 68, 3) := by decide +kernel
theorem dX11_remember_86 : decode cX11_remember 86 = .ok (.iconst 0, 1) := by decide +kernel
theorem dX11_remember_87 : decode cX11_remember 87 = .ok (.invokeinterface 423 2, 5) := by decide +kernel
theorem dX11_remember_92 : decode cX11_remember 92 = .ok (.pop, 1) := by decide +kernel
theorem dX11_remember_93 : decode cX11_remember 93 = .ok (.aload_n 0, 1) := by decide +kernel
theorem dX11_remember_94 : decode cX11_remember 94 = .ok (.getfield 68, 3) := by decide +kernel
theorem dX11_remember_97 : decode cX11_remember 97 = .ok (.aload_n 1, 1) := by decide +kernel
theorem dX11_remember_98 : decode cX11_remember 98 = .ok (.invokeinterface 374 2, 5) := by decide +kernel
theorem dX11_remember_103 : decode cX11_remember 103 = .ok (.pop, 1) := by decide +kernel
theorem dX11_remember_104 : decode cX11_remember 104 = .ok (.return_, 1) := by decide +kernel
def EX1_partB : List (Nat × Nat) := [(3, 4), (8, 3), (12, 3), (101, 0), (102, 0), (132, 0), (133, 0), (171, 0), (172, 0), (293, 0)]
def EX11_remember : List (Nat × Nat) := [(1, 0), (1, 1), (1, 2), (223, 0)]
set_option maxHeartbeats 4000000 in
set_option maxRecDepth 20000 in
theorem uX1_partB (l : Launch) (dC : Nat → ClassId) (dI : Nat → Nat → Nat) (ca : Nat → ClassId) (base : Nat) (B : jF) (hB : jBok B) (hAp : jAp (dC, dI)) (hB3 : ∀ n G a H, B 3 n G a H ↔ jOb (dC, dI) 3 17 (F3 n G) a H) (hB8 : ∀ n G a H, B 8 n G a H ↔ jOb (dC, dI) 8 4 (F8 n G) a H) (hB12 : ∀ n G a H, B 12 n G a H ↔ jOb (dC, dI) 12 11 (F12b n G) a H) (hB101 : ∀ n G a H, B 101 n G a H ↔ jAr (dC, dI) (ca 1) (fun j z => True) n a H) (hB102 : ∀ n G a H, B 102 n G a H ↔ jAl (dC, dI) (ca 2) n a H) (hB132 : ∀ n G a H, B 132 n G a H ↔ jAr (dC, dI) (ca 1) (fun j z => 0 ≤ z.toInt ∧ z.toInt ≤ 10) n a H) (hB133 : ∀ n G a H, B 133 n G a H ↔ jAr (dC, dI) (ca 1) (fun j z => 0 ≤ z.toInt ∧ z.toInt ≤ 8192) n a H) (hB171 : ∀ n G a H, B 171 n G a H ↔ jAr (dC, dI) (ca 1) (fun j z => 0 ≤ z.toInt ∧ z.toInt ≤ 1500) n a H) (hB172 : ∀ n G a H, B 172 n G a H ↔ jAr (dC, dI) (ca 1) (fun j z => 0 ≤ z.toInt ∧ z.toInt ≤ 1500) n a H) (hB293 : ∀ n G a H, B 293 n G a H ↔ jAr (dC, dI) (ca 1) (fun j z => -1 ≤ z.toInt ∧ z.toInt ≤ 8191) n a H) (G0 : jT) (H0 : Heap) (r0 : Nat) (r1 : Nat) (n0 : Nat) : Met l yX1_part (jw yX1_part cX1_part 5 none) ({ frames := 6, cells := 0, slots := 0, locals := 208 }) (va_Pc [.ref r0, .ref r1] (fun U => U.heap = H0 ∧ jX B base G0 [] H0 ∧ jG dC dI ca base U ∧ G0 r0 = some (3, n0) ∧ G0 r1 = some (12, 0) ∧ jP (dC, dI) G0 H0 [] ∧ True)) (va_Qv (S := Unit) (fun u => True) (fun u t => jRt (dC, dI) B base G0 EX1_partB H0 [] t.heap) (jA base)) 0 0 (jA base) := by
  refine Met.ofW (cc := cX1_part) (maxL := 5) (ret := none) (by decide) rfl ?_
  intro p e s m args below meth c s₁ Bd hml hv
  obtain ⟨rfl, hH0, hX, hG, hg_r0, hg_r1, hP0, hp0⟩ := hv
  have hK := hG.1
  have hx := Bd.exec
  have hb := Bd.bytes
  have hr := Bd.returns
  have hts := atoms_spec (ws := (jw yX1_part cX1_part 5 none)) Bd.pre
  have htw : ∀ w ∈ jWl, w.before _ s = true := fun w h => hts w (List.mem_cons_of_mem _ h)
  have hown : s.vm.findClass RX1 = some m.cls := findClass_of_methodNamed Bd.named
  have hlocks := Bd.notSynchronized
  obtain ⟨Q, hQ⟩ : ∃ Q, Q = MQ below (va_Qv (S := Unit) (fun u => True) (fun u t => jRt (dC, dI) B base G0 EX1_partB H0 [] t.heap) (jA base)) ([.ref r0, .ref r1] : List Value).toArray s 0 0 (jA base) := ⟨_, rfl⟩
  rw [← hQ]
  have hl := lv_entry ([.ref r0, .ref r1]) (n := 5) (Nat.le_of_ble_eq_true rfl)
  rw [lg_entry_eq]
  generalize (lg_sl ([.ref r0, .ref r1]) ++ List.replicate (5 - (lg_sl ([.ref r0, .ref r1])).length) Slot.unset).toArray = ls at hl ⊢
  have hl : lv_has ls 5 [(0, .ref r0), (1, .ref r1)] := hl
  generalize hR : (headSpec (jw yX1_part cX1_part 5 none) ({ frames := 6, cells := 0, slots := 0, locals := 208 })).room = R
  subst hH0
  have hh : jSt (dC, dI) B base G0 G0 EX1_partB s.heap 0 0 [] [] [] s.heap [] := jSt.start hX hP0 jMc.nil jIs.nil
  clear hX hP0
  have hk0 : (0 : Int32).toInt = 0 := by decide
  have hk1 : (1 : Int32).toInt = 1 := by decide
  have hk2 : (2 : Int32).toInt = 2 := by decide
  have hk3 : (3 : Int32).toInt = 3 := by decide
  have hk39 : (39 : Int32).toInt = 39 := by decide
  have hk40 : (40 : Int32).toInt = 40 := by decide
  have hly_3_2 := htw (u_lay RX1 TX1 2) (jWc_wsX10 _ (u_in_lay (by decide)))
  have hly_3_3 := htw (u_lay RX1 TX1 3) (jWc_wsX10 _ (u_in_lay (by decide)))
  have hly_3_4 := htw (u_lay RX1 TX1 4) (jWc_wsX10 _ (u_in_lay (by decide)))
  have hly_3_5 := htw (u_lay RX1 TX1 5) (jWc_wsX10 _ (u_in_lay (by decide)))
  have hly_3_6 := htw (u_lay RX1 TX1 6) (jWc_wsX10 _ (u_in_lay (by decide)))
  have hly_3_7 := htw (u_lay RX1 TX1 7) (jWc_wsX10 _ (u_in_lay (by decide)))
  have hly_3_8 := htw (u_lay RX1 TX1 8) (jWc_wsX10 _ (u_in_lay (by decide)))
  have hlk_69 := (htw (.fieldLink RX1 69 "ProofServer$Document" "sentences" "I") (jWr_29 _ (List.mem_of_getElem? (i := 14) rfl)))
  have hlk_42 := (htw (.fieldLink RX1 42 "ProofServer$Document" "length" "I") (jWr_29 _ (List.mem_of_getElem? (i := 5) rfl)))
  have hlk_18 := (htw (.fieldLink RX1 18 "ProofServer$Document" "starts" "[I") (jWr_10 _ (List.mem_of_getElem? (i := 7) rfl)))
  have hlk_21 := (htw (.fieldLink RX1 21 "ProofServer$Document" "ends" "[I") (jWr_10 _ (List.mem_of_getElem? (i := 8) rfl)))
  have hlk_27 := (htw (.fieldLink RX1 27 "ProofServer$Document" "early" "[I") (jWr_10 _ (List.mem_of_getElem? (i := 10) rfl)))
  have hlk_24 := (htw (.fieldLink RX1 24 "ProofServer$Document" "costs" "[I") (jWr_10 _ (List.mem_of_getElem? (i := 9) rfl)))
  have hlk_15 := (htw (.fieldLink RX1 15 "ProofServer$Document" "text" "[I") (jWr_10 _ (List.mem_of_getElem? (i := 6) rfl)))
  refine lv_aload_n hx hb dX1_part_0 rfl (lv_at hl 0 rfl) ?_
  refine lv_iconst (v := 0) hx hb dX1_part_1 (by decide) ?_
  refine j7_put hx hb hown hK hh hB hAp hB3 (C := RX1) (T := TX1) (N := 17) rfl (by decide) hg_r0 (i := 4) (by decide) hly_3_4 rfl hlk_69 rfl (ty := .int) (v := .int 0) (by decide +kernel) rfl rfl (⟨_, rfl, by omega, by omega⟩) rfl (L1 := []) [] rfl rfl rfl dX1_part_2 (fun H_1 locs_1 hh_1 => ?_)
  clear hh
  refine lv_aload_n hx hb dX1_part_5 rfl (lv_at hl 0 rfl) ?_
  refine lv_iconst (v := 0) hx hb dX1_part_6 (by decide) ?_
  refine va_calli (A0 := jA base) (H0 := s.heap) (va_runV (As := [.int 0]) (rest := []) ⟨hx, hb, hml, hown, hts⟩ (uX1_sentenceBegin l dC dI ca base B hB hAp hB3 hB101 G0 H_1 r0 0 n0) (cwV 1 hts (jgV (jWr_36 _ (List.mem_of_getElem? (i := 6) rfl)) (jWr_36 _ (List.mem_of_getElem? (i := 7) rfl)) (jWr_36 _ (List.mem_of_getElem? (i := 8) rfl)) (jWr_2 _ (List.mem_of_getElem? (i := 21) rfl)) (jWr_36 _ (List.mem_of_getElem? (i := 9) rfl))) rfl rfl rfl (by decide +kernel) ⟨by rw [← hR]; exact Nat.le_of_ble_eq_true rfl, by rw [← hR]; exact Nat.le_of_ble_eq_true rfl⟩) ⟨fun a U g mk q => by obtain ⟨q0, q1, q2, qK, q10, q11, q12⟩ := q; exact ⟨q0, q1, q2, jG.calling g mk a qK, q10, q11, q12⟩, hh_1.recv (C := RX1) (T := TX1) (N := 17) hB3 rfl (by decide) hg_r0 hK, fun U hU hW => ⟨rfl, hU, hh_1.2.1, hG.step hW hU hh_1.1, hg_r0, jP.nil, by first | omega | (refine ⟨?_, ?_⟩ <;> (first | omega | rfl | assumption | decide | exact Or.inl rfl | exact Or.inr rfl | (simp only; omega)))⟩⟩ rfl rfl hl.1 rfl (lv_room (Nat.le_of_ble_eq_true rfl)) dX1_part_7 ⟨Nat.zero_le _, Nat.zero_le _⟩) hh_1.1 (fun q _ h => h) (fun q h => h) (fun r_3 u_2 t_2 H_2 locs_2 ht_2 hvm_2 hr_3 hb_2 hz_2 hk_2 hS_2 => ?_)
  rw [ht_2] at hb_2
  obtain ⟨hb_21, hb_22, hb_23, hb_24, hb_25⟩ := hb_2
  have hh_2 : jSt (dC, dI) B base G0 G0 EX1_partB s.heap 0 0 [(r0, 3, 4, .int 0)] [] [] H_2 locs_2 := ((hh_1.call hb_21 hb_22 hb_23 hb_24 hS_2 rfl (L1 := [(r0, 3, 4, .int 0)]) [0] rfl rfl (M1 := []) [] rfl rfl (I1 := []) [] rfl rfl).more hb_25)
  clear hh_1 ht_2 hvm_2 hz_2 hk_2 hS_2 hb_21 hb_22 hb_23 hb_24 hb_25
  obtain ⟨hr_3_0, hr_3_1⟩ := hr_3
  refine lv_istore_n (lv' := [(2, .int r_3), (0, .ref r0), (1, .ref r1)]) hx hb dX1_part_10 rfl hl (by decide) rfl (fun ls hl => ?_)
  refine lv_iconst (v := 0) hx hb dX1_part_11 (by decide) ?_
  refine lv_istore_n (lv' := [(3, .int 0), (2, .int r_3), (0, .ref r0), (1, .ref r1)]) hx hb dX1_part_12 rfl hl (by decide) rfl (fun ls hl => ?_)
  obtain ⟨v_4, hv_4, hh_5⟩ := hh_2.pin (C := RX1) (T := TX1) (N := 17) hB3 rfl (by decide) hg_r0 (i := 3) (by decide) rfl
  obtain ⟨length_6, rfl, hlolength_6, hhilength_6⟩ := hv_4
  have L13 : ∀ (N : Nat) (v2_7 : Int32) (v3_7 : Int32) (H_7 : Heap) (locs_7 : List Loc), jSt (dC, dI) B base G0 G0 EX1_partB s.heap 0 0 [(r0, 3, 3, .int length_6)] [] [] H_7 locs_7 → (0 ≤ v3_7.toInt ∧ v3_7.toInt ≤ 40 ∧ 0 ≤ v2_7.toInt ∧ v2_7.toInt ≤ 1500) → (40 - v3_7.toInt : Int) < N → ∀ ls : Array Slot, lv_has ls 5 [(0, .ref r0), (1, .ref r1), (2, .int v2_7), (3, .int v3_7)] → W p l e R s m ([.ref r0, .ref r1] : List Value).toArray below meth c H_7 locs_7 0 0 Q (F0 m 13 ls []) := by
    intro N
    induction N with
    | zero => intro v2_7 v3_7 H_7 locs_7 hh_7  hi_7 hm; exact absurd hm (by omega)
    | succ N L13 =>
      intro v2_7 v3_7 H_7 locs_7 hh_7  hi_7 hm_7 ls hl
      obtain ⟨hi_7_0, hi_7_1, hi_7_2, hi_7_3⟩ := hi_7
      refine lv_iload_n hx hb dX1_part_13 rfl (lv_at hl 3 rfl) ?_
      refine lv_bipush (v := 40) hx hb dX1_part_14 (by decide) ?_
      have C101 : ∀ (v2_8 : Int32) (v3_8 : Int32) (H_8 : Heap) (locs_8 : List Loc), jSt (dC, dI) B base G0 G0 EX1_partB s.heap 0 0 [(r0, 3, 3, .int length_6)] [] [] H_8 locs_8 → (True) → ∀ ls : Array Slot, lv_has ls 5 [(0, .ref r0), (1, .ref r1), (2, .int v2_8), (3, .int v3_8)] → W p l e R s m ([.ref r0, .ref r1] : List Value).toArray below meth c H_8 locs_8 0 0 Q (F0 m 101 ls []) := by
        intro v2_8 v3_8 H_8 locs_8 hh_8  hi_8 ls hl
        refine lv_iload_n hx hb dX1_part_101 rfl (lv_at hl 2 rfl) ?_
        refine lv_aload_n hx hb dX1_part_102 rfl (lv_at hl 0 rfl) ?_
        refine j7_read hx hb hown hK (C := RX1) (T := TX1) (N := 17) rfl hly_3_3 hlk_42 (hh_8.at 0 rfl) dX1_part_103 ?_
        have C137 : ∀ (H_9 : Heap) (locs_9 : List Loc), jSt (dC, dI) B base G0 G0 EX1_partB s.heap 0 0 [(r0, 3, 3, .int length_6)] [] [] H_9 locs_9 → (True) → ∀ ls : Array Slot, lv_has ls 5 [(0, .ref r0), (1, .ref r1), (2, .int v2_8), (3, .int v3_8)] → W p l e R s m ([.ref r0, .ref r1] : List Value).toArray below meth c H_9 locs_9 0 0 Q (F0 m 137 ls []) := by
          intro  H_9 locs_9 hh_9  hi_9 ls hl
          refine lv_iconst (v := 0) hx hb dX1_part_137 (by decide) ?_
          refine lv_istore_n (lv' := [(3, .int 0), (0, .ref r0), (1, .ref r1), (2, .int v2_8)]) hx hb dX1_part_138 rfl hl (by decide) rfl (fun ls hl => ?_)
          obtain ⟨v_10, hv_10, hh_11⟩ := hh_9.pin (C := RX1) (T := TX1) (N := 17) hB3 rfl (by decide) hg_r0 (i := 4) (by decide) rfl
          obtain ⟨sentences_12, rfl, hlosentences_12, hhisentences_12⟩ := hv_10
          have L139 : ∀ (N : Nat) (v3_13 : Int32) (H_13 : Heap) (locs_13 : List Loc), jSt (dC, dI) B base G0 G0 EX1_partB s.heap 0 0 [(r0, 3, 4, .int sentences_12), (r0, 3, 3, .int length_6)] [] [] H_13 locs_13 → (0 ≤ v3_13.toInt ∧ v3_13.toInt ≤ sentences_12.toInt) → (sentences_12.toInt - v3_13.toInt : Int) < N → ∀ ls : Array Slot, lv_has ls 5 [(0, .ref r0), (1, .ref r1), (2, .int v2_8), (3, .int v3_13)] → W p l e R s m ([.ref r0, .ref r1] : List Value).toArray below meth c H_13 locs_13 0 0 Q (F0 m 139 ls []) := by
            intro N
            induction N with
            | zero => intro v3_13 H_13 locs_13 hh_13  hi_13 hm; exact absurd hm (by omega)
            | succ N L139 =>
              intro v3_13 H_13 locs_13 hh_13  hi_13 hm_13 ls hl
              obtain ⟨hi_13_0, hi_13_1⟩ := hi_13
              refine lv_iload_n hx hb dX1_part_139 rfl (lv_at hl 3 rfl) ?_
              refine lv_aload_n hx hb dX1_part_140 rfl (lv_at hl 0 rfl) ?_
              refine j7_read hx hb hown hK (C := RX1) (T := TX1) (N := 17) rfl hly_3_4 hlk_69 (hh_13.at 0 rfl) dX1_part_141 ?_
              refine lv_icmp_ge (tgt := 194) hx hb dX1_part_144 (by decide) (fun c_14 => ?_) (fun c_14 => ?_)
              · skip
                have c_14' : v3_13.toInt ≥ sentences_12.toInt := jb_ge (rfl) (rfl) c_14
                rw [hQ]
                exact W.vret hx hb hr (fun t ht hW => ⟨⟨(), rfl, trivial, hh_13.rt (M1 := []) [] rfl ht⟩, by rw [ht]; try exact hh_13.1.1, fun q h9 hq => by rw [ht]; try exact hh_13.1.2.1 q h9 hq⟩) hh_13.1.2.2 dX1_part_194
              · skip
                have c_14' : v3_13.toInt < sentences_12.toInt := jb_ge_n (rfl) (rfl) c_14
                refine lv_aload_n hx hb dX1_part_147 rfl (lv_at hl 0 rfl) ?_
                obtain ⟨v_15, hv_15, hh_16⟩ := hh_13.pin (C := RX1) (T := TX1) (N := 17) hB3 rfl (by decide) hg_r0 (i := 7) (by decide) rfl
                clear hh_13
                obtain ⟨costs_17, rfl, hg_costs_17⟩ := hv_15
                refine j7_read hx hb hown hK (C := RX1) (T := TX1) (N := 17) rfl hly_3_7 hlk_24 (hh_16.at 0 rfl) dX1_part_148 ?_
                refine lv_iload_n hx hb dX1_part_151 rfl (lv_at hl 3 rfl) ?_
                refine lv_iconst (v := 3) hx hb dX1_part_152 (by decide) ?_
                refine lv_aload_n hx hb dX1_part_153 rfl (lv_at hl 0 rfl) ?_
                obtain ⟨v_18, hv_18, hh_19⟩ := hh_16.pin (C := RX1) (T := TX1) (N := 17) hB3 rfl (by decide) hg_r0 (i := 8) (by decide) rfl
                clear hh_16
                obtain ⟨early_20, rfl, hg_early_20⟩ := hv_18
                refine j7_read hx hb hown hK (C := RX1) (T := TX1) (N := 17) rfl hly_3_8 hlk_27 (hh_19.at 0 rfl) dX1_part_154 ?_
                refine lv_iload_n hx hb dX1_part_157 rfl (lv_at hl 3 rfl) ?_
                refine j7_iald hx hb hK hh_19 hB101 1 rfl (by decide) hg_early_20 (x := v3_13.toInt) (rfl) (by omega) dX1_part_158 (fun z_21 (hz_21 : True) => ?_)
                refine lv_if_le (tgt := 166) hx hb dX1_part_159 (by decide) (fun c_22 => ?_) (fun c_22 => ?_)
                · skip
                  have c_22' : z_21.toInt ≤ 0 := jb_le (rfl) ((by decide)) c_22
                  refine lv_aload_n hx hb dX1_part_166 rfl (lv_at hl 1 rfl) ?_
                  refine lv_aload_n hx hb dX1_part_167 rfl (lv_at hl 0 rfl) ?_
                  obtain ⟨v_23, hv_23, hh_24⟩ := hh_19.pin (C := RX1) (T := TX1) (N := 17) hB3 rfl (by decide) hg_r0 (i := 2) (by decide) rfl
                  clear hh_19
                  obtain ⟨text_25, rfl, hg_text_25⟩ := hv_23
                  refine j7_read hx hb hown hK (C := RX1) (T := TX1) (N := 17) rfl hly_3_2 hlk_15 (hh_24.at 0 rfl) dX1_part_168 ?_
                  refine lv_aload_n hx hb dX1_part_171 rfl (lv_at hl 0 rfl) ?_
                  obtain ⟨v_26, hv_26, hh_27⟩ := hh_24.pin (C := RX1) (T := TX1) (N := 17) hB3 rfl (by decide) hg_r0 (i := 5) (by decide) rfl
                  clear hh_24
                  obtain ⟨starts_28, rfl, hg_starts_28⟩ := hv_26
                  refine j7_read hx hb hown hK (C := RX1) (T := TX1) (N := 17) rfl hly_3_5 hlk_18 (hh_27.at 0 rfl) dX1_part_172 ?_
                  refine lv_iload_n hx hb dX1_part_175 rfl (lv_at hl 3 rfl) ?_
                  refine j7_iald hx hb hK hh_27 hB171 1 rfl (by decide) hg_starts_28 (x := v3_13.toInt) (rfl) (by omega) dX1_part_176 (fun z_29 (hz_29 : 0 ≤ z_29.toInt ∧ z_29.toInt ≤ 1500) => ?_)
                  refine lv_aload_n hx hb dX1_part_177 rfl (lv_at hl 0 rfl) ?_
                  obtain ⟨v_30, hv_30, hh_31⟩ := hh_27.pin (C := RX1) (T := TX1) (N := 17) hB3 rfl (by decide) hg_r0 (i := 6) (by decide) rfl
                  clear hh_27
                  obtain ⟨ends_32, rfl, hg_ends_32⟩ := hv_30
                  refine j7_read hx hb hown hK (C := RX1) (T := TX1) (N := 17) rfl hly_3_6 hlk_21 (hh_31.at 0 rfl) dX1_part_178 ?_
                  refine lv_iload_n hx hb dX1_part_181 rfl (lv_at hl 3 rfl) ?_
                  refine j7_iald hx hb hK hh_31 hB172 1 rfl (by decide) hg_ends_32 (x := v3_13.toInt) (rfl) (by omega) dX1_part_182 (fun z_33 (hz_33 : 0 ≤ z_33.toInt ∧ z_33.toInt ≤ 1500) => ?_)
                  refine va_calli (A0 := jA base) (H0 := s.heap) (va_runV (As := [.ref text_25, .int z_29, .int z_33]) (rest := [.int 3, .int v3_13, .ref costs_17]) ⟨hx, hb, hml, hown, hts⟩ (uX10_scanB l dC dI ca base B hB hAp hB8 hB12 hB101 hB102 hB132 hB133 hB293 G0 H_13 r1 text_25 z_29 z_33 1500) (cwV 3 hts (jgV (jWr_36 _ (List.mem_of_getElem? (i := 19) rfl)) (jWr_36 _ (List.mem_of_getElem? (i := 20) rfl)) (jWr_36 _ (List.mem_of_getElem? (i := 21) rfl)) (jWr_4 _ (List.mem_of_getElem? (i := 14) rfl)) (jWr_36 _ (List.mem_of_getElem? (i := 22) rfl))) rfl rfl rfl (by decide +kernel) ⟨by rw [← hR]; exact Nat.le_of_ble_eq_true rfl, by rw [← hR]; exact Nat.le_of_ble_eq_true rfl⟩) ⟨fun a U g mk q => by obtain ⟨q0, q1, q2, qK, q10, q11, q12, q13⟩ := q; exact ⟨q0, q1, q2, jG.calling g mk a qK, q10, q11, q12, q13⟩, hh_31.recv (C := RX10) (T := TX10) (N := 11) hB12 rfl (by decide) hg_r1 hK, fun U hU hW => ⟨rfl, hU, hh_31.2.1, hG.step hW hU hh_31.1, hg_r1, hg_text_25, jP.nil, by first | omega | (refine ⟨?_, ?_⟩ <;> (first | omega | rfl | assumption | decide | exact Or.inl rfl | exact Or.inr rfl | (simp only; omega)))⟩⟩ rfl rfl hl.1 rfl (lv_room (Nat.le_of_ble_eq_true rfl)) dX1_part_183 ⟨Nat.zero_le _, Nat.zero_le _⟩) hh_31.1 (fun q _ h => h) (fun q h => h) (fun r_35 u_34 t_34 H_34 locs_34 ht_34 hvm_34 hr_35 hb_34 hz_34 hk_34 hS_34 => ?_)
                  rw [ht_34] at hb_34
                  obtain ⟨hb_341, hb_342, hb_343, hb_344, hb_345⟩ := hb_34
                  have hh_34 : jSt (dC, dI) B base G0 G0 EX1_partB s.heap 0 0 [(r0, 3, 6, .ref ends_32), (r0, 3, 5, .ref starts_28), (r0, 3, 2, .ref text_25), (r0, 3, 8, .ref early_20), (r0, 3, 7, .ref costs_17), (r0, 3, 4, .int sentences_12), (r0, 3, 3, .int length_6)] [] [] H_34 locs_34 := ((hh_31.call hb_341 hb_342 hb_343 hb_344 hS_34 rfl (L1 := [(r0, 3, 6, .ref ends_32), (r0, 3, 5, .ref starts_28), (r0, 3, 2, .ref text_25), (r0, 3, 8, .ref early_20), (r0, 3, 7, .ref costs_17), (r0, 3, 4, .int sentences_12), (r0, 3, 3, .int length_6)]) [0, 1, 2, 3, 4, 5, 6] rfl rfl (M1 := []) [] rfl rfl (I1 := []) [] rfl rfl).more hb_345)
                  clear hh_31 ht_34 hvm_34 hz_34 hk_34 hS_34 hb_341 hb_342 hb_343 hb_344 hb_345
                  obtain ⟨hr_35_0, hr_35_1⟩ := hr_35
                  refine lv_iadd hx hb dX1_part_186 ?_
                  refine lv_topi (fun z_36 ez_36 => ?_)
                  refine j7_iast hx hb hK hh_34 hB hB101 1 rfl (by decide) (by decide) rfl rfl rfl hg_costs_17 (x := v3_13.toInt) (rfl) (by omega) (trivial) dX1_part_187 (fun H_37 locs_37 hh_37 => ?_)
                  clear hh_34
                  obtain ⟨z_38, ez_38⟩ : ∃ y : Int32, y = v3_13 + 1 := ⟨_, rfl⟩
                  refine lv_iinc (v := z_38) (lv' := [(3, .int z_38), (0, .ref r0), (1, .ref r1), (2, .int v2_8)]) hx hb dX1_part_188 hl (k := 3) rfl (by rw [ez_38]; rfl) (by decide) rfl (fun ls hl => ?_)
                  have hz_38 : z_38.toInt = v3_13.toInt + 1 := by rw [ez_38]; exact jb_iadd2 (rfl) (by decide) (by omega)
                  refine lv_goto (tgt := 139) hx hb dX1_part_191 (by decide) ?_
                  exact L139 z_38 _ _ (hh_37.sub (L1 := [(r0, 3, 4, .int sentences_12), (r0, 3, 3, .int length_6)]) [5, 6] rfl (M1 := []) [] rfl (I1 := []) [] rfl) (by first | omega | (refine ⟨?_, ?_⟩ <;> (first | omega | rfl | assumption | decide | exact Or.inl rfl | exact Or.inr rfl | (simp only; omega)))) (by omega) _ (lv_sub hl [1, 2, 3, 0] rfl)
                · skip
                  have c_22' : z_21.toInt > 0 := jb_le_n (rfl) ((by decide)) c_22
                  refine lv_iconst (v := 1) hx hb dX1_part_162 (by decide) ?_
                  refine lv_goto (tgt := 186) hx hb dX1_part_163 (by decide) ?_
                  refine lv_iadd hx hb dX1_part_186 ?_
                  refine lv_topi (fun z_39 ez_39 => ?_)
                  refine j7_iast hx hb hK hh_19 hB hB101 1 rfl (by decide) (by decide) rfl rfl rfl hg_costs_17 (x := v3_13.toInt) (rfl) (by omega) (trivial) dX1_part_187 (fun H_40 locs_40 hh_40 => ?_)
                  clear hh_19
                  obtain ⟨z_41, ez_41⟩ : ∃ y : Int32, y = v3_13 + 1 := ⟨_, rfl⟩
                  refine lv_iinc (v := z_41) (lv' := [(3, .int z_41), (0, .ref r0), (1, .ref r1), (2, .int v2_8)]) hx hb dX1_part_188 hl (k := 3) rfl (by rw [ez_41]; rfl) (by decide) rfl (fun ls hl => ?_)
                  have hz_41 : z_41.toInt = v3_13.toInt + 1 := by rw [ez_41]; exact jb_iadd2 (rfl) (by decide) (by omega)
                  refine lv_goto (tgt := 139) hx hb dX1_part_191 (by decide) ?_
                  exact L139 z_41 _ _ (hh_40.sub (L1 := [(r0, 3, 4, .int sentences_12), (r0, 3, 3, .int length_6)]) [2, 3] rfl (M1 := []) [] rfl (I1 := []) [] rfl) (by first | omega | (refine ⟨?_, ?_⟩ <;> (first | omega | rfl | assumption | decide | exact Or.inl rfl | exact Or.inr rfl | (simp only; omega)))) (by omega) _ (lv_sub hl [1, 2, 3, 0] rfl)
          exact L139 (sentences_12.toInt - (0 : Int32).toInt : Int).toNat.succ 0 _ _ hh_11 (by first | omega | (refine ⟨?_, ?_⟩ <;> (first | omega | rfl | assumption | decide | exact Or.inl rfl | exact Or.inr rfl | (simp only; omega)))) (by omega) _ (lv_sub hl [1, 2, 3, 0] rfl)
        refine lv_icmp_ge (tgt := 137) hx hb dX1_part_106 (by decide) (fun c_42 => ?_) (fun c_42 => ?_)
        · skip
          have c_42' : v2_8.toInt ≥ length_6.toInt := jb_ge (rfl) (rfl) c_42
          exact C137  _ _ hh_8 (trivial) _ (lv_sub hl [0, 1, 2, 3] rfl)
        · skip
          have c_42' : v2_8.toInt < length_6.toInt := jb_ge_n (rfl) (rfl) c_42
          refine lv_aload_n hx hb dX1_part_109 rfl (lv_at hl 0 rfl) ?_
          obtain ⟨v_43, hv_43, hh_44⟩ := hh_8.pin (C := RX1) (T := TX1) (N := 17) hB3 rfl (by decide) hg_r0 (i := 4) (by decide) rfl
          clear hh_8
          obtain ⟨sentences_45, rfl, hlosentences_45, hhisentences_45⟩ := hv_43
          refine j7_read hx hb hown hK (C := RX1) (T := TX1) (N := 17) rfl hly_3_4 hlk_69 (hh_44.at 0 rfl) dX1_part_110 ?_
          refine lv_bipush (v := 40) hx hb dX1_part_113 (by decide) ?_
          refine lv_icmp_ne (tgt := 137) hx hb dX1_part_115 (by decide) (fun c_46 => ?_) (fun c_46 => ?_)
          · skip
            have c_46' : sentences_45.toInt ≠ 40 := jb_ne (rfl) ((by decide)) c_46
            exact C137  _ _ (hh_44.sub (L1 := [(r0, 3, 3, .int length_6)]) [1] rfl (M1 := []) [] rfl (I1 := []) [] rfl) (trivial) _ (lv_sub hl [0, 1, 2, 3] rfl)
          · skip
            have c_46' : sentences_45.toInt = 40 := jb_ne_n (rfl) ((by decide)) c_46
            refine lv_aload_n hx hb dX1_part_118 rfl (lv_at hl 0 rfl) ?_
            obtain ⟨v_47, hv_47, hh_48⟩ := hh_44.pin (C := RX1) (T := TX1) (N := 17) hB3 rfl (by decide) hg_r0 (i := 6) (by decide) rfl
            clear hh_44
            obtain ⟨ends_49, rfl, hg_ends_49⟩ := hv_47
            refine j7_read hx hb hown hK (C := RX1) (T := TX1) (N := 17) rfl hly_3_6 hlk_21 (hh_48.at 0 rfl) dX1_part_119 ?_
            refine lv_bipush (v := 39) hx hb dX1_part_122 (by decide) ?_
            refine lv_aload_n hx hb dX1_part_124 rfl (lv_at hl 0 rfl) ?_
            refine j7_read hx hb hown hK (C := RX1) (T := TX1) (N := 17) rfl hly_3_3 hlk_42 (hh_48.at 2 rfl) dX1_part_125 ?_
            refine j7_iast hx hb hK hh_48 hB hB172 1 rfl (by decide) (by decide) rfl rfl rfl hg_ends_49 (x := 39) ((by decide)) (by omega) (by first | omega | (refine ⟨?_, ?_⟩ <;> (first | omega | rfl | assumption | decide | exact Or.inl rfl | exact Or.inr rfl | (simp only; omega)))) dX1_part_128 (fun H_50 locs_50 hh_50 => ?_)
            clear hh_48
            refine lv_aload_n hx hb dX1_part_129 rfl (lv_at hl 0 rfl) ?_
            obtain ⟨v_51, hv_51, hh_52⟩ := hh_50.pin (C := RX1) (T := TX1) (N := 17) hB3 rfl (by decide) hg_r0 (i := 8) (by decide) rfl
            clear hh_50
            obtain ⟨early_53, rfl, hg_early_53⟩ := hv_51
            refine j7_read hx hb hown hK (C := RX1) (T := TX1) (N := 17) rfl hly_3_8 hlk_27 (hh_52.at 0 rfl) dX1_part_130 ?_
            refine lv_bipush (v := 39) hx hb dX1_part_133 (by decide) ?_
            refine lv_iconst (v := 2) hx hb dX1_part_135 (by decide) ?_
            refine j7_iast hx hb hK hh_52 hB hB101 1 rfl (by decide) (by decide) rfl rfl rfl hg_early_53 (x := 39) ((by decide)) (by omega) (trivial) dX1_part_136 (fun H_54 locs_54 hh_54 => ?_)
            clear hh_52
            exact C137  _ _ (hh_54.sub (L1 := [(r0, 3, 3, .int length_6)]) [3] rfl (M1 := []) [] rfl (I1 := []) [] rfl) (trivial) _ (lv_sub hl [0, 1, 2, 3] rfl)
      refine lv_icmp_ge (tgt := 101) hx hb dX1_part_16 (by decide) (fun c_55 => ?_) (fun c_55 => ?_)
      · skip
        have c_55' : v3_7.toInt ≥ 40 := jb_ge (rfl) ((by decide)) c_55
        exact C101 v2_7 v3_7 _ _ hh_7 (trivial) _ (lv_sub hl [0, 1, 2, 3] rfl)
      · skip
        have c_55' : v3_7.toInt < 40 := jb_ge_n (rfl) ((by decide)) c_55
        refine lv_iload_n hx hb dX1_part_19 rfl (lv_at hl 2 rfl) ?_
        refine lv_aload_n hx hb dX1_part_20 rfl (lv_at hl 0 rfl) ?_
        refine j7_read hx hb hown hK (C := RX1) (T := TX1) (N := 17) rfl hly_3_3 hlk_42 (hh_7.at 0 rfl) dX1_part_21 ?_
        refine lv_icmp_ge (tgt := 101) hx hb dX1_part_24 (by decide) (fun c_56 => ?_) (fun c_56 => ?_)
        · skip
          have c_56' : v2_7.toInt ≥ length_6.toInt := jb_ge (rfl) (rfl) c_56
          exact C101 v2_7 v3_7 _ _ hh_7 (trivial) _ (lv_sub hl [0, 1, 2, 3] rfl)
        · skip
          have c_56' : v2_7.toInt < length_6.toInt := jb_ge_n (rfl) (rfl) c_56
          refine lv_aload_n hx hb dX1_part_27 rfl (lv_at hl 0 rfl) ?_
          refine lv_iload_n hx hb dX1_part_28 rfl (lv_at hl 2 rfl) ?_
          refine va_calli (A0 := jA base) (H0 := s.heap) (va_runV (As := [.int v2_7]) (rest := []) ⟨hx, hb, hml, hown, hts⟩ (uX1_sentenceEnd l dC dI ca base B hB hAp hB3 hB101 G0 H_7 r0 v2_7 n0) (cwV 1 hts (jgV (jWr_36 _ (List.mem_of_getElem? (i := 15) rfl)) (jWr_36 _ (List.mem_of_getElem? (i := 16) rfl)) (jWr_36 _ (List.mem_of_getElem? (i := 17) rfl)) (jWr_2 _ (List.mem_of_getElem? (i := 21) rfl)) (jWr_36 _ (List.mem_of_getElem? (i := 18) rfl))) rfl rfl rfl (by decide +kernel) ⟨by rw [← hR]; exact Nat.le_of_ble_eq_true rfl, by rw [← hR]; exact Nat.le_of_ble_eq_true rfl⟩) ⟨fun a U g mk q => by obtain ⟨q0, q1, q2, qK, q10, q11, q12⟩ := q; exact ⟨q0, q1, q2, jG.calling g mk a qK, q10, q11, q12⟩, hh_7.recv (C := RX1) (T := TX1) (N := 17) hB3 rfl (by decide) hg_r0 hK, fun U hU hW => ⟨rfl, hU, hh_7.2.1, hG.step hW hU hh_7.1, hg_r0, jP.nil, by first | omega | (refine ⟨?_, ?_⟩ <;> (first | omega | rfl | assumption | decide | exact Or.inl rfl | exact Or.inr rfl | (simp only; omega)))⟩⟩ rfl rfl hl.1 rfl (lv_room (Nat.le_of_ble_eq_true rfl)) dX1_part_29 ⟨Nat.zero_le _, Nat.zero_le _⟩) hh_7.1 (fun q _ h => h) (fun q h => h) (fun r_58 u_57 t_57 H_57 locs_57 ht_57 hvm_57 hr_58 hb_57 hz_57 hk_57 hS_57 => ?_)
          rw [ht_57] at hb_57
          obtain ⟨hb_571, hb_572, hb_573, hb_574, hb_575⟩ := hb_57
          have hh_57 : jSt (dC, dI) B base G0 G0 EX1_partB s.heap 0 0 [(r0, 3, 3, .int length_6)] [] [] H_57 locs_57 := ((hh_7.call hb_571 hb_572 hb_573 hb_574 hS_57 rfl (L1 := [(r0, 3, 3, .int length_6)]) [0] rfl rfl (M1 := []) [] rfl rfl (I1 := []) [] rfl rfl).more hb_575)
          clear hh_7 ht_57 hvm_57 hz_57 hk_57 hS_57 hb_571 hb_572 hb_573 hb_574 hb_575
          obtain ⟨hr_58_0, hr_58_1⟩ := hr_58
          refine lv_istore (lv' := [(4, .int r_58), (0, .ref r0), (1, .ref r1), (2, .int v2_7), (3, .int v3_7)]) hx hb dX1_part_32 hl (by decide) rfl (fun ls hl => ?_)
          refine lv_aload_n hx hb dX1_part_34 rfl (lv_at hl 1 rfl) ?_
          obtain ⟨v_59, hv_59, hh_60⟩ := hh_57.pin (C := RX1) (T := TX1) (N := 17) hB3 rfl (by decide) hg_r0 (i := 5) (by decide) rfl
          clear hh_57
          obtain ⟨starts_61, rfl, hg_starts_61⟩ := hv_59
          refine j7_read hx hb hown hK (C := RX1) (T := TX1) (N := 17) rfl hly_3_5 hlk_18 (hh_60.at 0 rfl) dX1_part_35 ?_
          refine lv_iload_n hx hb dX1_part_38 rfl (lv_at hl 4 rfl) ?_
          refine lv_iload_n hx hb dX1_part_39 rfl (lv_at hl 3 rfl) ?_
          refine j7_iast hx hb hK hh_60 hB hB171 1 rfl (by decide) (by decide) rfl rfl rfl hg_starts_61 (x := v3_7.toInt) (rfl) (by omega) (by first | omega | (refine ⟨?_, ?_⟩ <;> (first | omega | rfl | assumption | decide | exact Or.inl rfl | exact Or.inr rfl | (simp only; omega)))) dX1_part_40 (fun H_62 locs_62 hh_62 => ?_)
          clear hh_60
          refine lv_aload_n hx hb dX1_part_41 rfl (lv_at hl 1 rfl) ?_
          obtain ⟨v_63, hv_63, hh_64⟩ := hh_62.pin (C := RX1) (T := TX1) (N := 17) hB3 rfl (by decide) hg_r0 (i := 6) (by decide) rfl
          clear hh_62
          obtain ⟨ends_65, rfl, hg_ends_65⟩ := hv_63
          refine j7_read hx hb hown hK (C := RX1) (T := TX1) (N := 17) rfl hly_3_6 hlk_21 (hh_64.at 0 rfl) dX1_part_42 ?_
          refine lv_iload_n hx hb dX1_part_45 rfl (lv_at hl 4 rfl) ?_
          refine lv_iload hx hb dX1_part_46 (lv_at hl 0 rfl) ?_
          have C60 : ∀ (w0_66 : Int32) (H_66 : Heap) (locs_66 : List Loc), jSt (dC, dI) B base G0 G0 EX1_partB s.heap 0 0 [(r0, 3, 6, .ref ends_65), (r0, 3, 5, .ref starts_61), (r0, 3, 3, .int length_6)] [] [] H_66 locs_66 → (0 ≤ w0_66.toInt ∧ w0_66.toInt ≤ 1500) → ∀ ls : Array Slot, lv_has ls 5 [(0, .ref r0), (1, .ref r1), (2, .int v2_7), (3, .int v3_7), (4, .int r_58)] → W p l e R s m ([.ref r0, .ref r1] : List Value).toArray below meth c H_66 locs_66 0 0 Q (F0 m 60 ls [.int w0_66, .int v3_7, .ref ends_65]) := by
            intro w0_66 H_66 locs_66 hh_66  hi_66 ls hl
            obtain ⟨hi_66_0, hi_66_1⟩ := hi_66
            refine j7_iast hx hb hK hh_66 hB hB172 1 rfl (by decide) (by decide) rfl rfl rfl hg_ends_65 (x := v3_7.toInt) (rfl) (by omega) (by first | omega | (refine ⟨?_, ?_⟩ <;> (first | omega | rfl | assumption | decide | exact Or.inl rfl | exact Or.inr rfl | (simp only; omega)))) dX1_part_60 (fun H_67 locs_67 hh_67 => ?_)
            clear hh_66
            refine lv_aload_n hx hb dX1_part_61 rfl (lv_at hl 0 rfl) ?_
            obtain ⟨v_68, hv_68, hh_69⟩ := hh_67.pin (C := RX1) (T := TX1) (N := 17) hB3 rfl (by decide) hg_r0 (i := 8) (by decide) rfl
            clear hh_67
            obtain ⟨early_70, rfl, hg_early_70⟩ := hv_68
            refine j7_read hx hb hown hK (C := RX1) (T := TX1) (N := 17) rfl hly_3_8 hlk_27 (hh_69.at 0 rfl) dX1_part_62 ?_
            refine lv_iload_n hx hb dX1_part_65 rfl (lv_at hl 3 rfl) ?_
            refine lv_iload hx hb dX1_part_66 (lv_at hl 4 rfl) ?_
            have C76 : ∀ (w0_71 : Int32) (H_71 : Heap) (locs_71 : List Loc), jSt (dC, dI) B base G0 G0 EX1_partB s.heap 0 0 [(r0, 3, 8, .ref early_70), (r0, 3, 6, .ref ends_65), (r0, 3, 5, .ref starts_61), (r0, 3, 3, .int length_6)] [] [] H_71 locs_71 → (w0_71 = 0 ∨ w0_71 = 1) → (True) → ∀ ls : Array Slot, lv_has ls 5 [(0, .ref r0), (1, .ref r1), (2, .int v2_7), (3, .int v3_7), (4, .int r_58)] → W p l e R s m ([.ref r0, .ref r1] : List Value).toArray below meth c H_71 locs_71 0 0 Q (F0 m 76 ls [.int w0_71, .int v3_7, .ref early_70]) := by
              intro w0_71 H_71 locs_71 hh_71 hb_w0_71 hi_71 ls hl
              have hb_w0_71' := jb_01 hb_w0_71
              refine j7_iast hx hb hK hh_71 hB hB101 1 rfl (by decide) (by decide) rfl rfl rfl hg_early_70 (x := v3_7.toInt) (rfl) (by omega) (trivial) dX1_part_76 (fun H_72 locs_72 hh_72 => ?_)
              clear hh_71
              refine lv_aload_n hx hb dX1_part_77 rfl (lv_at hl 0 rfl) ?_
              refine lv_iload_n hx hb dX1_part_78 rfl (lv_at hl 3 rfl) ?_
              refine lv_iconst (v := 1) hx hb dX1_part_79 (by decide) ?_
              refine lv_iadd hx hb dX1_part_80 ?_
              refine lv_topi (fun z_73 ez_73 => ?_)
              have hz_73 : z_73.toInt = v3_7.toInt + 1 := by rw [ez_73]; exact jb_iadd2 (rfl) ((by decide)) (by omega)
              refine j7_put hx hb hown hK hh_72 hB hAp hB3 (C := RX1) (T := TX1) (N := 17) rfl (by decide) hg_r0 (i := 4) (by decide) hly_3_4 rfl hlk_69 rfl (ty := .int) (v := .int z_73) (by decide +kernel) rfl rfl (⟨_, rfl, by omega, by omega⟩) rfl (L1 := [(r0, 3, 8, .ref early_70), (r0, 3, 6, .ref ends_65), (r0, 3, 5, .ref starts_61), (r0, 3, 3, .int length_6)]) [0, 1, 2, 3] rfl rfl rfl dX1_part_81 (fun H_74 locs_74 hh_74 => ?_)
              clear hh_72
              refine lv_aload_n hx hb dX1_part_84 rfl (lv_at hl 0 rfl) ?_
              refine lv_aload_n hx hb dX1_part_85 rfl (lv_at hl 0 rfl) ?_
              refine j7_read hx hb hown hK (C := RX1) (T := TX1) (N := 17) rfl hly_3_6 hlk_21 (hh_74.at 2 rfl) dX1_part_86 ?_
              refine lv_iload_n hx hb dX1_part_89 rfl (lv_at hl 3 rfl) ?_
              refine j7_iald hx hb hK hh_74 hB172 1 rfl (by decide) hg_ends_65 (x := v3_7.toInt) (rfl) (by omega) dX1_part_90 (fun z_75 (hz_75 : 0 ≤ z_75.toInt ∧ z_75.toInt ≤ 1500) => ?_)
              refine va_calli (A0 := jA base) (H0 := s.heap) (va_runV (As := [.int z_75]) (rest := []) ⟨hx, hb, hml, hown, hts⟩ (uX1_sentenceBegin l dC dI ca base B hB hAp hB3 hB101 G0 H_74 r0 z_75 n0) (cwV 1 hts (jgV (jWr_36 _ (List.mem_of_getElem? (i := 6) rfl)) (jWr_36 _ (List.mem_of_getElem? (i := 7) rfl)) (jWr_36 _ (List.mem_of_getElem? (i := 8) rfl)) (jWr_2 _ (List.mem_of_getElem? (i := 21) rfl)) (jWr_36 _ (List.mem_of_getElem? (i := 9) rfl))) rfl rfl rfl (by decide +kernel) ⟨by rw [← hR]; exact Nat.le_of_ble_eq_true rfl, by rw [← hR]; exact Nat.le_of_ble_eq_true rfl⟩) ⟨fun a U g mk q => by obtain ⟨q0, q1, q2, qK, q10, q11, q12⟩ := q; exact ⟨q0, q1, q2, jG.calling g mk a qK, q10, q11, q12⟩, hh_74.recv (C := RX1) (T := TX1) (N := 17) hB3 rfl (by decide) hg_r0 hK, fun U hU hW => ⟨rfl, hU, hh_74.2.1, hG.step hW hU hh_74.1, hg_r0, jP.nil, by first | omega | (refine ⟨?_, ?_⟩ <;> (first | omega | rfl | assumption | decide | exact Or.inl rfl | exact Or.inr rfl | (simp only; omega)))⟩⟩ rfl rfl hl.1 rfl (lv_room (Nat.le_of_ble_eq_true rfl)) dX1_part_91 ⟨Nat.zero_le _, Nat.zero_le _⟩) hh_74.1 (fun q _ h => h) (fun q h => h) (fun r_77 u_76 t_76 H_76 locs_76 ht_76 hvm_76 hr_77 hb_76 hz_76 hk_76 hS_76 => ?_)
              rw [ht_76] at hb_76
              obtain ⟨hb_761, hb_762, hb_763, hb_764, hb_765⟩ := hb_76
              have hh_76 : jSt (dC, dI) B base G0 G0 EX1_partB s.heap 0 0 [(r0, 3, 4, .int z_73), (r0, 3, 8, .ref early_70), (r0, 3, 6, .ref ends_65), (r0, 3, 5, .ref starts_61), (r0, 3, 3, .int length_6)] [] [] H_76 locs_76 := ((hh_74.call hb_761 hb_762 hb_763 hb_764 hS_76 rfl (L1 := [(r0, 3, 4, .int z_73), (r0, 3, 8, .ref early_70), (r0, 3, 6, .ref ends_65), (r0, 3, 5, .ref starts_61), (r0, 3, 3, .int length_6)]) [0, 1, 2, 3, 4] rfl rfl (M1 := []) [] rfl rfl (I1 := []) [] rfl rfl).more hb_765)
              clear hh_74 ht_76 hvm_76 hz_76 hk_76 hS_76 hb_761 hb_762 hb_763 hb_764 hb_765
              obtain ⟨hr_77_0, hr_77_1⟩ := hr_77
              refine lv_istore_n (lv' := [(2, .int r_77), (0, .ref r0), (1, .ref r1), (3, .int v3_7), (4, .int r_58)]) hx hb dX1_part_94 rfl hl (by decide) rfl (fun ls hl => ?_)
              obtain ⟨z_78, ez_78⟩ : ∃ y : Int32, y = v3_7 + 1 := ⟨_, rfl⟩
              refine lv_iinc (v := z_78) (lv' := [(3, .int z_78), (2, .int r_77), (0, .ref r0), (1, .ref r1), (4, .int r_58)]) hx hb dX1_part_95 hl (k := 3) rfl (by rw [ez_78]; rfl) (by decide) rfl (fun ls hl => ?_)
              have hz_78 : z_78.toInt = v3_7.toInt + 1 := by rw [ez_78]; exact jb_iadd2 (rfl) (by decide) (by omega)
              refine lv_goto (tgt := 13) hx hb dX1_part_98 (by decide) ?_
              exact L13 r_77 z_78 _ _ (hh_76.sub (L1 := [(r0, 3, 3, .int length_6)]) [4] rfl (M1 := []) [] rfl (I1 := []) [] rfl) (by first | omega | (refine ⟨?_, ?_, ?_, ?_⟩ <;> (first | omega | rfl | assumption | decide | exact Or.inl rfl | exact Or.inr rfl | (simp only; omega)))) (by omega) _ (lv_sub hl [2, 3, 1, 0] rfl)
            refine lv_if_ge (tgt := 75) hx hb dX1_part_68 (by decide) (fun c_79 => ?_) (fun c_79 => ?_)
            · skip
              have c_79' : r_58.toInt ≥ 0 := jb_ge (rfl) ((by decide)) c_79
              refine lv_iconst (v := 0) hx hb dX1_part_75 (by decide) ?_
              exact C76 0 _ _ hh_69 (Or.inl rfl) (trivial) _ (lv_sub hl [0, 1, 2, 3, 4] rfl)
            · skip
              have c_79' : r_58.toInt < 0 := jb_ge_n (rfl) ((by decide)) c_79
              refine lv_iconst (v := 1) hx hb dX1_part_71 (by decide) ?_
              refine lv_goto (tgt := 76) hx hb dX1_part_72 (by decide) ?_
              exact C76 1 _ _ hh_69 (Or.inr rfl) (trivial) _ (lv_sub hl [0, 1, 2, 3, 4] rfl)
          refine lv_if_ge (tgt := 58) hx hb dX1_part_48 (by decide) (fun c_80 => ?_) (fun c_80 => ?_)
          · skip
            have c_80' : r_58.toInt ≥ 0 := jb_ge (rfl) ((by decide)) c_80
            refine lv_iload hx hb dX1_part_58 (lv_at hl 0 rfl) ?_
            exact C60 r_58 _ _ hh_64 (by first | omega | (refine ⟨?_, ?_⟩ <;> (first | omega | rfl | assumption | decide | exact Or.inl rfl | exact Or.inr rfl | (simp only; omega)))) _ (lv_sub hl [1, 2, 3, 4, 0] rfl)
          · skip
            have c_80' : r_58.toInt < 0 := jb_ge_n (rfl) ((by decide)) c_80
            refine lv_aload_n hx hb dX1_part_51 rfl (lv_at hl 1 rfl) ?_
            refine j7_read hx hb hown hK (C := RX1) (T := TX1) (N := 17) rfl hly_3_3 hlk_42 (hh_64.at 2 rfl) dX1_part_52 ?_
            refine lv_goto (tgt := 60) hx hb dX1_part_55 (by decide) ?_
            exact C60 length_6 _ _ hh_64 (by first | omega | (refine ⟨?_, ?_⟩ <;> (first | omega | rfl | assumption | decide | exact Or.inl rfl | exact Or.inr rfl | (simp only; omega)))) _ (lv_sub hl [1, 2, 3, 4, 0] rfl)
  exact L13 (40 - (0 : Int32).toInt : Int).toNat.succ r_3 0 _ _ (hh_5.sub (L1 := [(r0, 3, 3, .int length_6)]) [0] rfl (M1 := []) [] rfl (I1 := []) [] rfl) (by first | omega | (refine ⟨?_, ?_, ?_, ?_⟩ <;> (first | omega | rfl | assumption | decide | exact Or.inl rfl | exact Or.inr rfl | (simp only; omega)))) (by omega) _ (lv_sub hl [2, 3, 1, 0] rfl)
set_option maxHeartbeats 4000000 in
set_option maxRecDepth 20000 in
theorem uX11_remember (l : Launch) (dC : Nat → ClassId) (dI : Nat → Nat → Nat) (ca : Nat → ClassId) (base : Nat) (B : jF) (hB : jBok B) (hAp : jAp (dC, dI)) (hB1 : ∀ n G a H, B 1 n G a H ↔ jOb (dC, dI) 1 3 (F1 n G) a H) (hB11 : ∀ n G a H, B 11 n G a H ↔ jOb (dC, dI) 11 9 (F11 n G) a H) (hB13 : ∀ n G a H, B 13 n G a H ↔ jOb (dC, dI) 13 19 (F13 n G) a H) (hB101 : ∀ n G a H, B 101 n G a H ↔ jAr (dC, dI) (ca 1) (fun j z => True) n a H) (hB223 : ∀ n G a H, B 223 n G a H ↔ jAq (dC, dI) (ca 9) (jQn 11 0) n G a H) (G0 : jT) (H0 : Heap) (r0 : Nat) (r1 : Nat) (LC LS : Nat) : Met l yX11_remember (jw yX11_remember cX11_remember 3 none) ({ frames := 7, cells := LC - H0.size, slots := LS - jTot H0, locals := 192 }) (va_Pc [.ref r0, .ref r1] (fun U => U.heap = H0 ∧ jX B base G0 [] H0 ∧ jG dC dI ca base U ∧ jK7 dC dI ca base U ∧ G0 r0 = some (13, 0) ∧ G0 r1 = some (11, 0) ∧ jP (dC, dI) G0 H0 [] ∧ jIs (dC, dI) G0 H0 [(jFl, jLs dC dI ca G0 3 none)] ∧ H0.size + 1 ≤ LC ∧ jTot H0 + 40 ≤ LS ∧ True)) (va_Qv (S := jT) (fun u => True) (fun u t => jRa (dC, dI) B base G0 u EX11_remember H0 (1) (40) [] t.heap ∧ (jNk [0, 1, 2, 3, 4, 5, 6, 7, 8, 9, 10, 11, 12, 13, 14, 15, 16]) G0 u ∧ jIs (dC, dI) u t.heap [(jFl, jLs dC dI ca u 3 none)]) (jA base)) (LC - H0.size) (LS - jTot H0) (jA base) := by
  refine Met.ofW (cc := cX11_remember) (maxL := 3) (ret := none) (by decide) rfl ?_
  intro p e s m args below meth c s₁ Bd hml hv
  obtain ⟨rfl, hH0, hX, hG, hK7, hg_r0, hg_r1, hP0, hI0, hLC0, hLS0, hp0⟩ := hv
  have hK := hG.1
  have hx := Bd.exec
  have hb := Bd.bytes
  have hr := Bd.returns
  have hts := atoms_spec (ws := (jw yX11_remember cX11_remember 3 none)) Bd.pre
  have htw : ∀ w ∈ jWl, w.before _ s = true := fun w h => hts w (List.mem_cons_of_mem _ h)
  have hown : s.vm.findClass RX11 = some m.cls := findClass_of_methodNamed Bd.named
  have hlocks := Bd.notSynchronized
  obtain ⟨Q, hQ⟩ : ∃ Q, Q = MQ below (va_Qv (S := jT) (fun u => True) (fun u t => jRa (dC, dI) B base G0 u EX11_remember H0 (1) (40) [] t.heap ∧ (jNk [0, 1, 2, 3, 4, 5, 6, 7, 8, 9, 10, 11, 12, 13, 14, 15, 16]) G0 u ∧ jIs (dC, dI) u t.heap [(jFl, jLs dC dI ca u 3 none)]) (jA base)) ([.ref r0, .ref r1] : List Value).toArray s (LC - H0.size) (LS - jTot H0) (jA base) := ⟨_, rfl⟩
  rw [← hQ]
  have hl := lv_entry ([.ref r0, .ref r1]) (n := 3) (Nat.le_of_ble_eq_true rfl)
  rw [lg_entry_eq]
  generalize (lg_sl ([.ref r0, .ref r1]) ++ List.replicate (3 - (lg_sl ([.ref r0, .ref r1])).length) Slot.unset).toArray = ls at hl ⊢
  have hl : lv_has ls 3 [(0, .ref r0), (1, .ref r1)] := hl
  generalize hR : (headSpec (jw yX11_remember cX11_remember 3 none) ({ frames := 7, cells := LC - H0.size, slots := LS - jTot H0, locals := 192 })).room = R
  subst hH0
  have hh : jSt (dC, dI) B base G0 G0 EX11_remember s.heap 0 0 [] [] [(jFl, jLs dC dI ca G0 3 none)] s.heap [] := jSt.start hX hP0 jMc.nil hI0
  clear hX hP0
  have hk0 : (0 : Int32).toInt = 0 := by decide
  have hk1 : (1 : Int32).toInt = 1 := by decide
  have hk24 : (24 : Int32).toInt = 24 := by decide
  have hly_13_9 := htw (u_lay RX11 TX11 9) (jWc_wsX110 _ (u_in_lay (by decide)))
  have hlk_68 := (htw (.fieldLink RX11 68 "ProofServer" "cache" "Ljava/util/List;") (jWr_2 _ (List.mem_of_getElem? (i := 16) rfl)))
  have hbs : base ≤ s.heap.size := Nat.le_of_lt (Nat.lt_of_le_of_lt (hh.ab hg_r0).1 (hh.ab hg_r0).2)
  have hRc : R.cells = LC - s.heap.size := by rw [← hR]; rfl
  have hRs : R.slots = LS - jTot s.heap := by rw [← hR]; rfl
  obtain ⟨v_1, hv_1, hh_2⟩ := hh.pin (C := RX11) (T := TX11) (N := 19) hB13 rfl (by decide) hg_r0 (i := 9) (by decide) rfl
  obtain ⟨cache_3, rfl, hg_cache_3⟩ := hv_1
  obtain ⟨lz_4, lx_4, hl1_4, -, hl3_4, -⟩ := jLs.at (hh_2.iv 0 rfl) hg_cache_3
  have hh_5 := hh_2.more (P1 := [(cache_3, 1, 2, .int lz_4)]) (jP.cons hg_cache_3 hl1_4 jP.nil)
  clear hh_2
  have hl3_4 : 0 ≤ lz_4.toInt ∧ lz_4.toInt ≤ 24 := hl3_4
  refine lv_iconst (v := 0) hx hb dX11_remember_0 (by decide) ?_
  refine lv_istore_n (lv' := [(2, .int 0), (0, .ref r0), (1, .ref r1)]) hx hb dX11_remember_1 rfl hl (by decide) rfl (fun ls hl => ?_)
  have L2 : ∀ (N : Nat) (v2_6 : Int32) (H_6 : Heap) (locs_6 : List Loc), jSt (dC, dI) B base G0 G0 EX11_remember s.heap 0 0 [(cache_3, 1, 2, .int lz_4), (r0, 13, 9, .ref cache_3)] [] [(jFl, jLs dC dI ca G0 3 none)] H_6 locs_6 → (0 ≤ v2_6.toInt ∧ v2_6.toInt ≤ 40) → (41 - v2_6.toInt : Int) < N → ∀ ls : Array Slot, lv_has ls 3 [(0, .ref r0), (1, .ref r1), (2, .int v2_6)] → W p l e R s m ([.ref r0, .ref r1] : List Value).toArray below meth c H_6 locs_6 0 0 Q (F0 m 2 ls []) := by
    intro N
    induction N with
    | zero => intro v2_6 H_6 locs_6 hh_6  hi_6 hm; exact absurd hm (by omega)
    | succ N L2 =>
      intro v2_6 H_6 locs_6 hh_6  hi_6 hm_6 ls hl
      obtain ⟨hi_6_0, hi_6_1⟩ := hi_6
      refine lv_iload_n hx hb dX11_remember_2 rfl (lv_at hl 2 rfl) ?_
      refine lv_aload_n hx hb dX11_remember_3 rfl (lv_at hl 0 rfl) ?_
      refine j7_read hx hb hown hK (C := RX11) (T := TX11) (N := 19) rfl hly_13_9 hlk_68 (hh_6.at 1 rfl) dX11_remember_4 ?_
      have hsz_7 := hh_6.2.2.2.2.2.1
      have htt_7 := hh_6.2.2.2.2.2.2.1
      refine W.room (fun hrc_7 hrs_7 => ?_)
      refine va_callFi (A0 := jA base) (H0 := s.heap) (va_runF (hK.1 1 _ rfl).2 (As := []) (rest := [.int v2_6]) ⟨hx, hb, hml, hown, hts⟩ (uJx4a65c_size_8abf5 l dC dI ca base B hB hAp hB1 G0 H_6 cache_3 3 lz_4) (va_cwF 0 hts (jgF (jWr_27 _ (List.mem_of_getElem? (i := 22) rfl)) (jWr_27 _ (List.mem_of_getElem? (i := 23) rfl)) (jWr_28 _ (List.mem_of_getElem? (i := 0) rfl)) (jWr_2 _ (List.mem_of_getElem? (i := 13) rfl)) (jWr_28 _ (List.mem_of_getElem? (i := 1) rfl))) rfl rfl rfl hK7.2.2.2.2.2.1.1 ⟨by decide, by decide, by decide +kernel⟩ ⟨by rw [← hR]; exact Nat.le_of_ble_eq_true rfl, by rw [← hR]; exact Nat.le_of_ble_eq_true rfl⟩) ⟨fun a U g mk q => by obtain ⟨q0, q1, q2, qK, q10, q11, q12⟩ := q; exact ⟨q0, q1, q2, jG.calling g mk a qK, q10, q11, q12⟩, hh_6.recv (C := RJx4a65c) (T := TJx4a65c) (N := 3) hB1 rfl (by decide) hg_cache_3 hK, fun U hU hW => ⟨rfl, hU, hh_6.2.1, hG.step hW hU hh_6.1, hg_cache_3, (hh_6.2.2.1.sub (L1 := [(cache_3, 1, 2, .int lz_4)]) [0] rfl), trivial⟩⟩ rfl rfl hl.1 rfl (lv_room (Nat.le_of_ble_eq_true rfl)) dX11_remember_7 ⟨by rw [hRc]; show _ + 0 ≤ _; omega, by rw [hRs]; show _ + 0 ≤ _; omega⟩) hh_6.1 (fun q _ h => h) (fun q h => h) (fun r_8 u_7 t_7 H_7 locs_7 ht_7 hvm_7 hr_8 hb_7 hz_7 hk_7 hS_7 => ?_)
      rw [ht_7] at hb_7
      obtain ⟨hb_71, hb_72, hb_73, hb_74, hb_75⟩ := hb_7
      have hh_7 : jSt (dC, dI) B base G0 G0 EX11_remember s.heap 0 0 [(cache_3, 1, 2, .int lz_4), (r0, 13, 9, .ref cache_3)] [] [(jFl, jLs dC dI ca G0 3 none)] H_7 locs_7 := ((hh_6.call hb_71 hb_72 hb_73 hb_74 hS_7 rfl (L1 := [(cache_3, 1, 2, .int lz_4), (r0, 13, 9, .ref cache_3)]) [0, 1] rfl rfl (M1 := []) [] rfl rfl (I1 := [(jFl, jLs dC dI ca G0 3 none)]) [0] rfl rfl).more hb_75)
      clear hh_6 ht_7 hvm_7 hz_7 hk_7 hS_7 hb_71 hb_72 hb_73 hb_74 hb_75
      refine lv_icmp_ge (tgt := 41) hx hb dX11_remember_12 (by decide) (fun c_9 => ?_) (fun c_9 => ?_)
      · skip
        have c_9' : v2_6.toInt ≥ r_8.toInt := jb_ge (rfl) (rfl) c_9
        refine lv_iload_n hx hb dX11_remember_41 rfl (lv_at hl 2 rfl) ?_
        refine lv_aload_n hx hb dX11_remember_42 rfl (lv_at hl 0 rfl) ?_
        refine j7_read hx hb hown hK (C := RX11) (T := TX11) (N := 19) rfl hly_13_9 hlk_68 (hh_7.at 1 rfl) dX11_remember_43 ?_
        have hsz_10 := hh_7.2.2.2.2.2.1
        have htt_10 := hh_7.2.2.2.2.2.2.1
        refine W.room (fun hrc_10 hrs_10 => ?_)
        refine va_callFi (A0 := jA base) (H0 := s.heap) (va_runF (hK.1 1 _ rfl).2 (As := []) (rest := [.int v2_6]) ⟨hx, hb, hml, hown, hts⟩ (uJx4a65c_size_8abf5 l dC dI ca base B hB hAp hB1 G0 H_7 cache_3 3 lz_4) (va_cwF 0 hts (jgF (jWr_27 _ (List.mem_of_getElem? (i := 22) rfl)) (jWr_27 _ (List.mem_of_getElem? (i := 23) rfl)) (jWr_28 _ (List.mem_of_getElem? (i := 0) rfl)) (jWr_2 _ (List.mem_of_getElem? (i := 13) rfl)) (jWr_28 _ (List.mem_of_getElem? (i := 1) rfl))) rfl rfl rfl hK7.2.2.2.2.2.1.1 ⟨by decide, by decide, by decide +kernel⟩ ⟨by rw [← hR]; exact Nat.le_of_ble_eq_true rfl, by rw [← hR]; exact Nat.le_of_ble_eq_true rfl⟩) ⟨fun a U g mk q => by obtain ⟨q0, q1, q2, qK, q10, q11, q12⟩ := q; exact ⟨q0, q1, q2, jG.calling g mk a qK, q10, q11, q12⟩, hh_7.recv (C := RJx4a65c) (T := TJx4a65c) (N := 3) hB1 rfl (by decide) hg_cache_3 hK, fun U hU hW => ⟨rfl, hU, hh_7.2.1, hG.step hW hU hh_7.1, hg_cache_3, (hh_7.2.2.1.sub (L1 := [(cache_3, 1, 2, .int lz_4)]) [0] rfl), trivial⟩⟩ rfl rfl hl.1 rfl (lv_room (Nat.le_of_ble_eq_true rfl)) dX11_remember_46 ⟨by rw [hRc]; show _ + 0 ≤ _; omega, by rw [hRs]; show _ + 0 ≤ _; omega⟩) hh_7.1 (fun q _ h => h) (fun q h => h) (fun r_11 u_10 t_10 H_10 locs_10 ht_10 hvm_10 hr_11 hb_10 hz_10 hk_10 hS_10 => ?_)
        rw [ht_10] at hb_10
        obtain ⟨hb_101, hb_102, hb_103, hb_104, hb_105⟩ := hb_10
        have hh_10 : jSt (dC, dI) B base G0 G0 EX11_remember s.heap 0 0 [(cache_3, 1, 2, .int lz_4), (r0, 13, 9, .ref cache_3)] [] [(jFl, jLs dC dI ca G0 3 none)] H_10 locs_10 := ((hh_7.call hb_101 hb_102 hb_103 hb_104 hS_10 rfl (L1 := [(cache_3, 1, 2, .int lz_4), (r0, 13, 9, .ref cache_3)]) [0, 1] rfl rfl (M1 := []) [] rfl rfl (I1 := [(jFl, jLs dC dI ca G0 3 none)]) [0] rfl rfl).more hb_105)
        clear hh_7 ht_10 hvm_10 hz_10 hk_10 hS_10 hb_101 hb_102 hb_103 hb_104 hb_105
        refine lv_icmp_ge (tgt := 68) hx hb dX11_remember_51 (by decide) (fun c_12 => ?_) (fun c_12 => ?_)
        · skip
          have c_12' : v2_6.toInt ≥ r_11.toInt := jb_ge (rfl) (rfl) c_12
          refine lv_aload_n hx hb dX11_remember_68 rfl (lv_at hl 0 rfl) ?_
          refine j7_read hx hb hown hK (C := RX11) (T := TX11) (N := 19) rfl hly_13_9 hlk_68 (hh_10.at 1 rfl) dX11_remember_69 ?_
          have hsz_13 := hh_10.2.2.2.2.2.1
          have htt_13 := hh_10.2.2.2.2.2.2.1
          refine W.room (fun hrc_13 hrs_13 => ?_)
          refine va_callFi (A0 := jA base) (H0 := s.heap) (va_runF (hK.1 1 _ rfl).2 (As := []) (rest := []) ⟨hx, hb, hml, hown, hts⟩ (uJx4a65c_size_8abf5 l dC dI ca base B hB hAp hB1 G0 H_10 cache_3 3 lz_4) (va_cwF 0 hts (jgF (jWr_27 _ (List.mem_of_getElem? (i := 22) rfl)) (jWr_27 _ (List.mem_of_getElem? (i := 23) rfl)) (jWr_28 _ (List.mem_of_getElem? (i := 0) rfl)) (jWr_2 _ (List.mem_of_getElem? (i := 13) rfl)) (jWr_28 _ (List.mem_of_getElem? (i := 1) rfl))) rfl rfl rfl hK7.2.2.2.2.2.1.1 ⟨by decide, by decide, by decide +kernel⟩ ⟨by rw [← hR]; exact Nat.le_of_ble_eq_true rfl, by rw [← hR]; exact Nat.le_of_ble_eq_true rfl⟩) ⟨fun a U g mk q => by obtain ⟨q0, q1, q2, qK, q10, q11, q12⟩ := q; exact ⟨q0, q1, q2, jG.calling g mk a qK, q10, q11, q12⟩, hh_10.recv (C := RJx4a65c) (T := TJx4a65c) (N := 3) hB1 rfl (by decide) hg_cache_3 hK, fun U hU hW => ⟨rfl, hU, hh_10.2.1, hG.step hW hU hh_10.1, hg_cache_3, (hh_10.2.2.1.sub (L1 := [(cache_3, 1, 2, .int lz_4)]) [0] rfl), trivial⟩⟩ rfl rfl hl.1 rfl (lv_room (Nat.le_of_ble_eq_true rfl)) dX11_remember_72 ⟨by rw [hRc]; show _ + 0 ≤ _; omega, by rw [hRs]; show _ + 0 ≤ _; omega⟩) hh_10.1 (fun q _ h => h) (fun q h => h) (fun r_14 u_13 t_13 H_13 locs_13 ht_13 hvm_13 hr_14 hb_13 hz_13 hk_13 hS_13 => ?_)
          rw [ht_13] at hb_13
          obtain ⟨hb_131, hb_132, hb_133, hb_134, hb_135⟩ := hb_13
          have hh_13 : jSt (dC, dI) B base G0 G0 EX11_remember s.heap 0 0 [(cache_3, 1, 2, .int lz_4), (r0, 13, 9, .ref cache_3)] [] [(jFl, jLs dC dI ca G0 3 none)] H_13 locs_13 := ((hh_10.call hb_131 hb_132 hb_133 hb_134 hS_13 rfl (L1 := [(cache_3, 1, 2, .int lz_4), (r0, 13, 9, .ref cache_3)]) [0, 1] rfl rfl (M1 := []) [] rfl rfl (I1 := [(jFl, jLs dC dI ca G0 3 none)]) [0] rfl rfl).more hb_135)
          clear hh_10 ht_13 hvm_13 hz_13 hk_13 hS_13 hb_131 hb_132 hb_133 hb_134 hb_135
          refine lv_bipush (v := 24) hx hb dX11_remember_77 (by decide) ?_
          refine lv_icmp_lt (tgt := 93) hx hb dX11_remember_79 (by decide) (fun c_15 => ?_) (fun c_15 => ?_)
          · skip
            have c_15' : r_14.toInt < 24 := jb_lt (rfl) ((by decide)) c_15
            refine lv_aload_n hx hb dX11_remember_93 rfl (lv_at hl 0 rfl) ?_
            refine j7_read hx hb hown hK (C := RX11) (T := TX11) (N := 19) rfl hly_13_9 hlk_68 (hh_13.at 1 rfl) dX11_remember_94 ?_
            refine lv_aload_n hx hb dX11_remember_97 rfl (lv_at hl 1 rfl) ?_
            have hsz_16 := hh_13.2.2.2.2.2.1
            have htt_16 := hh_13.2.2.2.2.2.2.1
            refine W.room (fun hrc_16 hrs_16 => ?_)
            refine va_callFi (A0 := jA base) (H0 := s.heap) (va_runF (hK.1 1 _ rfl).2 (As := [.ref r1]) (rest := []) ⟨hx, hb, hml, hown, hts⟩ (uJx4a65c_add_9ea2dL3 l dC dI ca base B hB hAp hB1 hB11 hB223 G0 H_13 cache_3 r1 lz_4 LC LS) (va_cwF 1 hts (jgF (jWr_33 _ (List.mem_of_getElem? (i := 7) rfl)) (jWr_33 _ (List.mem_of_getElem? (i := 8) rfl)) (jWr_33 _ (List.mem_of_getElem? (i := 9) rfl)) (jWr_2 _ (List.mem_of_getElem? (i := 13) rfl)) (jWr_33 _ (List.mem_of_getElem? (i := 10) rfl))) rfl rfl rfl hK7.2.2.2.2.2.1.2.2.1 ⟨by decide, by decide, by decide +kernel⟩ ⟨by rw [← hR]; exact Nat.le_of_ble_eq_true rfl, by rw [← hR]; exact Nat.le_of_ble_eq_true rfl⟩) ⟨fun a U g mk q => by obtain ⟨q0, q1, q2, qK, q10, q11, q12, q13, q14, q15⟩ := q; exact ⟨q0, q1, q2, jG.calling g mk a qK, (jK7.calling g mk a q10), q11, q12, q13, q14, q15⟩, hh_13.recv (C := RJx4a65c) (T := TJx4a65c) (N := 3) hB1 rfl (by decide) hg_cache_3 hK, fun U hU hW => ⟨rfl, hU, hh_13.2.1, hG.step hW hU hh_13.1, (hK7.step hW hU hh_13.1), hg_cache_3, hg_r1, (hh_13.2.2.1.sub (L1 := [(cache_3, 1, 2, .int lz_4)]) [0] rfl), (hh_13.2.2.2.2.2.2.2.2.sub (L1 := [(jFl, jLs dC dI ca G0 3 none)]) [0] rfl), by first | omega | (refine ⟨?_, ?_⟩ <;> (first | omega | rfl | assumption | decide | exact Or.inl rfl | exact Or.inr rfl | (simp only; omega)))⟩⟩ rfl rfl hl.1 rfl (lv_room (Nat.le_of_ble_eq_true rfl)) dX11_remember_98 ⟨by rw [hRc]; omega, by rw [hRs]; omega⟩) hh_13.1 (fun q _ h => h) (fun q h => h) (fun r_17 u_16 t_16 H_16 locs_16 ht_16 hvm_16 hr_17 hb_16 hz_16 hk_16 hS_16 => ?_)
            obtain ⟨qz_16, G_16⟩ := u_16
            rw [ht_16] at hb_16
            simp only at hb_16
            obtain ⟨⟨hb_161, hb_162, hb_163, hb_164, hb_165, hb_166⟩, hN_16, hbE_16⟩ := hb_16
            have hh_16 : jSt (dC, dI) B base G0 G_16 EX11_remember s.heap (0 + (1)) (0 + (40)) [(cache_3, 1, 2, .int qz_16), (r0, 13, 9, .ref cache_3)] [] [] H_16 locs_16 := (hh_13.callG hb_161 hb_162 hb_163 hb_164 hb_165 hS_16 rfl (L1 := [(r0, 13, 9, .ref cache_3)]) [1] rfl rfl (M1 := []) [] rfl rfl (I1 := []) [] rfl rfl).more hb_166
            have hNn_16 : (jNk [0, 1, 2, 3, 4, 5, 6, 7, 8, 9, 10, 11, 12, 13, 14, 15, 16]) G0 G_16 := (jNk.rf).tr hN_16
            have hg_18 := hb_162 _ _ hg_r0
            have hg_19 := hb_162 _ _ hg_r1
            have hg_20 := hb_162 _ _ hg_cache_3
            have hh_21 := hh_16.addIs hbE_16
            obtain ⟨hr_17b, hr_17p⟩ := hr_17
            try simp only at hr_17p
            have hr_17' := jb_01 hr_17b
            refine lv_pop hx hb dX11_remember_103 rfl ?_
            have hsz_22 := hh_21.2.2.2.2.2.1
            have htt_22 := hh_21.2.2.2.2.2.2.1
            refine W.room (fun hrc_22 hrs_22 => ?_)
            refine W.widen (k := LC - s.heap.size) (n := LS - jTot s.heap) (by omega) (by omega) ?_
            rw [hQ]
            exact W.vret hx hb hr (fun t ht hW => ⟨⟨G_16, rfl, trivial, ⟨hh_21.ra (by first | omega | (simp only; omega)) (by first | omega | (simp only; omega)) (M1 := []) [] rfl ht, hNn_16, by rw [ht]; exact hh_21.2.2.2.2.2.2.2.2.sub (L1 := [(jFl, jLs dC dI ca G_16 3 none)]) [0] rfl⟩⟩, by rw [ht]; try exact hh_21.1.1, fun q h9 hq => by rw [ht]; try exact hh_21.1.2.1 q h9 hq⟩) hh_21.1.2.2 dX11_remember_104
          · skip
            have c_15' : r_14.toInt ≥ 24 := jb_lt_n (rfl) ((by decide)) c_15
            refine lv_aload_n hx hb dX11_remember_82 rfl (lv_at hl 0 rfl) ?_
            refine j7_read hx hb hown hK (C := RX11) (T := TX11) (N := 19) rfl hly_13_9 hlk_68 (hh_13.at 1 rfl) dX11_remember_83 ?_
            refine lv_iconst (v := 0) hx hb dX11_remember_86 (by decide) ?_
            have hsz_23 := hh_13.2.2.2.2.2.1
            have htt_23 := hh_13.2.2.2.2.2.2.1
            refine W.room (fun hrc_23 hrs_23 => ?_)
            refine j_callFx (A0 := jA base) (H0 := s.heap) (va_runF (hK.1 1 _ rfl).2 (As := [.int 0]) (rest := []) ⟨hx, hb, hml, hown, hts⟩ (uJx4a65c_remove_915e3L3 l dC dI ca base B hB hAp hB1 hB11 hB223 G0 H_13 cache_3 0 lz_4) (va_cwF 1 hts (jgF (jWr_42 _ (List.mem_of_getElem? (i := 7) rfl)) (jWr_42 _ (List.mem_of_getElem? (i := 8) rfl)) (jWr_42 _ (List.mem_of_getElem? (i := 9) rfl)) (jWr_2 _ (List.mem_of_getElem? (i := 13) rfl)) (jWr_42 _ (List.mem_of_getElem? (i := 10) rfl))) rfl rfl rfl hK7.2.2.2.2.2.1.2.2.2 ⟨by decide, by decide, by decide +kernel⟩ ⟨by rw [← hR]; exact Nat.le_of_ble_eq_true rfl, by rw [← hR]; exact Nat.le_of_ble_eq_true rfl⟩) ⟨fun a U g mk q => by obtain ⟨q0, q1, q2, qK, q10, q11, q12, q13, q14⟩ := q; exact ⟨q0, q1, q2, jG.calling g mk a qK, (jK7.calling g mk a q10), q11, q12, q13, q14⟩, hh_13.recv (C := RJx4a65c) (T := TJx4a65c) (N := 3) hB1 rfl (by decide) hg_cache_3 hK, fun U hU hW => ⟨rfl, hU, hh_13.2.1, hG.step hW hU hh_13.1, (hK7.step hW hU hh_13.1), hg_cache_3, (hh_13.2.2.1.sub (L1 := [(cache_3, 1, 2, .int lz_4)]) [0] rfl), (hh_13.2.2.2.2.2.2.2.2.sub (L1 := [(jFl, jLs dC dI ca G0 3 none)]) [0] rfl), by first | omega | (refine ⟨?_, ?_⟩ <;> (first | omega | rfl | assumption | decide | exact Or.inl rfl | exact Or.inr rfl | (simp only; omega)))⟩⟩ rfl rfl hl.1 rfl (lv_room (Nat.le_of_ble_eq_true rfl)) dX11_remember_87 ⟨by rw [hRc]; show _ + 0 ≤ _; omega, by rw [hRs]; show _ + 0 ≤ _; omega⟩) hh_13.1 (fun q _ h => h) (fun q h => h) (fun r_24 u_23 t_23 H_23 locs_23 ht_23 hvm_23 hr_24 hb_23 hz_23 hk_23 hS_23 => ?_)
            obtain ⟨qz_23, rfl⟩ : ∃ z, z = u_23 := ⟨_, rfl⟩
            rw [ht_23] at hb_23
            obtain ⟨hb_23, hbE_23⟩ := hb_23
            obtain ⟨hb_23, hbO_23⟩ := hb_23
            obtain ⟨hb_231, hb_232, hb_233, hb_234, hb_235⟩ := hb_23
            have hh_23 : jSt (dC, dI) B base G0 G0 EX11_remember s.heap 0 0 [(cache_3, 1, 2, .int qz_23), (r0, 13, 9, .ref cache_3)] [] [(jFl, jLs dC dI ca G0 3 none)] H_23 locs_23 := (((hh_13.call hb_231 hb_232 hb_233 hb_234 hS_23 rfl (L1 := [(r0, 13, 9, .ref cache_3)]) [1] rfl rfl (M1 := []) [] rfl rfl (I1 := []) [] rfl rfl).more hb_235)).addIs hbE_23
            clear hh_13 ht_23 hvm_23 hz_23 hk_23 hS_23 hb_231 hb_232 hb_233 hb_234 hb_235
            clear  hbE_23
            obtain ⟨hr_24, hr_24p⟩ := hr_24
            obtain ⟨ret_25, rfl, hg_ret_25⟩ := hr_24
            refine lv_pop hx hb dX11_remember_92 rfl ?_
            refine lv_aload_n hx hb dX11_remember_93 rfl (lv_at hl 0 rfl) ?_
            refine j7_read hx hb hown hK (C := RX11) (T := TX11) (N := 19) rfl hly_13_9 hlk_68 (hh_23.at 1 rfl) dX11_remember_94 ?_
            refine lv_aload_n hx hb dX11_remember_97 rfl (lv_at hl 1 rfl) ?_
            have hsz_26 := hh_23.2.2.2.2.2.1
            have htt_26 := hh_23.2.2.2.2.2.2.1
            refine W.room (fun hrc_26 hrs_26 => ?_)
            refine va_callFi (A0 := jA base) (H0 := s.heap) (va_runF (hK.1 1 _ rfl).2 (As := [.ref r1]) (rest := []) ⟨hx, hb, hml, hown, hts⟩ (uJx4a65c_add_9ea2dL3 l dC dI ca base B hB hAp hB1 hB11 hB223 G0 H_23 cache_3 r1 qz_23 LC LS) (va_cwF 1 hts (jgF (jWr_33 _ (List.mem_of_getElem? (i := 7) rfl)) (jWr_33 _ (List.mem_of_getElem? (i := 8) rfl)) (jWr_33 _ (List.mem_of_getElem? (i := 9) rfl)) (jWr_2 _ (List.mem_of_getElem? (i := 13) rfl)) (jWr_33 _ (List.mem_of_getElem? (i := 10) rfl))) rfl rfl rfl hK7.2.2.2.2.2.1.2.2.1 ⟨by decide, by decide, by decide +kernel⟩ ⟨by rw [← hR]; exact Nat.le_of_ble_eq_true rfl, by rw [← hR]; exact Nat.le_of_ble_eq_true rfl⟩) ⟨fun a U g mk q => by obtain ⟨q0, q1, q2, qK, q10, q11, q12, q13, q14, q15⟩ := q; exact ⟨q0, q1, q2, jG.calling g mk a qK, (jK7.calling g mk a q10), q11, q12, q13, q14, q15⟩, hh_23.recv (C := RJx4a65c) (T := TJx4a65c) (N := 3) hB1 rfl (by decide) hg_cache_3 hK, fun U hU hW => ⟨rfl, hU, hh_23.2.1, hG.step hW hU hh_23.1, (hK7.step hW hU hh_23.1), hg_cache_3, hg_r1, (hh_23.2.2.1.sub (L1 := [(cache_3, 1, 2, .int qz_23)]) [0] rfl), (hh_23.2.2.2.2.2.2.2.2.sub (L1 := [(jFl, jLs dC dI ca G0 3 none)]) [0] rfl), by first | omega | (refine ⟨?_, ?_⟩ <;> (first | omega | rfl | assumption | decide | exact Or.inl rfl | exact Or.inr rfl | (simp only; omega)))⟩⟩ rfl rfl hl.1 rfl (lv_room (Nat.le_of_ble_eq_true rfl)) dX11_remember_98 ⟨by rw [hRc]; omega, by rw [hRs]; omega⟩) hh_23.1 (fun q _ h => h) (fun q h => h) (fun r_27 u_26 t_26 H_26 locs_26 ht_26 hvm_26 hr_27 hb_26 hz_26 hk_26 hS_26 => ?_)
            obtain ⟨qz_26, G_26⟩ := u_26
            rw [ht_26] at hb_26
            simp only at hb_26
            obtain ⟨⟨hb_261, hb_262, hb_263, hb_264, hb_265, hb_266⟩, hN_26, hbE_26⟩ := hb_26
            have hh_26 : jSt (dC, dI) B base G0 G_26 EX11_remember s.heap (0 + (1)) (0 + (40)) [(cache_3, 1, 2, .int qz_26), (r0, 13, 9, .ref cache_3)] [] [] H_26 locs_26 := (hh_23.callG hb_261 hb_262 hb_263 hb_264 hb_265 hS_26 rfl (L1 := [(r0, 13, 9, .ref cache_3)]) [1] rfl rfl (M1 := []) [] rfl rfl (I1 := []) [] rfl rfl).more hb_266
            have hNn_26 : (jNk [0, 1, 2, 3, 4, 5, 6, 7, 8, 9, 10, 11, 12, 13, 14, 15, 16]) G0 G_26 := (jNk.rf).tr hN_26
            have hg_28 := hb_262 _ _ hg_r0
            have hg_29 := hb_262 _ _ hg_r1
            have hg_30 := hb_262 _ _ hg_cache_3
            have hh_31 := hh_26.addIs hbE_26
            obtain ⟨hr_27b, hr_27p⟩ := hr_27
            try simp only at hr_27p
            have hr_27' := jb_01 hr_27b
            refine lv_pop hx hb dX11_remember_103 rfl ?_
            have hsz_32 := hh_31.2.2.2.2.2.1
            have htt_32 := hh_31.2.2.2.2.2.2.1
            refine W.room (fun hrc_32 hrs_32 => ?_)
            refine W.widen (k := LC - s.heap.size) (n := LS - jTot s.heap) (by omega) (by omega) ?_
            rw [hQ]
            exact W.vret hx hb hr (fun t ht hW => ⟨⟨G_26, rfl, trivial, ⟨hh_31.ra (by first | omega | (simp only; omega)) (by first | omega | (simp only; omega)) (M1 := []) [] rfl ht, hNn_26, by rw [ht]; exact hh_31.2.2.2.2.2.2.2.2.sub (L1 := [(jFl, jLs dC dI ca G_26 3 none)]) [0] rfl⟩⟩, by rw [ht]; try exact hh_31.1.1, fun q h9 hq => by rw [ht]; try exact hh_31.1.2.1 q h9 hq⟩) hh_31.1.2.2 dX11_remember_104
        · skip
          have c_12' : v2_6.toInt < r_11.toInt := jb_ge_n (rfl) (rfl) c_12
          refine lv_aload_n hx hb dX11_remember_54 rfl (lv_at hl 0 rfl) ?_
          refine j7_read hx hb hown hK (C := RX11) (T := TX11) (N := 19) rfl hly_13_9 hlk_68 (hh_10.at 1 rfl) dX11_remember_55 ?_
          refine lv_iload_n hx hb dX11_remember_58 rfl (lv_at hl 2 rfl) ?_
          have hsz_33 := hh_10.2.2.2.2.2.1
          have htt_33 := hh_10.2.2.2.2.2.2.1
          refine W.room (fun hrc_33 hrs_33 => ?_)
          refine j_callFx (A0 := jA base) (H0 := s.heap) (va_runF (hK.1 1 _ rfl).2 (As := [.int v2_6]) (rest := []) ⟨hx, hb, hml, hown, hts⟩ (uJx4a65c_remove_915e3L3 l dC dI ca base B hB hAp hB1 hB11 hB223 G0 H_10 cache_3 v2_6 lz_4) (va_cwF 1 hts (jgF (jWr_42 _ (List.mem_of_getElem? (i := 7) rfl)) (jWr_42 _ (List.mem_of_getElem? (i := 8) rfl)) (jWr_42 _ (List.mem_of_getElem? (i := 9) rfl)) (jWr_2 _ (List.mem_of_getElem? (i := 13) rfl)) (jWr_42 _ (List.mem_of_getElem? (i := 10) rfl))) rfl rfl rfl hK7.2.2.2.2.2.1.2.2.2 ⟨by decide, by decide, by decide +kernel⟩ ⟨by rw [← hR]; exact Nat.le_of_ble_eq_true rfl, by rw [← hR]; exact Nat.le_of_ble_eq_true rfl⟩) ⟨fun a U g mk q => by obtain ⟨q0, q1, q2, qK, q10, q11, q12, q13, q14⟩ := q; exact ⟨q0, q1, q2, jG.calling g mk a qK, (jK7.calling g mk a q10), q11, q12, q13, q14⟩, hh_10.recv (C := RJx4a65c) (T := TJx4a65c) (N := 3) hB1 rfl (by decide) hg_cache_3 hK, fun U hU hW => ⟨rfl, hU, hh_10.2.1, hG.step hW hU hh_10.1, (hK7.step hW hU hh_10.1), hg_cache_3, (hh_10.2.2.1.sub (L1 := [(cache_3, 1, 2, .int lz_4)]) [0] rfl), (hh_10.2.2.2.2.2.2.2.2.sub (L1 := [(jFl, jLs dC dI ca G0 3 none)]) [0] rfl), by first | omega | (refine ⟨?_, ?_⟩ <;> (first | omega | rfl | assumption | decide | exact Or.inl rfl | exact Or.inr rfl | (simp only; omega)))⟩⟩ rfl rfl hl.1 rfl (lv_room (Nat.le_of_ble_eq_true rfl)) dX11_remember_59 ⟨by rw [hRc]; show _ + 0 ≤ _; omega, by rw [hRs]; show _ + 0 ≤ _; omega⟩) hh_10.1 (fun q _ h => h) (fun q h => h) (fun r_34 u_33 t_33 H_33 locs_33 ht_33 hvm_33 hr_34 hb_33 hz_33 hk_33 hS_33 => ?_)
          obtain ⟨qz_33, rfl⟩ : ∃ z, z = u_33 := ⟨_, rfl⟩
          rw [ht_33] at hb_33
          obtain ⟨hb_33, hbE_33⟩ := hb_33
          obtain ⟨hb_33, hbO_33⟩ := hb_33
          obtain ⟨hb_331, hb_332, hb_333, hb_334, hb_335⟩ := hb_33
          have hh_33 : jSt (dC, dI) B base G0 G0 EX11_remember s.heap 0 0 [(cache_3, 1, 2, .int qz_33), (r0, 13, 9, .ref cache_3)] [] [(jFl, jLs dC dI ca G0 3 none)] H_33 locs_33 := (((hh_10.call hb_331 hb_332 hb_333 hb_334 hS_33 rfl (L1 := [(r0, 13, 9, .ref cache_3)]) [1] rfl rfl (M1 := []) [] rfl rfl (I1 := []) [] rfl rfl).more hb_335)).addIs hbE_33
          clear hh_10 ht_33 hvm_33 hz_33 hk_33 hS_33 hb_331 hb_332 hb_333 hb_334 hb_335
          clear  hbE_33
          obtain ⟨hr_34, hr_34p⟩ := hr_34
          obtain ⟨ret_35, rfl, hg_ret_35⟩ := hr_34
          refine lv_pop hx hb dX11_remember_64 rfl ?_
          refine lv_goto (tgt := 93) hx hb dX11_remember_65 (by decide) ?_
          refine lv_aload_n hx hb dX11_remember_93 rfl (lv_at hl 0 rfl) ?_
          refine j7_read hx hb hown hK (C := RX11) (T := TX11) (N := 19) rfl hly_13_9 hlk_68 (hh_33.at 1 rfl) dX11_remember_94 ?_
          refine lv_aload_n hx hb dX11_remember_97 rfl (lv_at hl 1 rfl) ?_
          have hsz_36 := hh_33.2.2.2.2.2.1
          have htt_36 := hh_33.2.2.2.2.2.2.1
          refine W.room (fun hrc_36 hrs_36 => ?_)
          refine va_callFi (A0 := jA base) (H0 := s.heap) (va_runF (hK.1 1 _ rfl).2 (As := [.ref r1]) (rest := []) ⟨hx, hb, hml, hown, hts⟩ (uJx4a65c_add_9ea2dL3 l dC dI ca base B hB hAp hB1 hB11 hB223 G0 H_33 cache_3 r1 qz_33 LC LS) (va_cwF 1 hts (jgF (jWr_33 _ (List.mem_of_getElem? (i := 7) rfl)) (jWr_33 _ (List.mem_of_getElem? (i := 8) rfl)) (jWr_33 _ (List.mem_of_getElem? (i := 9) rfl)) (jWr_2 _ (List.mem_of_getElem? (i := 13) rfl)) (jWr_33 _ (List.mem_of_getElem? (i := 10) rfl))) rfl rfl rfl hK7.2.2.2.2.2.1.2.2.1 ⟨by decide, by decide, by decide +kernel⟩ ⟨by rw [← hR]; exact Nat.le_of_ble_eq_true rfl, by rw [← hR]; exact Nat.le_of_ble_eq_true rfl⟩) ⟨fun a U g mk q => by obtain ⟨q0, q1, q2, qK, q10, q11, q12, q13, q14, q15⟩ := q; exact ⟨q0, q1, q2, jG.calling g mk a qK, (jK7.calling g mk a q10), q11, q12, q13, q14, q15⟩, hh_33.recv (C := RJx4a65c) (T := TJx4a65c) (N := 3) hB1 rfl (by decide) hg_cache_3 hK, fun U hU hW => ⟨rfl, hU, hh_33.2.1, hG.step hW hU hh_33.1, (hK7.step hW hU hh_33.1), hg_cache_3, hg_r1, (hh_33.2.2.1.sub (L1 := [(cache_3, 1, 2, .int qz_33)]) [0] rfl), (hh_33.2.2.2.2.2.2.2.2.sub (L1 := [(jFl, jLs dC dI ca G0 3 none)]) [0] rfl), by first | omega | (refine ⟨?_, ?_⟩ <;> (first | omega | rfl | assumption | decide | exact Or.inl rfl | exact Or.inr rfl | (simp only; omega)))⟩⟩ rfl rfl hl.1 rfl (lv_room (Nat.le_of_ble_eq_true rfl)) dX11_remember_98 ⟨by rw [hRc]; omega, by rw [hRs]; omega⟩) hh_33.1 (fun q _ h => h) (fun q h => h) (fun r_37 u_36 t_36 H_36 locs_36 ht_36 hvm_36 hr_37 hb_36 hz_36 hk_36 hS_36 => ?_)
          obtain ⟨qz_36, G_36⟩ := u_36
          rw [ht_36] at hb_36
          simp only at hb_36
          obtain ⟨⟨hb_361, hb_362, hb_363, hb_364, hb_365, hb_366⟩, hN_36, hbE_36⟩ := hb_36
          have hh_36 : jSt (dC, dI) B base G0 G_36 EX11_remember s.heap (0 + (1)) (0 + (40)) [(cache_3, 1, 2, .int qz_36), (r0, 13, 9, .ref cache_3)] [] [] H_36 locs_36 := (hh_33.callG hb_361 hb_362 hb_363 hb_364 hb_365 hS_36 rfl (L1 := [(r0, 13, 9, .ref cache_3)]) [1] rfl rfl (M1 := []) [] rfl rfl (I1 := []) [] rfl rfl).more hb_366
          have hNn_36 : (jNk [0, 1, 2, 3, 4, 5, 6, 7, 8, 9, 10, 11, 12, 13, 14, 15, 16]) G0 G_36 := (jNk.rf).tr hN_36
          have hg_38 := hb_362 _ _ hg_r0
          have hg_39 := hb_362 _ _ hg_r1
          have hg_40 := hb_362 _ _ hg_cache_3
          have hh_41 := hh_36.addIs hbE_36
          obtain ⟨hr_37b, hr_37p⟩ := hr_37
          try simp only at hr_37p
          have hr_37' := jb_01 hr_37b
          refine lv_pop hx hb dX11_remember_103 rfl ?_
          have hsz_42 := hh_41.2.2.2.2.2.1
          have htt_42 := hh_41.2.2.2.2.2.2.1
          refine W.room (fun hrc_42 hrs_42 => ?_)
          refine W.widen (k := LC - s.heap.size) (n := LS - jTot s.heap) (by omega) (by omega) ?_
          rw [hQ]
          exact W.vret hx hb hr (fun t ht hW => ⟨⟨G_36, rfl, trivial, ⟨hh_41.ra (by first | omega | (simp only; omega)) (by first | omega | (simp only; omega)) (M1 := []) [] rfl ht, hNn_36, by rw [ht]; exact hh_41.2.2.2.2.2.2.2.2.sub (L1 := [(jFl, jLs dC dI ca G_36 3 none)]) [0] rfl⟩⟩, by rw [ht]; try exact hh_41.1.1, fun q h9 hq => by rw [ht]; try exact hh_41.1.2.1 q h9 hq⟩) hh_41.1.2.2 dX11_remember_104
      · skip
        have c_9' : v2_6.toInt < r_8.toInt := jb_ge_n (rfl) (rfl) c_9
        refine lv_aload_n hx hb dX11_remember_15 rfl (lv_at hl 0 rfl) ?_
        refine j7_read hx hb hown hK (C := RX11) (T := TX11) (N := 19) rfl hly_13_9 hlk_68 (hh_7.at 1 rfl) dX11_remember_16 ?_
        refine lv_iload_n hx hb dX11_remember_19 rfl (lv_at hl 2 rfl) ?_
        have hsz_43 := hh_7.2.2.2.2.2.1
        have htt_43 := hh_7.2.2.2.2.2.2.1
        refine W.room (fun hrc_43 hrs_43 => ?_)
        refine j_callFx (A0 := jA base) (H0 := s.heap) (va_runF (hK.1 1 _ rfl).2 (As := [.int v2_6]) (rest := []) ⟨hx, hb, hml, hown, hts⟩ (uJx4a65c_get_915e3L3 l dC dI ca base B hB hAp hB1 hB11 hB223 G0 H_7 cache_3 v2_6 lz_4) (va_cwF 1 hts (jgF (jWr_28 _ (List.mem_of_getElem? (i := 3) rfl)) (jWr_28 _ (List.mem_of_getElem? (i := 4) rfl)) (jWr_28 _ (List.mem_of_getElem? (i := 5) rfl)) (jWr_2 _ (List.mem_of_getElem? (i := 13) rfl)) (jWr_28 _ (List.mem_of_getElem? (i := 6) rfl))) rfl rfl rfl hK7.2.2.2.2.2.1.2.1 ⟨by decide, by decide, by decide +kernel⟩ ⟨by rw [← hR]; exact Nat.le_of_ble_eq_true rfl, by rw [← hR]; exact Nat.le_of_ble_eq_true rfl⟩) ⟨fun a U g mk q => by obtain ⟨q0, q1, q2, qK, q10, q11, q12, q13, q14⟩ := q; exact ⟨q0, q1, q2, jG.calling g mk a qK, (jK7.calling g mk a q10), q11, q12, q13, q14⟩, hh_7.recv (C := RJx4a65c) (T := TJx4a65c) (N := 3) hB1 rfl (by decide) hg_cache_3 hK, fun U hU hW => ⟨rfl, hU, hh_7.2.1, hG.step hW hU hh_7.1, (hK7.step hW hU hh_7.1), hg_cache_3, (hh_7.2.2.1.sub (L1 := [(cache_3, 1, 2, .int lz_4)]) [0] rfl), (hh_7.2.2.2.2.2.2.2.2.sub (L1 := [(jFl, jLs dC dI ca G0 3 none)]) [0] rfl), by first | omega | (refine ⟨?_, ?_⟩ <;> (first | omega | rfl | assumption | decide | exact Or.inl rfl | exact Or.inr rfl | (simp only; omega)))⟩⟩ rfl rfl hl.1 rfl (lv_room (Nat.le_of_ble_eq_true rfl)) dX11_remember_20 ⟨by rw [hRc]; show _ + 0 ≤ _; omega, by rw [hRs]; show _ + 0 ≤ _; omega⟩) hh_7.1 (fun q _ h => h) (fun q h => h) (fun r_44 u_43 t_43 H_43 locs_43 ht_43 hvm_43 hr_44 hb_43 hz_43 hk_43 hS_43 => ?_)
        rw [ht_43] at hb_43
        obtain ⟨hb_43, hbE_43⟩ := hb_43
        obtain ⟨hb_431, hb_432, hb_433, hb_434, hb_435⟩ := hb_43
        have hh_43 : jSt (dC, dI) B base G0 G0 EX11_remember s.heap 0 0 [(cache_3, 1, 2, .int lz_4), (r0, 13, 9, .ref cache_3)] [] [(jFl, jLs dC dI ca G0 3 none)] H_43 locs_43 := (((hh_7.call hb_431 hb_432 hb_433 hb_434 hS_43 rfl (L1 := [(cache_3, 1, 2, .int lz_4), (r0, 13, 9, .ref cache_3)]) [0, 1] rfl rfl (M1 := []) [] rfl rfl (I1 := []) [] rfl rfl).more hb_435)).addIs hbE_43
        clear hh_7 ht_43 hvm_43 hz_43 hk_43 hS_43 hb_431 hb_432 hb_433 hb_434 hb_435
        clear  hbE_43
        obtain ⟨ret_45, rfl, hg_ret_45⟩ := hr_44
        refine va_castY hx hb hown (htw (.classLink RX11 189 "ProofServer$State") (jWr_77 _ (List.mem_of_getElem? (i := 12) rfl))) hK7.2.2.1.2.2.2 (hh_43.recv (C := RX9) (T := TX9) (N := 9) hB11 rfl (by decide) hg_ret_45 hK) dX11_remember_25 ?_
        refine lv_aload_n hx hb dX11_remember_28 rfl (lv_at hl 1 rfl) ?_
        have hsz_46 := hh_43.2.2.2.2.2.1
        have htt_46 := hh_43.2.2.2.2.2.2.1
        refine W.room (fun hrc_46 hrs_46 => ?_)
        refine va_calli (A0 := jA base) (H0 := s.heap) (va_runS (As := [.ref ret_45, .ref r1]) (rest := []) ⟨hx, hb, hml, hown, hts⟩ (uX9_isSameRow l dC dI ca base B hB hAp hB11 hB101 G0 H_43 ret_45 r1) (va_cwS 2 hts (jgS (jWr_77 _ (List.mem_of_getElem? (i := 18) rfl)) (jWr_77 _ (List.mem_of_getElem? (i := 19) rfl)) (jWr_4 _ (List.mem_of_getElem? (i := 18) rfl)) (jWr_77 _ (List.mem_of_getElem? (i := 20) rfl))) rfl rfl rfl (by decide +kernel) ⟨by rw [← hR]; exact Nat.le_of_ble_eq_true rfl, by rw [← hR]; exact Nat.le_of_ble_eq_true rfl⟩) ⟨fun a U g mk q => by obtain ⟨q0, q1, q2, qK, q10, q11, q12, q13⟩ := q; exact ⟨q0, q1, q2, jG.calling g mk a qK, q10, q11, q12, q13⟩, fun U hU hW => ⟨rfl, hU, hh_43.2.1, hG.step hW hU hh_43.1, hg_ret_45, hg_r1, jP.nil, trivial⟩⟩ rfl rfl hl.1 rfl (lv_room (Nat.le_of_ble_eq_true rfl)) dX11_remember_29 ⟨by rw [hRc]; show _ + 0 ≤ _; omega, by rw [hRs]; show _ + 0 ≤ _; omega⟩) hh_43.1 (fun q _ h => h) (fun q h => h) (fun r_47 u_46 t_46 H_46 locs_46 ht_46 hvm_46 hr_47 hb_46 hz_46 hk_46 hS_46 => ?_)
        rw [ht_46] at hb_46
        obtain ⟨hb_461, hb_462, hb_463, hb_464, hb_465⟩ := hb_46
        have hh_46 : jSt (dC, dI) B base G0 G0 EX11_remember s.heap 0 0 [(cache_3, 1, 2, .int lz_4), (r0, 13, 9, .ref cache_3)] [] [(jFl, jLs dC dI ca G0 3 none)] H_46 locs_46 := ((hh_43.call hb_461 hb_462 hb_463 hb_464 hS_46 rfl (L1 := [(cache_3, 1, 2, .int lz_4), (r0, 13, 9, .ref cache_3)]) [0, 1] rfl rfl (M1 := []) [] rfl rfl (I1 := [(jFl, jLs dC dI ca G0 3 none)]) [0] rfl rfl).more hb_465)
        clear hh_43 ht_46 hvm_46 hz_46 hk_46 hS_46 hb_461 hb_462 hb_463 hb_464 hb_465
        obtain ⟨hr_47b, hr_47p⟩ := hr_47
        have hr_47' := jb_01 hr_47b
        refine lv_if_ne (tgt := 41) hx hb dX11_remember_32 (by decide) (fun c_48 => ?_) (fun c_48 => ?_)
        · skip
          have c_48' : r_47.toInt ≠ 0 := jb_ne (rfl) ((by decide)) c_48
          refine lv_iload_n hx hb dX11_remember_41 rfl (lv_at hl 2 rfl) ?_
          refine lv_aload_n hx hb dX11_remember_42 rfl (lv_at hl 0 rfl) ?_
          refine j7_read hx hb hown hK (C := RX11) (T := TX11) (N := 19) rfl hly_13_9 hlk_68 (hh_46.at 1 rfl) dX11_remember_43 ?_
          have hsz_49 := hh_46.2.2.2.2.2.1
          have htt_49 := hh_46.2.2.2.2.2.2.1
          refine W.room (fun hrc_49 hrs_49 => ?_)
          refine va_callFi (A0 := jA base) (H0 := s.heap) (va_runF (hK.1 1 _ rfl).2 (As := []) (rest := [.int v2_6]) ⟨hx, hb, hml, hown, hts⟩ (uJx4a65c_size_8abf5 l dC dI ca base B hB hAp hB1 G0 H_46 cache_3 3 lz_4) (va_cwF 0 hts (jgF (jWr_27 _ (List.mem_of_getElem? (i := 22) rfl)) (jWr_27 _ (List.mem_of_getElem? (i := 23) rfl)) (jWr_28 _ (List.mem_of_getElem? (i := 0) rfl)) (jWr_2 _ (List.mem_of_getElem? (i := 13) rfl)) (jWr_28 _ (List.mem_of_getElem? (i := 1) rfl))) rfl rfl rfl hK7.2.2.2.2.2.1.1 ⟨by decide, by decide, by decide +kernel⟩ ⟨by rw [← hR]; exact Nat.le_of_ble_eq_true rfl, by rw [← hR]; exact Nat.le_of_ble_eq_true rfl⟩) ⟨fun a U g mk q => by obtain ⟨q0, q1, q2, qK, q10, q11, q12⟩ := q; exact ⟨q0, q1, q2, jG.calling g mk a qK, q10, q11, q12⟩, hh_46.recv (C := RJx4a65c) (T := TJx4a65c) (N := 3) hB1 rfl (by decide) hg_cache_3 hK, fun U hU hW => ⟨rfl, hU, hh_46.2.1, hG.step hW hU hh_46.1, hg_cache_3, (hh_46.2.2.1.sub (L1 := [(cache_3, 1, 2, .int lz_4)]) [0] rfl), trivial⟩⟩ rfl rfl hl.1 rfl (lv_room (Nat.le_of_ble_eq_true rfl)) dX11_remember_46 ⟨by rw [hRc]; show _ + 0 ≤ _; omega, by rw [hRs]; show _ + 0 ≤ _; omega⟩) hh_46.1 (fun q _ h => h) (fun q h => h) (fun r_50 u_49 t_49 H_49 locs_49 ht_49 hvm_49 hr_50 hb_49 hz_49 hk_49 hS_49 => ?_)
          rw [ht_49] at hb_49
          obtain ⟨hb_491, hb_492, hb_493, hb_494, hb_495⟩ := hb_49
          have hh_49 : jSt (dC, dI) B base G0 G0 EX11_remember s.heap 0 0 [(cache_3, 1, 2, .int lz_4), (r0, 13, 9, .ref cache_3)] [] [(jFl, jLs dC dI ca G0 3 none)] H_49 locs_49 := ((hh_46.call hb_491 hb_492 hb_493 hb_494 hS_49 rfl (L1 := [(cache_3, 1, 2, .int lz_4), (r0, 13, 9, .ref cache_3)]) [0, 1] rfl rfl (M1 := []) [] rfl rfl (I1 := [(jFl, jLs dC dI ca G0 3 none)]) [0] rfl rfl).more hb_495)
          clear hh_46 ht_49 hvm_49 hz_49 hk_49 hS_49 hb_491 hb_492 hb_493 hb_494 hb_495
          refine lv_icmp_ge (tgt := 68) hx hb dX11_remember_51 (by decide) (fun c_51 => ?_) (fun c_51 => ?_)
          · skip
            have c_51' : v2_6.toInt ≥ r_50.toInt := jb_ge (rfl) (rfl) c_51
            refine lv_aload_n hx hb dX11_remember_68 rfl (lv_at hl 0 rfl) ?_
            refine j7_read hx hb hown hK (C := RX11) (T := TX11) (N := 19) rfl hly_13_9 hlk_68 (hh_49.at 1 rfl) dX11_remember_69 ?_
            have hsz_52 := hh_49.2.2.2.2.2.1
            have htt_52 := hh_49.2.2.2.2.2.2.1
            refine W.room (fun hrc_52 hrs_52 => ?_)
            refine va_callFi (A0 := jA base) (H0 := s.heap) (va_runF (hK.1 1 _ rfl).2 (As := []) (rest := []) ⟨hx, hb, hml, hown, hts⟩ (uJx4a65c_size_8abf5 l dC dI ca base B hB hAp hB1 G0 H_49 cache_3 3 lz_4) (va_cwF 0 hts (jgF (jWr_27 _ (List.mem_of_getElem? (i := 22) rfl)) (jWr_27 _ (List.mem_of_getElem? (i := 23) rfl)) (jWr_28 _ (List.mem_of_getElem? (i := 0) rfl)) (jWr_2 _ (List.mem_of_getElem? (i := 13) rfl)) (jWr_28 _ (List.mem_of_getElem? (i := 1) rfl))) rfl rfl rfl hK7.2.2.2.2.2.1.1 ⟨by decide, by decide, by decide +kernel⟩ ⟨by rw [← hR]; exact Nat.le_of_ble_eq_true rfl, by rw [← hR]; exact Nat.le_of_ble_eq_true rfl⟩) ⟨fun a U g mk q => by obtain ⟨q0, q1, q2, qK, q10, q11, q12⟩ := q; exact ⟨q0, q1, q2, jG.calling g mk a qK, q10, q11, q12⟩, hh_49.recv (C := RJx4a65c) (T := TJx4a65c) (N := 3) hB1 rfl (by decide) hg_cache_3 hK, fun U hU hW => ⟨rfl, hU, hh_49.2.1, hG.step hW hU hh_49.1, hg_cache_3, (hh_49.2.2.1.sub (L1 := [(cache_3, 1, 2, .int lz_4)]) [0] rfl), trivial⟩⟩ rfl rfl hl.1 rfl (lv_room (Nat.le_of_ble_eq_true rfl)) dX11_remember_72 ⟨by rw [hRc]; show _ + 0 ≤ _; omega, by rw [hRs]; show _ + 0 ≤ _; omega⟩) hh_49.1 (fun q _ h => h) (fun q h => h) (fun r_53 u_52 t_52 H_52 locs_52 ht_52 hvm_52 hr_53 hb_52 hz_52 hk_52 hS_52 => ?_)
            rw [ht_52] at hb_52
            obtain ⟨hb_521, hb_522, hb_523, hb_524, hb_525⟩ := hb_52
            have hh_52 : jSt (dC, dI) B base G0 G0 EX11_remember s.heap 0 0 [(cache_3, 1, 2, .int lz_4), (r0, 13, 9, .ref cache_3)] [] [(jFl, jLs dC dI ca G0 3 none)] H_52 locs_52 := ((hh_49.call hb_521 hb_522 hb_523 hb_524 hS_52 rfl (L1 := [(cache_3, 1, 2, .int lz_4), (r0, 13, 9, .ref cache_3)]) [0, 1] rfl rfl (M1 := []) [] rfl rfl (I1 := [(jFl, jLs dC dI ca G0 3 none)]) [0] rfl rfl).more hb_525)
            clear hh_49 ht_52 hvm_52 hz_52 hk_52 hS_52 hb_521 hb_522 hb_523 hb_524 hb_525
            refine lv_bipush (v := 24) hx hb dX11_remember_77 (by decide) ?_
            refine lv_icmp_lt (tgt := 93) hx hb dX11_remember_79 (by decide) (fun c_54 => ?_) (fun c_54 => ?_)
            · skip
              have c_54' : r_53.toInt < 24 := jb_lt (rfl) ((by decide)) c_54
              refine lv_aload_n hx hb dX11_remember_93 rfl (lv_at hl 0 rfl) ?_
              refine j7_read hx hb hown hK (C := RX11) (T := TX11) (N := 19) rfl hly_13_9 hlk_68 (hh_52.at 1 rfl) dX11_remember_94 ?_
              refine lv_aload_n hx hb dX11_remember_97 rfl (lv_at hl 1 rfl) ?_
              have hsz_55 := hh_52.2.2.2.2.2.1
              have htt_55 := hh_52.2.2.2.2.2.2.1
              refine W.room (fun hrc_55 hrs_55 => ?_)
              refine va_callFi (A0 := jA base) (H0 := s.heap) (va_runF (hK.1 1 _ rfl).2 (As := [.ref r1]) (rest := []) ⟨hx, hb, hml, hown, hts⟩ (uJx4a65c_add_9ea2dL3 l dC dI ca base B hB hAp hB1 hB11 hB223 G0 H_52 cache_3 r1 lz_4 LC LS) (va_cwF 1 hts (jgF (jWr_33 _ (List.mem_of_getElem? (i := 7) rfl)) (jWr_33 _ (List.mem_of_getElem? (i := 8) rfl)) (jWr_33 _ (List.mem_of_getElem? (i := 9) rfl)) (jWr_2 _ (List.mem_of_getElem? (i := 13) rfl)) (jWr_33 _ (List.mem_of_getElem? (i := 10) rfl))) rfl rfl rfl hK7.2.2.2.2.2.1.2.2.1 ⟨by decide, by decide, by decide +kernel⟩ ⟨by rw [← hR]; exact Nat.le_of_ble_eq_true rfl, by rw [← hR]; exact Nat.le_of_ble_eq_true rfl⟩) ⟨fun a U g mk q => by obtain ⟨q0, q1, q2, qK, q10, q11, q12, q13, q14, q15⟩ := q; exact ⟨q0, q1, q2, jG.calling g mk a qK, (jK7.calling g mk a q10), q11, q12, q13, q14, q15⟩, hh_52.recv (C := RJx4a65c) (T := TJx4a65c) (N := 3) hB1 rfl (by decide) hg_cache_3 hK, fun U hU hW => ⟨rfl, hU, hh_52.2.1, hG.step hW hU hh_52.1, (hK7.step hW hU hh_52.1), hg_cache_3, hg_r1, (hh_52.2.2.1.sub (L1 := [(cache_3, 1, 2, .int lz_4)]) [0] rfl), (hh_52.2.2.2.2.2.2.2.2.sub (L1 := [(jFl, jLs dC dI ca G0 3 none)]) [0] rfl), by first | omega | (refine ⟨?_, ?_⟩ <;> (first | omega | rfl | assumption | decide | exact Or.inl rfl | exact Or.inr rfl | (simp only; omega)))⟩⟩ rfl rfl hl.1 rfl (lv_room (Nat.le_of_ble_eq_true rfl)) dX11_remember_98 ⟨by rw [hRc]; omega, by rw [hRs]; omega⟩) hh_52.1 (fun q _ h => h) (fun q h => h) (fun r_56 u_55 t_55 H_55 locs_55 ht_55 hvm_55 hr_56 hb_55 hz_55 hk_55 hS_55 => ?_)
              obtain ⟨qz_55, G_55⟩ := u_55
              rw [ht_55] at hb_55
              simp only at hb_55
              obtain ⟨⟨hb_551, hb_552, hb_553, hb_554, hb_555, hb_556⟩, hN_55, hbE_55⟩ := hb_55
              have hh_55 : jSt (dC, dI) B base G0 G_55 EX11_remember s.heap (0 + (1)) (0 + (40)) [(cache_3, 1, 2, .int qz_55), (r0, 13, 9, .ref cache_3)] [] [] H_55 locs_55 := (hh_52.callG hb_551 hb_552 hb_553 hb_554 hb_555 hS_55 rfl (L1 := [(r0, 13, 9, .ref cache_3)]) [1] rfl rfl (M1 := []) [] rfl rfl (I1 := []) [] rfl rfl).more hb_556
              have hNn_55 : (jNk [0, 1, 2, 3, 4, 5, 6, 7, 8, 9, 10, 11, 12, 13, 14, 15, 16]) G0 G_55 := (jNk.rf).tr hN_55
              have hg_57 := hb_552 _ _ hg_r0
              have hg_58 := hb_552 _ _ hg_r1
              have hg_59 := hb_552 _ _ hg_cache_3
              have hh_60 := hh_55.addIs hbE_55
              obtain ⟨hr_56b, hr_56p⟩ := hr_56
              try simp only at hr_56p
              have hr_56' := jb_01 hr_56b
              refine lv_pop hx hb dX11_remember_103 rfl ?_
              have hsz_61 := hh_60.2.2.2.2.2.1
              have htt_61 := hh_60.2.2.2.2.2.2.1
              refine W.room (fun hrc_61 hrs_61 => ?_)
              refine W.widen (k := LC - s.heap.size) (n := LS - jTot s.heap) (by omega) (by omega) ?_
              rw [hQ]
              exact W.vret hx hb hr (fun t ht hW => ⟨⟨G_55, rfl, trivial, ⟨hh_60.ra (by first | omega | (simp only; omega)) (by first | omega | (simp only; omega)) (M1 := []) [] rfl ht, hNn_55, by rw [ht]; exact hh_60.2.2.2.2.2.2.2.2.sub (L1 := [(jFl, jLs dC dI ca G_55 3 none)]) [0] rfl⟩⟩, by rw [ht]; try exact hh_60.1.1, fun q h9 hq => by rw [ht]; try exact hh_60.1.2.1 q h9 hq⟩) hh_60.1.2.2 dX11_remember_104
            · skip
              have c_54' : r_53.toInt ≥ 24 := jb_lt_n (rfl) ((by decide)) c_54
              refine lv_aload_n hx hb dX11_remember_82 rfl (lv_at hl 0 rfl) ?_
              refine j7_read hx hb hown hK (C := RX11) (T := TX11) (N := 19) rfl hly_13_9 hlk_68 (hh_52.at 1 rfl) dX11_remember_83 ?_
              refine lv_iconst (v := 0) hx hb dX11_remember_86 (by decide) ?_
              have hsz_62 := hh_52.2.2.2.2.2.1
              have htt_62 := hh_52.2.2.2.2.2.2.1
              refine W.room (fun hrc_62 hrs_62 => ?_)
              refine j_callFx (A0 := jA base) (H0 := s.heap) (va_runF (hK.1 1 _ rfl).2 (As := [.int 0]) (rest := []) ⟨hx, hb, hml, hown, hts⟩ (uJx4a65c_remove_915e3L3 l dC dI ca base B hB hAp hB1 hB11 hB223 G0 H_52 cache_3 0 lz_4) (va_cwF 1 hts (jgF (jWr_42 _ (List.mem_of_getElem? (i := 7) rfl)) (jWr_42 _ (List.mem_of_getElem? (i := 8) rfl)) (jWr_42 _ (List.mem_of_getElem? (i := 9) rfl)) (jWr_2 _ (List.mem_of_getElem? (i := 13) rfl)) (jWr_42 _ (List.mem_of_getElem? (i := 10) rfl))) rfl rfl rfl hK7.2.2.2.2.2.1.2.2.2 ⟨by decide, by decide, by decide +kernel⟩ ⟨by rw [← hR]; exact Nat.le_of_ble_eq_true rfl, by rw [← hR]; exact Nat.le_of_ble_eq_true rfl⟩) ⟨fun a U g mk q => by obtain ⟨q0, q1, q2, qK, q10, q11, q12, q13, q14⟩ := q; exact ⟨q0, q1, q2, jG.calling g mk a qK, (jK7.calling g mk a q10), q11, q12, q13, q14⟩, hh_52.recv (C := RJx4a65c) (T := TJx4a65c) (N := 3) hB1 rfl (by decide) hg_cache_3 hK, fun U hU hW => ⟨rfl, hU, hh_52.2.1, hG.step hW hU hh_52.1, (hK7.step hW hU hh_52.1), hg_cache_3, (hh_52.2.2.1.sub (L1 := [(cache_3, 1, 2, .int lz_4)]) [0] rfl), (hh_52.2.2.2.2.2.2.2.2.sub (L1 := [(jFl, jLs dC dI ca G0 3 none)]) [0] rfl), by first | omega | (refine ⟨?_, ?_⟩ <;> (first | omega | rfl | assumption | decide | exact Or.inl rfl | exact Or.inr rfl | (simp only; omega)))⟩⟩ rfl rfl hl.1 rfl (lv_room (Nat.le_of_ble_eq_true rfl)) dX11_remember_87 ⟨by rw [hRc]; show _ + 0 ≤ _; omega, by rw [hRs]; show _ + 0 ≤ _; omega⟩) hh_52.1 (fun q _ h => h) (fun q h => h) (fun r_63 u_62 t_62 H_62 locs_62 ht_62 hvm_62 hr_63 hb_62 hz_62 hk_62 hS_62 => ?_)
              obtain ⟨qz_62, rfl⟩ : ∃ z, z = u_62 := ⟨_, rfl⟩
              rw [ht_62] at hb_62
              obtain ⟨hb_62, hbE_62⟩ := hb_62
              obtain ⟨hb_62, hbO_62⟩ := hb_62
              obtain ⟨hb_621, hb_622, hb_623, hb_624, hb_625⟩ := hb_62
              have hh_62 : jSt (dC, dI) B base G0 G0 EX11_remember s.heap 0 0 [(cache_3, 1, 2, .int qz_62), (r0, 13, 9, .ref cache_3)] [] [(jFl, jLs dC dI ca G0 3 none)] H_62 locs_62 := (((hh_52.call hb_621 hb_622 hb_623 hb_624 hS_62 rfl (L1 := [(r0, 13, 9, .ref cache_3)]) [1] rfl rfl (M1 := []) [] rfl rfl (I1 := []) [] rfl rfl).more hb_625)).addIs hbE_62
              clear hh_52 ht_62 hvm_62 hz_62 hk_62 hS_62 hb_621 hb_622 hb_623 hb_624 hb_625
              clear  hbE_62
              obtain ⟨hr_63, hr_63p⟩ := hr_63
              obtain ⟨ret_64, rfl, hg_ret_64⟩ := hr_63
              refine lv_pop hx hb dX11_remember_92 rfl ?_
              refine lv_aload_n hx hb dX11_remember_93 rfl (lv_at hl 0 rfl) ?_
              refine j7_read hx hb hown hK (C := RX11) (T := TX11) (N := 19) rfl hly_13_9 hlk_68 (hh_62.at 1 rfl) dX11_remember_94 ?_
              refine lv_aload_n hx hb dX11_remember_97 rfl (lv_at hl 1 rfl) ?_
              have hsz_65 := hh_62.2.2.2.2.2.1
              have htt_65 := hh_62.2.2.2.2.2.2.1
              refine W.room (fun hrc_65 hrs_65 => ?_)
              refine va_callFi (A0 := jA base) (H0 := s.heap) (va_runF (hK.1 1 _ rfl).2 (As := [.ref r1]) (rest := []) ⟨hx, hb, hml, hown, hts⟩ (uJx4a65c_add_9ea2dL3 l dC dI ca base B hB hAp hB1 hB11 hB223 G0 H_62 cache_3 r1 qz_62 LC LS) (va_cwF 1 hts (jgF (jWr_33 _ (List.mem_of_getElem? (i := 7) rfl)) (jWr_33 _ (List.mem_of_getElem? (i := 8) rfl)) (jWr_33 _ (List.mem_of_getElem? (i := 9) rfl)) (jWr_2 _ (List.mem_of_getElem? (i := 13) rfl)) (jWr_33 _ (List.mem_of_getElem? (i := 10) rfl))) rfl rfl rfl hK7.2.2.2.2.2.1.2.2.1 ⟨by decide, by decide, by decide +kernel⟩ ⟨by rw [← hR]; exact Nat.le_of_ble_eq_true rfl, by rw [← hR]; exact Nat.le_of_ble_eq_true rfl⟩) ⟨fun a U g mk q => by obtain ⟨q0, q1, q2, qK, q10, q11, q12, q13, q14, q15⟩ := q; exact ⟨q0, q1, q2, jG.calling g mk a qK, (jK7.calling g mk a q10), q11, q12, q13, q14, q15⟩, hh_62.recv (C := RJx4a65c) (T := TJx4a65c) (N := 3) hB1 rfl (by decide) hg_cache_3 hK, fun U hU hW => ⟨rfl, hU, hh_62.2.1, hG.step hW hU hh_62.1, (hK7.step hW hU hh_62.1), hg_cache_3, hg_r1, (hh_62.2.2.1.sub (L1 := [(cache_3, 1, 2, .int qz_62)]) [0] rfl), (hh_62.2.2.2.2.2.2.2.2.sub (L1 := [(jFl, jLs dC dI ca G0 3 none)]) [0] rfl), by first | omega | (refine ⟨?_, ?_⟩ <;> (first | omega | rfl | assumption | decide | exact Or.inl rfl | exact Or.inr rfl | (simp only; omega)))⟩⟩ rfl rfl hl.1 rfl (lv_room (Nat.le_of_ble_eq_true rfl)) dX11_remember_98 ⟨by rw [hRc]; omega, by rw [hRs]; omega⟩) hh_62.1 (fun q _ h => h) (fun q h => h) (fun r_66 u_65 t_65 H_65 locs_65 ht_65 hvm_65 hr_66 hb_65 hz_65 hk_65 hS_65 => ?_)
              obtain ⟨qz_65, G_65⟩ := u_65
              rw [ht_65] at hb_65
              simp only at hb_65
              obtain ⟨⟨hb_651, hb_652, hb_653, hb_654, hb_655, hb_656⟩, hN_65, hbE_65⟩ := hb_65
              have hh_65 : jSt (dC, dI) B base G0 G_65 EX11_remember s.heap (0 + (1)) (0 + (40)) [(cache_3, 1, 2, .int qz_65), (r0, 13, 9, .ref cache_3)] [] [] H_65 locs_65 := (hh_62.callG hb_651 hb_652 hb_653 hb_654 hb_655 hS_65 rfl (L1 := [(r0, 13, 9, .ref cache_3)]) [1] rfl rfl (M1 := []) [] rfl rfl (I1 := []) [] rfl rfl).more hb_656
              have hNn_65 : (jNk [0, 1, 2, 3, 4, 5, 6, 7, 8, 9, 10, 11, 12, 13, 14, 15, 16]) G0 G_65 := (jNk.rf).tr hN_65
              have hg_67 := hb_652 _ _ hg_r0
              have hg_68 := hb_652 _ _ hg_r1
              have hg_69 := hb_652 _ _ hg_cache_3
              have hh_70 := hh_65.addIs hbE_65
              obtain ⟨hr_66b, hr_66p⟩ := hr_66
              try simp only at hr_66p
              have hr_66' := jb_01 hr_66b
              refine lv_pop hx hb dX11_remember_103 rfl ?_
              have hsz_71 := hh_70.2.2.2.2.2.1
              have htt_71 := hh_70.2.2.2.2.2.2.1
              refine W.room (fun hrc_71 hrs_71 => ?_)
              refine W.widen (k := LC - s.heap.size) (n := LS - jTot s.heap) (by omega) (by omega) ?_
              rw [hQ]
              exact W.vret hx hb hr (fun t ht hW => ⟨⟨G_65, rfl, trivial, ⟨hh_70.ra (by first | omega | (simp only; omega)) (by first | omega | (simp only; omega)) (M1 := []) [] rfl ht, hNn_65, by rw [ht]; exact hh_70.2.2.2.2.2.2.2.2.sub (L1 := [(jFl, jLs dC dI ca G_65 3 none)]) [0] rfl⟩⟩, by rw [ht]; try exact hh_70.1.1, fun q h9 hq => by rw [ht]; try exact hh_70.1.2.1 q h9 hq⟩) hh_70.1.2.2 dX11_remember_104
          · skip
            have c_51' : v2_6.toInt < r_50.toInt := jb_ge_n (rfl) (rfl) c_51
            refine lv_aload_n hx hb dX11_remember_54 rfl (lv_at hl 0 rfl) ?_
            refine j7_read hx hb hown hK (C := RX11) (T := TX11) (N := 19) rfl hly_13_9 hlk_68 (hh_49.at 1 rfl) dX11_remember_55 ?_
            refine lv_iload_n hx hb dX11_remember_58 rfl (lv_at hl 2 rfl) ?_
            have hsz_72 := hh_49.2.2.2.2.2.1
            have htt_72 := hh_49.2.2.2.2.2.2.1
            refine W.room (fun hrc_72 hrs_72 => ?_)
            refine j_callFx (A0 := jA base) (H0 := s.heap) (va_runF (hK.1 1 _ rfl).2 (As := [.int v2_6]) (rest := []) ⟨hx, hb, hml, hown, hts⟩ (uJx4a65c_remove_915e3L3 l dC dI ca base B hB hAp hB1 hB11 hB223 G0 H_49 cache_3 v2_6 lz_4) (va_cwF 1 hts (jgF (jWr_42 _ (List.mem_of_getElem? (i := 7) rfl)) (jWr_42 _ (List.mem_of_getElem? (i := 8) rfl)) (jWr_42 _ (List.mem_of_getElem? (i := 9) rfl)) (jWr_2 _ (List.mem_of_getElem? (i := 13) rfl)) (jWr_42 _ (List.mem_of_getElem? (i := 10) rfl))) rfl rfl rfl hK7.2.2.2.2.2.1.2.2.2 ⟨by decide, by decide, by decide +kernel⟩ ⟨by rw [← hR]; exact Nat.le_of_ble_eq_true rfl, by rw [← hR]; exact Nat.le_of_ble_eq_true rfl⟩) ⟨fun a U g mk q => by obtain ⟨q0, q1, q2, qK, q10, q11, q12, q13, q14⟩ := q; exact ⟨q0, q1, q2, jG.calling g mk a qK, (jK7.calling g mk a q10), q11, q12, q13, q14⟩, hh_49.recv (C := RJx4a65c) (T := TJx4a65c) (N := 3) hB1 rfl (by decide) hg_cache_3 hK, fun U hU hW => ⟨rfl, hU, hh_49.2.1, hG.step hW hU hh_49.1, (hK7.step hW hU hh_49.1), hg_cache_3, (hh_49.2.2.1.sub (L1 := [(cache_3, 1, 2, .int lz_4)]) [0] rfl), (hh_49.2.2.2.2.2.2.2.2.sub (L1 := [(jFl, jLs dC dI ca G0 3 none)]) [0] rfl), by first | omega | (refine ⟨?_, ?_⟩ <;> (first | omega | rfl | assumption | decide | exact Or.inl rfl | exact Or.inr rfl | (simp only; omega)))⟩⟩ rfl rfl hl.1 rfl (lv_room (Nat.le_of_ble_eq_true rfl)) dX11_remember_59 ⟨by rw [hRc]; show _ + 0 ≤ _; omega, by rw [hRs]; show _ + 0 ≤ _; omega⟩) hh_49.1 (fun q _ h => h) (fun q h => h) (fun r_73 u_72 t_72 H_72 locs_72 ht_72 hvm_72 hr_73 hb_72 hz_72 hk_72 hS_72 => ?_)
            obtain ⟨qz_72, rfl⟩ : ∃ z, z = u_72 := ⟨_, rfl⟩
            rw [ht_72] at hb_72
            obtain ⟨hb_72, hbE_72⟩ := hb_72
            obtain ⟨hb_72, hbO_72⟩ := hb_72
            obtain ⟨hb_721, hb_722, hb_723, hb_724, hb_725⟩ := hb_72
            have hh_72 : jSt (dC, dI) B base G0 G0 EX11_remember s.heap 0 0 [(cache_3, 1, 2, .int qz_72), (r0, 13, 9, .ref cache_3)] [] [(jFl, jLs dC dI ca G0 3 none)] H_72 locs_72 := (((hh_49.call hb_721 hb_722 hb_723 hb_724 hS_72 rfl (L1 := [(r0, 13, 9, .ref cache_3)]) [1] rfl rfl (M1 := []) [] rfl rfl (I1 := []) [] rfl rfl).more hb_725)).addIs hbE_72
            clear hh_49 ht_72 hvm_72 hz_72 hk_72 hS_72 hb_721 hb_722 hb_723 hb_724 hb_725
            clear  hbE_72
            obtain ⟨hr_73, hr_73p⟩ := hr_73
            obtain ⟨ret_74, rfl, hg_ret_74⟩ := hr_73
            refine lv_pop hx hb dX11_remember_64 rfl ?_
            refine lv_goto (tgt := 93) hx hb dX11_remember_65 (by decide) ?_
            refine lv_aload_n hx hb dX11_remember_93 rfl (lv_at hl 0 rfl) ?_
            refine j7_read hx hb hown hK (C := RX11) (T := TX11) (N := 19) rfl hly_13_9 hlk_68 (hh_72.at 1 rfl) dX11_remember_94 ?_
            refine lv_aload_n hx hb dX11_remember_97 rfl (lv_at hl 1 rfl) ?_
            have hsz_75 := hh_72.2.2.2.2.2.1
            have htt_75 := hh_72.2.2.2.2.2.2.1
            refine W.room (fun hrc_75 hrs_75 => ?_)
            refine va_callFi (A0 := jA base) (H0 := s.heap) (va_runF (hK.1 1 _ rfl).2 (As := [.ref r1]) (rest := []) ⟨hx, hb, hml, hown, hts⟩ (uJx4a65c_add_9ea2dL3 l dC dI ca base B hB hAp hB1 hB11 hB223 G0 H_72 cache_3 r1 qz_72 LC LS) (va_cwF 1 hts (jgF (jWr_33 _ (List.mem_of_getElem? (i := 7) rfl)) (jWr_33 _ (List.mem_of_getElem? (i := 8) rfl)) (jWr_33 _ (List.mem_of_getElem? (i := 9) rfl)) (jWr_2 _ (List.mem_of_getElem? (i := 13) rfl)) (jWr_33 _ (List.mem_of_getElem? (i := 10) rfl))) rfl rfl rfl hK7.2.2.2.2.2.1.2.2.1 ⟨by decide, by decide, by decide +kernel⟩ ⟨by rw [← hR]; exact Nat.le_of_ble_eq_true rfl, by rw [← hR]; exact Nat.le_of_ble_eq_true rfl⟩) ⟨fun a U g mk q => by obtain ⟨q0, q1, q2, qK, q10, q11, q12, q13, q14, q15⟩ := q; exact ⟨q0, q1, q2, jG.calling g mk a qK, (jK7.calling g mk a q10), q11, q12, q13, q14, q15⟩, hh_72.recv (C := RJx4a65c) (T := TJx4a65c) (N := 3) hB1 rfl (by decide) hg_cache_3 hK, fun U hU hW => ⟨rfl, hU, hh_72.2.1, hG.step hW hU hh_72.1, (hK7.step hW hU hh_72.1), hg_cache_3, hg_r1, (hh_72.2.2.1.sub (L1 := [(cache_3, 1, 2, .int qz_72)]) [0] rfl), (hh_72.2.2.2.2.2.2.2.2.sub (L1 := [(jFl, jLs dC dI ca G0 3 none)]) [0] rfl), by first | omega | (refine ⟨?_, ?_⟩ <;> (first | omega | rfl | assumption | decide | exact Or.inl rfl | exact Or.inr rfl | (simp only; omega)))⟩⟩ rfl rfl hl.1 rfl (lv_room (Nat.le_of_ble_eq_true rfl)) dX11_remember_98 ⟨by rw [hRc]; omega, by rw [hRs]; omega⟩) hh_72.1 (fun q _ h => h) (fun q h => h) (fun r_76 u_75 t_75 H_75 locs_75 ht_75 hvm_75 hr_76 hb_75 hz_75 hk_75 hS_75 => ?_)
            obtain ⟨qz_75, G_75⟩ := u_75
            rw [ht_75] at hb_75
            simp only at hb_75
            obtain ⟨⟨hb_751, hb_752, hb_753, hb_754, hb_755, hb_756⟩, hN_75, hbE_75⟩ := hb_75
            have hh_75 : jSt (dC, dI) B base G0 G_75 EX11_remember s.heap (0 + (1)) (0 + (40)) [(cache_3, 1, 2, .int qz_75), (r0, 13, 9, .ref cache_3)] [] [] H_75 locs_75 := (hh_72.callG hb_751 hb_752 hb_753 hb_754 hb_755 hS_75 rfl (L1 := [(r0, 13, 9, .ref cache_3)]) [1] rfl rfl (M1 := []) [] rfl rfl (I1 := []) [] rfl rfl).more hb_756
            have hNn_75 : (jNk [0, 1, 2, 3, 4, 5, 6, 7, 8, 9, 10, 11, 12, 13, 14, 15, 16]) G0 G_75 := (jNk.rf).tr hN_75
            have hg_77 := hb_752 _ _ hg_r0
            have hg_78 := hb_752 _ _ hg_r1
            have hg_79 := hb_752 _ _ hg_cache_3
            have hh_80 := hh_75.addIs hbE_75
            obtain ⟨hr_76b, hr_76p⟩ := hr_76
            try simp only at hr_76p
            have hr_76' := jb_01 hr_76b
            refine lv_pop hx hb dX11_remember_103 rfl ?_
            have hsz_81 := hh_80.2.2.2.2.2.1
            have htt_81 := hh_80.2.2.2.2.2.2.1
            refine W.room (fun hrc_81 hrs_81 => ?_)
            refine W.widen (k := LC - s.heap.size) (n := LS - jTot s.heap) (by omega) (by omega) ?_
            rw [hQ]
            exact W.vret hx hb hr (fun t ht hW => ⟨⟨G_75, rfl, trivial, ⟨hh_80.ra (by first | omega | (simp only; omega)) (by first | omega | (simp only; omega)) (M1 := []) [] rfl ht, hNn_75, by rw [ht]; exact hh_80.2.2.2.2.2.2.2.2.sub (L1 := [(jFl, jLs dC dI ca G_75 3 none)]) [0] rfl⟩⟩, by rw [ht]; try exact hh_80.1.1, fun q h9 hq => by rw [ht]; try exact hh_80.1.2.1 q h9 hq⟩) hh_80.1.2.2 dX11_remember_104
        · skip
          have c_48' : r_47.toInt = 0 := jb_ne_n (rfl) ((by decide)) c_48
          obtain ⟨z_82, ez_82⟩ : ∃ y : Int32, y = v2_6 + 1 := ⟨_, rfl⟩
          refine lv_iinc (v := z_82) (lv' := [(2, .int z_82), (0, .ref r0), (1, .ref r1)]) hx hb dX11_remember_35 hl (k := 2) rfl (by rw [ez_82]; rfl) (by decide) rfl (fun ls hl => ?_)
          have hz_82 : z_82.toInt = v2_6.toInt + 1 := by rw [ez_82]; exact jb_iadd2 (rfl) (by decide) (by omega)
          refine lv_goto (tgt := 2) hx hb dX11_remember_38 (by decide) ?_
          refine W.tight (c2 := 0) (n2 := 0) hh_46.2.2.2.2.2.1 hh_46.2.2.2.2.2.2.1 ?_
          exact L2 z_82 _ _ hh_46 (by first | omega | (refine ⟨?_, ?_⟩ <;> (first | omega | rfl | assumption | decide | exact Or.inl rfl | exact Or.inr rfl | (simp only; omega)))) (by omega) _ (lv_sub hl [1, 2, 0] rfl)
  refine W.tight (c2 := 0) (n2 := 0) hh_5.2.2.2.2.2.1 hh_5.2.2.2.2.2.2.1 ?_
  exact L2 (41 - (0 : Int32).toInt : Int).toNat.succ 0 _ _ hh_5 (by first | omega | (refine ⟨?_, ?_⟩ <;> (first | omega | rfl | assumption | decide | exact Or.inl rfl | exact Or.inr rfl | (simp only; omega)))) (by omega) _ (lv_sub hl [1, 2, 0] rfl)
