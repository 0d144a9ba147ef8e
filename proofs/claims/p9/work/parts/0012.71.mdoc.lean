section
def F14 (n : Nat) (G : jT) : List (Value → Prop) := [jRf G 195 40, jI 0 40, jIa, jRf G 194 1500, jI 0 1500, jI 0 40, jRf G 190 40, jRf G 191 40, jRf G 192 40, jI 0 40, jRf G 193 40]
theorem dX14_position_0 : decode cX14_position 0 = .ok (.iconst 0, 1) := by decide +kernel
theorem dX14_position_1 : decode cX14_position 1 = .ok (.istore_n 3, 1) := by decide +kernel
theorem dX14_position_2 : decode cX14_position 2 = .ok (.iconst 0, 1) := by decide +kernel
theorem dX14_position_3 : decode cX14_position 3 = .ok (.istore 4, 2) := by decide +kernel
theorem dX14_position_5 : decode cX14_position 5 = .ok (.aload_n 1, 1) := by decide +kernel
theorem dX14_position_6 : decode cX14_position 6 = .ok (.getfield 529, 3) := by decide +kernel
theorem dX14_position_9 : decode cX14_position 9 = .ok (.aload_n 1, 1) := by decide +kernel
theorem dX14_position_10 : decode cX14_position 10 = .ok (.getfield 526, 3) := by decide +kernel
theorem dX14_position_13 : decode cX14_position 13 = .ok (.iconst 1, 1) := by decide +kernel
theorem dX14_position_14 : decode cX14_position 14 = .ok (.invokestatic 541, 3) := by decide +kernel
theorem dX14_position_17 : decode cX14_position 17 = .ok (.istore 5, 2) := by decide +kernel
theorem dX14_position_19 : decode cX14_position 19 = .ok (.iload 5, 2) := by decide +kernel
theorem dX14_position_21 : decode cX14_position 21 = .ok (.ifCond .lt 35, 3) := by decide +kernel
theorem dX14_position_24 : decode cX14_position 24 = .ok (.iload 5, 2) := by decide +kernel
theorem dX14_position_26 : decode cX14_position 26 = .ok (.iload_n 2, 1) := by decide +kernel
theorem dX14_position_27 : decode cX14_position 27 = .ok (.if_icmp .gt 29, 3) := by decide +kernel
theorem dX14_position_30 : decode cX14_position 30 = .ok (.iinc 3 1, 3) := by decide +kernel
theorem dX14_position_33 : decode cX14_position 33 = .ok (.iload 5, 2) := by decide +kernel
theorem dX14_position_35 : decode cX14_position 35 = .ok (.istore 4, 2) := by decide +kernel
theorem dX14_position_37 : decode cX14_position 37 = .ok (.aload_n 1, 1) := by decide +kernel
theorem dX14_position_38 : decode cX14_position 38 = .ok (.getfield 529, 3) := by decide +kernel
theorem dX14_position_41 : decode cX14_position 41 = .ok (.aload_n 1, 1) := by decide +kernel
theorem dX14_position_42 : decode cX14_position 42 = .ok (.getfield 526, 3) := by decide +kernel
theorem dX14_position_45 : decode cX14_position 45 = .ok (.iload_n 3, 1) := by decide +kernel
theorem dX14_position_46 : decode cX14_position 46 = .ok (.iconst 1, 1) := by decide +kernel
theorem dX14_position_47 : decode cX14_position 47 = .ok (.iadd, 1) := by decide +kernel
theorem dX14_position_48 : decode cX14_position 48 = .ok (.invokestatic 541, 3) := by decide +kernel
theorem dX14_position_51 : decode cX14_position 51 = .ok (.istore 5, 2) := by decide +kernel
theorem dX14_position_53 : decode cX14_position 53 = .ok (.goto (-34), 3) := by decide +kernel
theorem dX14_position_56 : decode cX14_position 56 = .ok (.aload_n 0, 1) := by decide +kernel
theorem dX14_position_57 : decode cX14_position 57 = .ok (.ldc_w 730, 3) := by decide +kernel
theorem dX14_position_60 : decode cX14_position 60 = .ok (.invokevirtual 189, 3) := by decide +kernel
theorem dX14_position_63 : decode cX14_position 63 = .ok (.aload_n 0, 1) := by decide +kernel
theorem dX14_position_64 : decode cX14_position 64 = .ok (.iload_n 3, 1) := by decide +kernel
theorem dX14_position_65 : decode cX14_position 65 = .ok (.invokevirtual 208, 3) := by decide +kernel
theorem dX14_position_68 : decode cX14_position 68 = .ok (.aload_n 0, 1) := by decide +kernel
theorem dX14_position_69 : decode cX14_position 69 = .ok (.ldc_w 732, 3) := by decide +kernel
theorem dX14_position_72 : decode cX14_position 72 = .ok (.invokevirtual 189, 3) := by decide +kernel
theorem dX14_position_75 : decode cX14_position 75 = .ok (.aload_n 0, 1) := by decide +kernel
theorem dX14_position_76 : decode cX14_position 76 = .ok (.iload_n 2, 1) := by decide +kernel
theorem dX14_position_77 : decode cX14_position 77 = .ok (.iload 4, 2) := by decide +kernel
theorem dX14_position_79 : decode cX14_position 79 = .ok (.isub, 1) := by decide +kernel
theorem dX14_position_80 : decode cX14_position 80 = .ok (.invokevirtual 208, 3) := by decide +kernel
theorem dX14_position_83 : decode cX14_position 83 = .ok (.aload_n 0, 1) := by decide +kernel
theorem dX14_position_84 : decode cX14_position 84 = .ok (.bipush 125, 2) := by decide +kernel
theorem dX14_position_86 : decode cX14_position 86 = .ok (.invokevirtual 172, 3) := by decide +kernel
theorem dX14_position_89 : decode cX14_position 89 = .ok (.return_, 1) := by decide +kernel
def EX14_position : List (Nat × Nat) := [(16, 6), (101, 0)]
set_option maxHeartbeats 4000000 in
set_option maxRecDepth 20000 in
theorem uX14_position (l : Launch) (dC : Nat → ClassId) (dI : Nat → Nat → Nat) (ca : Nat → ClassId) (base : Nat) (B : jF) (hB : jBok B) (hAp : jAp (dC, dI)) (hB14 : ∀ n G a H, B 14 n G a H ↔ jOb (dC, dI) 14 11 (F14 n G) a H) (hB16 : ∀ n G a H, B 16 n G a H ↔ jOb (dC, dI) 16 74 (F16 n G) a H) (hB101 : ∀ n G a H, B 101 n G a H ↔ jAr (dC, dI) (ca 1) (fun j z => True) n a H) (hB194 : ∀ n G a H, B 194 n G a H ↔ jAr (dC, dI) (ca 1) (fun j z => True) n a H) (G0 : jT) (H0 : Heap) (r0 : Nat) (r1 : Nat) (a2 : Int32) : Met l yX14_position (jw yX14_position cX14_position 6 none) ({ frames := 12, cells := 0, slots := 0, locals := 462 }) (va_Pc [.ref r0, .ref r1, .int a2] (fun U => U.heap = H0 ∧ jX B base G0 [] H0 ∧ jG dC dI ca base U ∧ G0 r1 = some (14, 0) ∧ G0 r0 = some (16, 0) ∧ jP (dC, dI) G0 H0 [] ∧ 0 ≤ a2.toInt ∧ a2.toInt ≤ 1500)) (va_Qv (S := Unit) (fun u => True) (fun u t => jRt (dC, dI) B base G0 EX14_position H0 [] t.heap) (jA base)) 0 0 (jA base) := by
  refine Met.ofW (cc := cX14_position) (maxL := 6) (ret := none) (by decide) rfl ?_
  intro p e s m args below meth c s₁ Bd hml hv
  obtain ⟨rfl, hH0, hX, hG, hg_r1, hg_r0, hP0, hp0, hp1⟩ := hv
  have hK := hG.1
  have hx := Bd.exec
  have hb := Bd.bytes
  have hr := Bd.returns
  have hts := atoms_spec (ws := (jw yX14_position cX14_position 6 none)) Bd.pre
  have htw : ∀ w ∈ jWl, w.before _ s = true := fun w h => hts w (List.mem_cons_of_mem _ h)
  have hown : s.vm.findClass RX14 = some m.cls := findClass_of_methodNamed Bd.named
  have hlocks := Bd.notSynchronized
  obtain ⟨Q, hQ⟩ : ∃ Q, Q = MQ below (va_Qv (S := Unit) (fun u => True) (fun u t => jRt (dC, dI) B base G0 EX14_position H0 [] t.heap) (jA base)) ([.ref r0, .ref r1, .int a2] : List Value).toArray s 0 0 (jA base) := ⟨_, rfl⟩
  rw [← hQ]
  have hl := lv_entry ([.ref r0, .ref r1, .int a2]) (n := 6) (Nat.le_of_ble_eq_true rfl)
  rw [lg_entry_eq]
  generalize (lg_sl ([.ref r0, .ref r1, .int a2]) ++ List.replicate (6 - (lg_sl ([.ref r0, .ref r1, .int a2])).length) Slot.unset).toArray = ls at hl ⊢
  have hl : lv_has ls 6 [(0, .ref r0), (1, .ref r1), (2, .int a2)] := hl
  generalize hR : (headSpec (jw yX14_position cX14_position 6 none) ({ frames := 12, cells := 0, slots := 0, locals := 462 })).room = R
  subst hH0
  have hh : jSt (dC, dI) B base G0 G0 EX14_position s.heap 0 0 [] [] [] s.heap [] := jSt.start hX hP0 jMc.nil jIs.nil
  clear hX hP0
  have hk0 : (0 : Int32).toInt = 0 := by decide
  have hk1 : (1 : Int32).toInt = 1 := by decide
  have hk125 : (125 : Int32).toInt = 125 := by decide
  have hly_14_3 := htw (u_lay RX12 TX12 3) (jWc_wsX120 _ (u_in_lay (by decide)))
  have hly_14_4 := htw (u_lay RX12 TX12 4) (jWc_wsX120 _ (u_in_lay (by decide)))
  have hlk_529 := (va_Nw.use (A := ([.ref r0, .ref r1, .int a2] : List Value).toArray) rfl (hG.2.1 RX14 529 "ProofServerModel$Document" "text" "[I" "ProofServerModel" (List.mem_of_getElem? (i := 1735) (by decide +kernel))))
  have hlk_526 := (va_Nw.use (A := ([.ref r0, .ref r1, .int a2] : List Value).toArray) rfl (hG.2.1 RX14 526 "ProofServerModel$Document" "units" "I" "ProofServerModel" (List.mem_of_getElem? (i := 1736) (by decide +kernel))))
  obtain ⟨str730, rstr730, hstr7300⟩ := hG.str (o := RX14) (k := 730) (tx := "{\"line\":") (List.mem_of_getElem? (i := 2534) (by decide +kernel))
  have hstr730 : jStr base str730 8 s s.heap := hstr7300
  obtain ⟨str732, rstr732, hstr7320⟩ := hG.str (o := RX14) (k := 732) (tx := ",\"character\":") (List.mem_of_getElem? (i := 2535) (by decide +kernel))
  have hstr732 : jStr base str732 13 s s.heap := hstr7320
  have hrg_a2 := jb_rng a2
  refine lv_iconst (v := 0) hx hb dX14_position_0 (by decide) ?_
  refine lv_istore_n (lv' := [(3, .int 0), (0, .ref r0), (1, .ref r1), (2, .int a2)]) hx hb dX14_position_1 rfl hl (by decide) rfl (fun ls hl => ?_)
  refine lv_iconst (v := 0) hx hb dX14_position_2 (by decide) ?_
  refine lv_istore (lv' := [(4, .int 0), (3, .int 0), (0, .ref r0), (1, .ref r1), (2, .int a2)]) hx hb dX14_position_3 hl (by decide) rfl (fun ls hl => ?_)
  refine lv_aload_n hx hb dX14_position_5 rfl (lv_at hl 3 rfl) ?_
  obtain ⟨v_1, hv_1, hh_2⟩ := hh.pin (C := RX12) (T := TX12) (N := 11) hB14 rfl (by decide) hg_r1 (i := 3) (by decide) rfl
  clear hh
  obtain ⟨text_3, rfl, hg_text_3⟩ := hv_1
  refine j7_readN hx hb hown hK (C := RX12) (T := TX12) (N := 11) rfl hly_14_3 hlk_529 (hh_2.at 0 rfl) dX14_position_6 ?_
  refine lv_aload_n hx hb dX14_position_9 rfl (lv_at hl 3 rfl) ?_
  obtain ⟨v_4, hv_4, hh_5⟩ := hh_2.pin (C := RX12) (T := TX12) (N := 11) hB14 rfl (by decide) hg_r1 (i := 4) (by decide) rfl
  clear hh_2
  obtain ⟨units_6, rfl, hlounits_6, hhiunits_6⟩ := hv_4
  refine j7_readN hx hb hown hK (C := RX12) (T := TX12) (N := 11) rfl hly_14_4 hlk_526 (hh_5.at 0 rfl) dX14_position_10 ?_
  refine lv_iconst (v := 1) hx hb dX14_position_13 (by decide) ?_
  refine va_calli (A0 := jA base) (H0 := s.heap) (va_runS (As := [.ref text_3, .int units_6, .int 1]) (rest := []) ⟨hx, hb, hml, hown, hts⟩ (uX14_lineBeginv9 l dC dI ca base B hB hAp hB194 G0 s.heap text_3 units_6 1 1500) (va_cwS 3 hts (jgS (jWr_58 _ (List.mem_of_getElem? (i := 20) rfl)) (jWr_58 _ (List.mem_of_getElem? (i := 21) rfl)) (jWr_1 _ (List.mem_of_getElem? (i := 5) rfl)) (jWr_58 _ (List.mem_of_getElem? (i := 22) rfl))) rfl rfl rfl (by decide +kernel) ⟨by rw [← hR]; exact Nat.le_of_ble_eq_true rfl, by rw [← hR]; exact Nat.le_of_ble_eq_true rfl⟩) ⟨fun a U g mk q => by obtain ⟨q0, q1, q2, qK, q10, q11, q12⟩ := q; exact ⟨q0, q1, q2, jG.calling g mk a qK, q10, q11, q12⟩, fun U hU hW => ⟨rfl, hU, hh_5.2.1, hG.step hW hU hh_5.1, hg_text_3, jP.nil, by first | omega | (refine ⟨?_, ?_, ?_⟩ <;> (first | omega | rfl | assumption | decide | exact Or.inl rfl | exact Or.inr rfl | (simp only; omega)))⟩⟩ rfl rfl hl.1 rfl (lv_room (Nat.le_of_ble_eq_true rfl)) dX14_position_14 ⟨Nat.zero_le _, Nat.zero_le _⟩) hh_5.1 (fun q _ h => h) (fun q h => h) (fun r_8 u_7 t_7 H_7 locs_7 ht_7 hvm_7 hr_8 hb_7 hz_7 hk_7 hS_7 => ?_)
  rw [ht_7] at hb_7
  obtain ⟨hb_71, hb_72, hb_73, hb_74, hb_75⟩ := hb_7
  have hh_7 : jSt (dC, dI) B base G0 G0 EX14_position s.heap 0 0 [(r1, 14, 4, .int units_6), (r1, 14, 3, .ref text_3)] [] [] H_7 locs_7 := ((hh_5.call hb_71 hb_72 hb_73 hb_74 hS_7 rfl (L1 := [(r1, 14, 4, .int units_6), (r1, 14, 3, .ref text_3)]) [0, 1] rfl rfl (M1 := []) [] rfl rfl (I1 := []) [] rfl rfl).more hb_75)
  clear hh_5 ht_7 hvm_7 hz_7 hk_7 hS_7 hb_71 hb_72 hb_73 hb_74 hb_75
  obtain ⟨hr_8_0, hr_8_1, hr_8_2⟩ := hr_8
  refine lv_istore (lv' := [(5, .int r_8), (4, .int 0), (3, .int 0), (0, .ref r0), (1, .ref r1), (2, .int a2)]) hx hb dX14_position_17 hl (by decide) rfl (fun ls hl => ?_)
  have L19 : ∀ (N : Nat) (v3_9 : Int32) (v4_9 : Int32) (v5_9 : Int32) (H_9 : Heap) (locs_9 : List Loc), jSt (dC, dI) B base G0 G0 EX14_position s.heap 0 0 [(r1, 14, 4, .int units_6), (r1, 14, 3, .ref text_3)] [] [] H_9 locs_9 → (0 ≤ v3_9.toInt ∧ v3_9.toInt ≤ 1500 ∧ 0 ≤ v4_9.toInt ∧ v4_9.toInt ≤ 1500 ∧ -1 ≤ v5_9.toInt ∧ v5_9.toInt ≤ 1500 ∧ (v5_9.toInt = -1 ∨ v3_9.toInt + 1 ≤ v5_9.toInt)) → (1501 - v3_9.toInt : Int) < N → ∀ ls : Array Slot, lv_has ls 6 [(0, .ref r0), (1, .ref r1), (2, .int a2), (3, .int v3_9), (4, .int v4_9), (5, .int v5_9)] → W p l e R s m ([.ref r0, .ref r1, .int a2] : List Value).toArray below meth c H_9 locs_9 0 0 Q (F0 m 19 ls []) := by
    intro N
    induction N with
    | zero => intro v3_9 v4_9 v5_9 H_9 locs_9 hh_9  hi_9 hm; exact absurd hm (by omega)
    | succ N L19 =>
      intro v3_9 v4_9 v5_9 H_9 locs_9 hh_9  hi_9 hm_9 ls hl
      obtain ⟨hi_9_0, hi_9_1, hi_9_2, hi_9_3, hi_9_4, hi_9_5, hi_9_6⟩ := hi_9
      try clear hr_8_2
      refine lv_iload hx hb dX14_position_19 (lv_at hl 5 rfl) ?_
      have C56 : ∀ (H_10 : Heap) (locs_10 : List Loc), jSt (dC, dI) B base G0 G0 EX14_position s.heap 0 0 [(r1, 14, 4, .int units_6), (r1, 14, 3, .ref text_3)] [] [] H_10 locs_10 → (0 ≤ v4_9.toInt ∧ v4_9.toInt ≤ 1500) → ∀ ls : Array Slot, lv_has ls 6 [(0, .ref r0), (1, .ref r1), (2, .int a2), (3, .int v3_9), (4, .int v4_9), (5, .int v5_9)] → W p l e R s m ([.ref r0, .ref r1, .int a2] : List Value).toArray below meth c H_10 locs_10 0 0 Q (F0 m 56 ls []) := by
        intro  H_10 locs_10 hh_10  hi_10 ls hl
        obtain ⟨hi_10_0, hi_10_1⟩ := hi_10
        refine lv_aload_n hx hb dX14_position_56 rfl (lv_at hl 0 rfl) ?_
        refine j_ldcSw hx hb hown rstr730 dX14_position_57 ?_
        obtain ⟨v_13, hv_13, hh_14⟩ := hh_10.pin (C := RX14) (T := TX14) (N := 74) hB16 rfl (by decide) hg_r0 (i := 6) (by decide) rfl
        obtain ⟨framed_15, rfl, hloframed_15, hhiframed_15⟩ := hv_13
        refine va_callv (A0 := jA base) (H0 := s.heap) (va_runV (As := [.ref str730]) (rest := []) ⟨hx, hb, hml, hown, hts⟩ (uX14_word l dC dI ca base B hB hAp hB16 hB101 G0 H_10 r0 str730 8 framed_15) (cwV 1 hts (jgV (jWr_53 _ (List.mem_of_getElem? (i := 22) rfl)) (jWr_53 _ (List.mem_of_getElem? (i := 23) rfl)) (jWr_54 _ (List.mem_of_getElem? (i := 0) rfl)) (jWr_1 _ (List.mem_of_getElem? (i := 5) rfl)) (jWr_54 _ (List.mem_of_getElem? (i := 1) rfl))) rfl rfl rfl (by decide +kernel) ⟨by rw [← hR]; exact Nat.le_of_ble_eq_true rfl, by rw [← hR]; exact Nat.le_of_ble_eq_true rfl⟩) ⟨fun a U g mk q => by obtain ⟨q0, q1, q2, qK, q10, q11, q12, q13⟩ := q; exact ⟨q0, q1, q2, jG.calling g mk a qK, (q10.moved (Vm.Alike.refl U.vm)), q11, q12, q13⟩, hh_14.recv (C := RX14) (T := TX14) (N := 74) hB16 rfl (by decide) hg_r0 hK, fun U hU hW => ⟨rfl, hU, hh_14.2.1, hG.step hW hU hh_14.1, (hstr730.moved hW.alike).kept hh_14.1.2.1, hg_r0, (hh_14.2.2.1.sub (L1 := [(r0, 16, 6, .int framed_15)]) [0] rfl), by first | omega | (refine ⟨?_, ?_, ?_⟩ <;> (first | omega | rfl | assumption | decide | exact Or.inl rfl | exact Or.inr rfl | (simp only; omega)))⟩⟩ rfl rfl hl.1 rfl (lv_room (Nat.le_of_ble_eq_true rfl)) dX14_position_60 ⟨Nat.zero_le _, Nat.zero_le _⟩) hh_14.1 (fun q _ h => h) (fun q h => h) (fun u_11 t_11 H_11 locs_11 ht_11 hvm_11 hr_12 hb_11 hz_11 hk_11 hS_11 => ?_)
        obtain ⟨qf_11, rfl⟩ : ∃ z, z = u_11 := ⟨_, rfl⟩
        rw [ht_11] at hb_11
        obtain ⟨hb_111, hb_112, hb_113, hb_114, hb_115⟩ := hb_11
        have hh_11 : jSt (dC, dI) B base G0 G0 EX14_position s.heap 0 0 [(r0, 16, 6, .int qf_11), (r1, 14, 4, .int units_6), (r1, 14, 3, .ref text_3)] [] [] H_11 locs_11 := ((hh_14.call hb_111 hb_112 hb_113 hb_114 hS_11 rfl (L1 := [(r1, 14, 4, .int units_6), (r1, 14, 3, .ref text_3)]) [1, 2] rfl rfl (M1 := []) [] rfl rfl (I1 := []) [] rfl rfl).more hb_115)
        clear hh_14 ht_11 hvm_11 hz_11 hk_11 hS_11 hb_111 hb_112 hb_113 hb_114 hb_115
        obtain ⟨hr_12_0, hr_12_1⟩ := hr_12
        refine lv_aload_n hx hb dX14_position_63 rfl (lv_at hl 0 rfl) ?_
        refine lv_iload_n hx hb dX14_position_64 rfl (lv_at hl 3 rfl) ?_
        refine va_callv (A0 := jA base) (H0 := s.heap) (va_runV (As := [.int v3_9]) (rest := []) ⟨hx, hb, hml, hown, hts⟩ (uX14_number l dC dI ca base B hB hAp hB16 hB101 G0 H_11 r0 v3_9 qf_11) (cwV 1 hts (jgV (jWr_54 _ (List.mem_of_getElem? (i := 18) rfl)) (jWr_54 _ (List.mem_of_getElem? (i := 19) rfl)) (jWr_54 _ (List.mem_of_getElem? (i := 20) rfl)) (jWr_1 _ (List.mem_of_getElem? (i := 5) rfl)) (jWr_54 _ (List.mem_of_getElem? (i := 21) rfl))) rfl rfl rfl (by decide +kernel) ⟨by rw [← hR]; exact Nat.le_of_ble_eq_true rfl, by rw [← hR]; exact Nat.le_of_ble_eq_true rfl⟩) ⟨fun a U g mk q => by obtain ⟨q0, q1, q2, qK, q10, q11, q12⟩ := q; exact ⟨q0, q1, q2, jG.calling g mk a qK, q10, q11, q12⟩, hh_11.recv (C := RX14) (T := TX14) (N := 74) hB16 rfl (by decide) hg_r0 hK, fun U hU hW => ⟨rfl, hU, hh_11.2.1, hG.step hW hU hh_11.1, hg_r0, (hh_11.2.2.1.sub (L1 := [(r0, 16, 6, .int qf_11)]) [0] rfl), by first | omega | (refine ⟨?_, ?_⟩ <;> (first | omega | rfl | assumption | decide | exact Or.inl rfl | exact Or.inr rfl | (simp only; omega)))⟩⟩ rfl rfl hl.1 rfl (lv_room (Nat.le_of_ble_eq_true rfl)) dX14_position_65 ⟨Nat.zero_le _, Nat.zero_le _⟩) hh_11.1 (fun q _ h => h) (fun q h => h) (fun u_16 t_16 H_16 locs_16 ht_16 hvm_16 hr_17 hb_16 hz_16 hk_16 hS_16 => ?_)
        obtain ⟨qf_16, rfl⟩ : ∃ z, z = u_16 := ⟨_, rfl⟩
        rw [ht_16] at hb_16
        obtain ⟨hb_161, hb_162, hb_163, hb_164, hb_165⟩ := hb_16
        have hh_16 : jSt (dC, dI) B base G0 G0 EX14_position s.heap 0 0 [(r0, 16, 6, .int qf_16), (r1, 14, 4, .int units_6), (r1, 14, 3, .ref text_3)] [] [] H_16 locs_16 := ((hh_11.call hb_161 hb_162 hb_163 hb_164 hS_16 rfl (L1 := [(r1, 14, 4, .int units_6), (r1, 14, 3, .ref text_3)]) [1, 2] rfl rfl (M1 := []) [] rfl rfl (I1 := []) [] rfl rfl).more hb_165)
        clear hh_11 ht_16 hvm_16 hz_16 hk_16 hS_16 hb_161 hb_162 hb_163 hb_164 hb_165
        obtain ⟨hr_17_0, hr_17_1⟩ := hr_17
        refine lv_aload_n hx hb dX14_position_68 rfl (lv_at hl 0 rfl) ?_
        refine j_ldcSw hx hb hown rstr732 dX14_position_69 ?_
        refine va_callv (A0 := jA base) (H0 := s.heap) (va_runV (As := [.ref str732]) (rest := []) ⟨hx, hb, hml, hown, hts⟩ (uX14_word l dC dI ca base B hB hAp hB16 hB101 G0 H_16 r0 str732 13 qf_16) (cwV 1 hts (jgV (jWr_53 _ (List.mem_of_getElem? (i := 22) rfl)) (jWr_53 _ (List.mem_of_getElem? (i := 23) rfl)) (jWr_54 _ (List.mem_of_getElem? (i := 0) rfl)) (jWr_1 _ (List.mem_of_getElem? (i := 5) rfl)) (jWr_54 _ (List.mem_of_getElem? (i := 1) rfl))) rfl rfl rfl (by decide +kernel) ⟨by rw [← hR]; exact Nat.le_of_ble_eq_true rfl, by rw [← hR]; exact Nat.le_of_ble_eq_true rfl⟩) ⟨fun a U g mk q => by obtain ⟨q0, q1, q2, qK, q10, q11, q12, q13⟩ := q; exact ⟨q0, q1, q2, jG.calling g mk a qK, (q10.moved (Vm.Alike.refl U.vm)), q11, q12, q13⟩, hh_16.recv (C := RX14) (T := TX14) (N := 74) hB16 rfl (by decide) hg_r0 hK, fun U hU hW => ⟨rfl, hU, hh_16.2.1, hG.step hW hU hh_16.1, (hstr732.moved hW.alike).kept hh_16.1.2.1, hg_r0, (hh_16.2.2.1.sub (L1 := [(r0, 16, 6, .int qf_16)]) [0] rfl), by first | omega | (refine ⟨?_, ?_, ?_⟩ <;> (first | omega | rfl | assumption | decide | exact Or.inl rfl | exact Or.inr rfl | (simp only; omega)))⟩⟩ rfl rfl hl.1 rfl (lv_room (Nat.le_of_ble_eq_true rfl)) dX14_position_72 ⟨Nat.zero_le _, Nat.zero_le _⟩) hh_16.1 (fun q _ h => h) (fun q h => h) (fun u_18 t_18 H_18 locs_18 ht_18 hvm_18 hr_19 hb_18 hz_18 hk_18 hS_18 => ?_)
        obtain ⟨qf_18, rfl⟩ : ∃ z, z = u_18 := ⟨_, rfl⟩
        rw [ht_18] at hb_18
        obtain ⟨hb_181, hb_182, hb_183, hb_184, hb_185⟩ := hb_18
        have hh_18 : jSt (dC, dI) B base G0 G0 EX14_position s.heap 0 0 [(r0, 16, 6, .int qf_18), (r1, 14, 4, .int units_6), (r1, 14, 3, .ref text_3)] [] [] H_18 locs_18 := ((hh_16.call hb_181 hb_182 hb_183 hb_184 hS_18 rfl (L1 := [(r1, 14, 4, .int units_6), (r1, 14, 3, .ref text_3)]) [1, 2] rfl rfl (M1 := []) [] rfl rfl (I1 := []) [] rfl rfl).more hb_185)
        clear hh_16 ht_18 hvm_18 hz_18 hk_18 hS_18 hb_181 hb_182 hb_183 hb_184 hb_185
        obtain ⟨hr_19_0, hr_19_1⟩ := hr_19
        refine lv_aload_n hx hb dX14_position_75 rfl (lv_at hl 0 rfl) ?_
        refine lv_iload_n hx hb dX14_position_76 rfl (lv_at hl 2 rfl) ?_
        refine lv_iload hx hb dX14_position_77 (lv_at hl 4 rfl) ?_
        refine lv_isub hx hb dX14_position_79 ?_
        refine lv_topi (fun z_20 ez_20 => ?_)
        have hz_20 : z_20.toInt = a2.toInt - v4_9.toInt := by rw [ez_20]; exact jb_isub2 (rfl) (rfl) (by omega)
        refine va_callv (A0 := jA base) (H0 := s.heap) (va_runV (As := [.int z_20]) (rest := []) ⟨hx, hb, hml, hown, hts⟩ (uX14_number l dC dI ca base B hB hAp hB16 hB101 G0 H_18 r0 z_20 qf_18) (cwV 1 hts (jgV (jWr_54 _ (List.mem_of_getElem? (i := 18) rfl)) (jWr_54 _ (List.mem_of_getElem? (i := 19) rfl)) (jWr_54 _ (List.mem_of_getElem? (i := 20) rfl)) (jWr_1 _ (List.mem_of_getElem? (i := 5) rfl)) (jWr_54 _ (List.mem_of_getElem? (i := 21) rfl))) rfl rfl rfl (by decide +kernel) ⟨by rw [← hR]; exact Nat.le_of_ble_eq_true rfl, by rw [← hR]; exact Nat.le_of_ble_eq_true rfl⟩) ⟨fun a U g mk q => by obtain ⟨q0, q1, q2, qK, q10, q11, q12⟩ := q; exact ⟨q0, q1, q2, jG.calling g mk a qK, q10, q11, q12⟩, hh_18.recv (C := RX14) (T := TX14) (N := 74) hB16 rfl (by decide) hg_r0 hK, fun U hU hW => ⟨rfl, hU, hh_18.2.1, hG.step hW hU hh_18.1, hg_r0, (hh_18.2.2.1.sub (L1 := [(r0, 16, 6, .int qf_18)]) [0] rfl), by first | omega | (refine ⟨?_, ?_⟩ <;> (first | omega | rfl | assumption | decide | exact Or.inl rfl | exact Or.inr rfl | (simp only; omega)))⟩⟩ rfl rfl hl.1 rfl (lv_room (Nat.le_of_ble_eq_true rfl)) dX14_position_80 ⟨Nat.zero_le _, Nat.zero_le _⟩) hh_18.1 (fun q _ h => h) (fun q h => h) (fun u_21 t_21 H_21 locs_21 ht_21 hvm_21 hr_22 hb_21 hz_21 hk_21 hS_21 => ?_)
        obtain ⟨qf_21, rfl⟩ : ∃ z, z = u_21 := ⟨_, rfl⟩
        rw [ht_21] at hb_21
        obtain ⟨hb_211, hb_212, hb_213, hb_214, hb_215⟩ := hb_21
        have hh_21 : jSt (dC, dI) B base G0 G0 EX14_position s.heap 0 0 [(r0, 16, 6, .int qf_21), (r1, 14, 4, .int units_6), (r1, 14, 3, .ref text_3)] [] [] H_21 locs_21 := ((hh_18.call hb_211 hb_212 hb_213 hb_214 hS_21 rfl (L1 := [(r1, 14, 4, .int units_6), (r1, 14, 3, .ref text_3)]) [1, 2] rfl rfl (M1 := []) [] rfl rfl (I1 := []) [] rfl rfl).more hb_215)
        clear hh_18 ht_21 hvm_21 hz_21 hk_21 hS_21 hb_211 hb_212 hb_213 hb_214 hb_215
        obtain ⟨hr_22_0, hr_22_1⟩ := hr_22
        refine lv_aload_n hx hb dX14_position_83 rfl (lv_at hl 0 rfl) ?_
        refine lv_bipush (v := 125) hx hb dX14_position_84 (by decide) ?_
        refine va_callv (A0 := jA base) (H0 := s.heap) (va_runV (As := [.int 125]) (rest := []) ⟨hx, hb, hml, hown, hts⟩ (uX14_put l dC dI ca base B hB hAp hB16 hB101 G0 H_21 r0 125 qf_21) (cwV 1 hts (jgV (jWr_54 _ (List.mem_of_getElem? (i := 2) rfl)) (jWr_54 _ (List.mem_of_getElem? (i := 3) rfl)) (jWr_54 _ (List.mem_of_getElem? (i := 4) rfl)) (jWr_1 _ (List.mem_of_getElem? (i := 5) rfl)) (jWr_54 _ (List.mem_of_getElem? (i := 5) rfl))) rfl rfl rfl (by decide +kernel) ⟨by rw [← hR]; exact Nat.le_of_ble_eq_true rfl, by rw [← hR]; exact Nat.le_of_ble_eq_true rfl⟩) ⟨fun a U g mk q => by obtain ⟨q0, q1, q2, qK, q10, q11, q12⟩ := q; exact ⟨q0, q1, q2, jG.calling g mk a qK, q10, q11, q12⟩, hh_21.recv (C := RX14) (T := TX14) (N := 74) hB16 rfl (by decide) hg_r0 hK, fun U hU hW => ⟨rfl, hU, hh_21.2.1, hG.step hW hU hh_21.1, hg_r0, (hh_21.2.2.1.sub (L1 := [(r0, 16, 6, .int qf_21)]) [0] rfl), by first | omega | (refine ⟨?_, ?_⟩ <;> (first | omega | rfl | assumption | decide | exact Or.inl rfl | exact Or.inr rfl | (simp only; omega)))⟩⟩ rfl rfl hl.1 rfl (lv_room (Nat.le_of_ble_eq_true rfl)) dX14_position_86 ⟨Nat.zero_le _, Nat.zero_le _⟩) hh_21.1 (fun q _ h => h) (fun q h => h) (fun u_23 t_23 H_23 locs_23 ht_23 hvm_23 hr_24 hb_23 hz_23 hk_23 hS_23 => ?_)
        obtain ⟨qf_23, rfl⟩ : ∃ z, z = u_23 := ⟨_, rfl⟩
        rw [ht_23] at hb_23
        obtain ⟨hb_231, hb_232, hb_233, hb_234, hb_235⟩ := hb_23
        have hh_23 : jSt (dC, dI) B base G0 G0 EX14_position s.heap 0 0 [(r0, 16, 6, .int qf_23), (r1, 14, 4, .int units_6), (r1, 14, 3, .ref text_3)] [] [] H_23 locs_23 := ((hh_21.call hb_231 hb_232 hb_233 hb_234 hS_23 rfl (L1 := [(r1, 14, 4, .int units_6), (r1, 14, 3, .ref text_3)]) [1, 2] rfl rfl (M1 := []) [] rfl rfl (I1 := []) [] rfl rfl).more hb_235)
        clear hh_21 ht_23 hvm_23 hz_23 hk_23 hS_23 hb_231 hb_232 hb_233 hb_234 hb_235
        obtain ⟨hr_24_0, hr_24_1⟩ := hr_24
        rw [hQ]
        exact W.vret hx hb hr (fun t ht hW => ⟨⟨(), rfl, trivial, hh_23.rt (M1 := []) [] rfl ht⟩, by rw [ht]; try exact hh_23.1.1, fun q h9 hq => by rw [ht]; try exact hh_23.1.2.1 q h9 hq⟩) hh_23.1.2.2 dX14_position_89
      refine lv_if_lt (tgt := 56) hx hb dX14_position_21 (by decide) (fun c_25 => ?_) (fun c_25 => ?_)
      · skip
        have c_25' : v5_9.toInt < 0 := jb_lt (rfl) ((by decide)) c_25
        exact C56  _ _ hh_9 (by first | omega | (refine ⟨?_, ?_⟩ <;> (first | omega | rfl | assumption | decide | exact Or.inl rfl | exact Or.inr rfl | (simp only; omega)))) _ (lv_sub hl [0, 1, 2, 3, 4, 5] rfl)
      · skip
        have c_25' : v5_9.toInt ≥ 0 := jb_lt_n (rfl) ((by decide)) c_25
        refine lv_iload hx hb dX14_position_24 (lv_at hl 5 rfl) ?_
        refine lv_iload_n hx hb dX14_position_26 rfl (lv_at hl 2 rfl) ?_
        refine lv_icmp_gt (tgt := 56) hx hb dX14_position_27 (by decide) (fun c_26 => ?_) (fun c_26 => ?_)
        · skip
          have c_26' : v5_9.toInt > a2.toInt := jb_gt (rfl) (rfl) c_26
          exact C56  _ _ hh_9 (by first | omega | (refine ⟨?_, ?_⟩ <;> (first | omega | rfl | assumption | decide | exact Or.inl rfl | exact Or.inr rfl | (simp only; omega)))) _ (lv_sub hl [0, 1, 2, 3, 4, 5] rfl)
        · skip
          have c_26' : v5_9.toInt ≤ a2.toInt := jb_gt_n (rfl) (rfl) c_26
          obtain ⟨z_27, ez_27⟩ : ∃ y : Int32, y = v3_9 + 1 := ⟨_, rfl⟩
          refine lv_iinc (v := z_27) (lv' := [(3, .int z_27), (0, .ref r0), (1, .ref r1), (2, .int a2), (4, .int v4_9), (5, .int v5_9)]) hx hb dX14_position_30 hl (k := 3) rfl (by rw [ez_27]; rfl) (by decide) rfl (fun ls hl => ?_)
          have hz_27 : z_27.toInt = v3_9.toInt + 1 := by rw [ez_27]; exact jb_iadd2 (rfl) (by decide) (by omega)
          refine lv_iload hx hb dX14_position_33 (lv_at hl 5 rfl) ?_
          refine lv_istore (lv' := [(4, .int v5_9), (3, .int z_27), (0, .ref r0), (1, .ref r1), (2, .int a2), (5, .int v5_9)]) hx hb dX14_position_35 hl (by decide) rfl (fun ls hl => ?_)
          refine lv_aload_n hx hb dX14_position_37 rfl (lv_at hl 3 rfl) ?_
          refine j7_readN hx hb hown hK (C := RX12) (T := TX12) (N := 11) rfl hly_14_3 hlk_529 (hh_9.at 1 rfl) dX14_position_38 ?_
          refine lv_aload_n hx hb dX14_position_41 rfl (lv_at hl 3 rfl) ?_
          refine j7_readN hx hb hown hK (C := RX12) (T := TX12) (N := 11) rfl hly_14_4 hlk_526 (hh_9.at 0 rfl) dX14_position_42 ?_
          refine lv_iload_n hx hb dX14_position_45 rfl (lv_at hl 1 rfl) ?_
          refine lv_iconst (v := 1) hx hb dX14_position_46 (by decide) ?_
          refine lv_iadd hx hb dX14_position_47 ?_
          refine lv_topi (fun z_28 ez_28 => ?_)
          have hz_28 : z_28.toInt = z_27.toInt + 1 := by rw [ez_28]; exact jb_iadd2 (rfl) ((by decide)) (by omega)
          refine va_calli (A0 := jA base) (H0 := s.heap) (va_runS (As := [.ref text_3, .int units_6, .int z_28]) (rest := []) ⟨hx, hb, hml, hown, hts⟩ (uX14_lineBeginv9 l dC dI ca base B hB hAp hB194 G0 H_9 text_3 units_6 z_28 1500) (va_cwS 3 hts (jgS (jWr_58 _ (List.mem_of_getElem? (i := 20) rfl)) (jWr_58 _ (List.mem_of_getElem? (i := 21) rfl)) (jWr_1 _ (List.mem_of_getElem? (i := 5) rfl)) (jWr_58 _ (List.mem_of_getElem? (i := 22) rfl))) rfl rfl rfl (by decide +kernel) ⟨by rw [← hR]; exact Nat.le_of_ble_eq_true rfl, by rw [← hR]; exact Nat.le_of_ble_eq_true rfl⟩) ⟨fun a U g mk q => by obtain ⟨q0, q1, q2, qK, q10, q11, q12⟩ := q; exact ⟨q0, q1, q2, jG.calling g mk a qK, q10, q11, q12⟩, fun U hU hW => ⟨rfl, hU, hh_9.2.1, hG.step hW hU hh_9.1, hg_text_3, jP.nil, by first | omega | (refine ⟨?_, ?_, ?_⟩ <;> (first | omega | rfl | assumption | decide | exact Or.inl rfl | exact Or.inr rfl | (simp only; omega)))⟩⟩ rfl rfl hl.1 rfl (lv_room (Nat.le_of_ble_eq_true rfl)) dX14_position_48 ⟨Nat.zero_le _, Nat.zero_le _⟩) hh_9.1 (fun q _ h => h) (fun q h => h) (fun r_30 u_29 t_29 H_29 locs_29 ht_29 hvm_29 hr_30 hb_29 hz_29 hk_29 hS_29 => ?_)
          rw [ht_29] at hb_29
          obtain ⟨hb_291, hb_292, hb_293, hb_294, hb_295⟩ := hb_29
          have hh_29 : jSt (dC, dI) B base G0 G0 EX14_position s.heap 0 0 [(r1, 14, 4, .int units_6), (r1, 14, 3, .ref text_3)] [] [] H_29 locs_29 := ((hh_9.call hb_291 hb_292 hb_293 hb_294 hS_29 rfl (L1 := [(r1, 14, 4, .int units_6), (r1, 14, 3, .ref text_3)]) [0, 1] rfl rfl (M1 := []) [] rfl rfl (I1 := []) [] rfl rfl).more hb_295)
          clear hh_9 ht_29 hvm_29 hz_29 hk_29 hS_29 hb_291 hb_292 hb_293 hb_294 hb_295
          obtain ⟨hr_30_0, hr_30_1, hr_30_2⟩ := hr_30
          refine lv_istore (lv' := [(5, .int r_30), (4, .int v5_9), (3, .int z_27), (0, .ref r0), (1, .ref r1), (2, .int a2)]) hx hb dX14_position_51 hl (by decide) rfl (fun ls hl => ?_)
          refine lv_goto (tgt := 19) hx hb dX14_position_53 (by decide) ?_
          exact L19 z_27 v5_9 r_30 _ _ hh_29 (by first | omega | (refine ⟨?_, ?_, ?_, ?_, ?_, ?_, ?_⟩ <;> (first | omega | rfl | assumption | decide | exact Or.inl rfl | exact Or.inr rfl | (simp only; omega)))) (by omega) _ (lv_sub hl [3, 4, 5, 2, 1, 0] rfl)
  exact L19 (1501 - (0 : Int32).toInt : Int).toNat.succ 0 0 r_8 _ _ hh_7 (by first | omega | (refine ⟨?_, ?_, ?_, ?_, ?_, ?_, ?_⟩ <;> (first | omega | rfl | assumption | decide | exact Or.inl rfl | exact Or.inr rfl | (simp only; omega)))) (by omega) _ (lv_sub hl [3, 4, 5, 2, 1, 0] rfl)
end
section
section
variable {p : Program} {l : Launch} {e : Env} {R : Room} {s : State} {m : MethodId} {args : Array Value} {below : List Frame} {meth : Method} {c : Code} {H : Heap} {locs : List Loc} {cells slots : Nat} {Q : State → Prop}
variable {cc : ByteArray} {pc : Nat} {ls : Array Slot} {rest : List Value}
end
section
variable {p : Program} {l : Launch} {e : Env} {R : Room} {s : State} {m : MethodId} {args : Array Value} {below : List Frame} {meth : Method} {c : Code} {H : Heap} {locs : List Loc} {cells slots : Nat} {Q : State → Prop}
variable {cc : ByteArray} {pc : Nat} {ls : Array Slot} {rest : List Value}
end
theorem dX14_putLine_0 : decode cX14_putLine 0 = .ok (.aload_n 0, 1) := by decide +kernel
theorem dX14_putLine_1 : decode cX14_putLine 1 = .ok (.aload_n 0, 1) := by decide +kernel
theorem dX14_putLine_2 : decode cX14_putLine 2 = .ok (.getfield 122, 3) := by decide +kernel
theorem dX14_putLine_5 : decode cX14_putLine 5 = .ok (.getfield 632, 3) := by decide +kernel
theorem dX14_putLine_8 : decode cX14_putLine 8 = .ok (.iload_n 1, 1) := by decide +kernel
theorem dX14_putLine_9 : decode cX14_putLine 9 = .ok (.aload_n 0, 1) := by decide +kernel
theorem dX14_putLine_10 : decode cX14_putLine 10 = .ok (.getfield 122, 3) := by decide +kernel
theorem dX14_putLine_13 : decode cX14_putLine 13 = .ok (.getfield 634, 3) := by decide +kernel
theorem dX14_putLine_16 : decode cX14_putLine 16 = .ok (.invokevirtual 388, 3) := by decide +kernel
theorem dX14_putLine_19 : decode cX14_putLine 19 = .ok (.aload_n 0, 1) := by decide +kernel
theorem dX14_putLine_20 : decode cX14_putLine 20 = .ok (.getfield 122, 3) := by decide +kernel
theorem dX14_putLine_23 : decode cX14_putLine 23 = .ok (.iload_n 1, 1) := by decide +kernel
theorem dX14_putLine_24 : decode cX14_putLine 24 = .ok (.putfield 634, 3) := by decide +kernel
theorem dX14_putLine_27 : decode cX14_putLine 27 = .ok (.return_, 1) := by decide +kernel
theorem dX14_beginDiagnostics_0 : decode cX14_beginDiagnostics 0 = .ok (.aload_n 0, 1) := by decide +kernel
theorem dX14_beginDiagnostics_1 : decode cX14_beginDiagnostics 1 = .ok (.iconst 0, 1) := by decide +kernel
theorem dX14_beginDiagnostics_2 : decode cX14_beginDiagnostics 2 = .ok (.putfield 160, 3) := by decide +kernel
theorem dX14_beginDiagnostics_5 : decode cX14_beginDiagnostics 5 = .ok (.aload_n 0, 1) := by decide +kernel
theorem dX14_beginDiagnostics_6 : decode cX14_beginDiagnostics 6 = .ok (.ldc_w 722, 3) := by decide +kernel
theorem dX14_beginDiagnostics_9 : decode cX14_beginDiagnostics 9 = .ok (.invokevirtual 189, 3) := by decide +kernel
theorem dX14_beginDiagnostics_12 : decode cX14_beginDiagnostics 12 = .ok (.aload_n 0, 1) := by decide +kernel
theorem dX14_beginDiagnostics_13 : decode cX14_beginDiagnostics 13 = .ok (.aload_n 1, 1) := by decide +kernel
theorem dX14_beginDiagnostics_14 : decode cX14_beginDiagnostics 14 = .ok (.getfield 511, 3) := by decide +kernel
theorem dX14_beginDiagnostics_17 : decode cX14_beginDiagnostics 17 = .ok (.iconst 0, 1) := by decide +kernel
theorem dX14_beginDiagnostics_18 : decode cX14_beginDiagnostics 18 = .ok (.aload_n 1, 1) := by decide +kernel
theorem dX14_beginDiagnostics_19 : decode cX14_beginDiagnostics 19 = .ok (.getfield 508, 3) := by decide +kernel
theorem dX14_beginDiagnostics_22 : decode cX14_beginDiagnostics 22 = .ok (.invokevirtual 388, 3) := by decide +kernel
theorem dX14_beginDiagnostics_25 : decode cX14_beginDiagnostics 25 = .ok (.aload_n 0, 1) := by decide +kernel
theorem dX14_beginDiagnostics_26 : decode cX14_beginDiagnostics 26 = .ok (.ldc_w 724, 3) := by decide +kernel
theorem dX14_beginDiagnostics_29 : decode cX14_beginDiagnostics 29 = .ok (.invokevirtual 189, 3) := by decide +kernel
theorem dX14_beginDiagnostics_32 : decode cX14_beginDiagnostics 32 = .ok (.aload_n 0, 1) := by decide +kernel
theorem dX14_beginDiagnostics_33 : decode cX14_beginDiagnostics 33 = .ok (.aload_n 1, 1) := by decide +kernel
theorem dX14_beginDiagnostics_34 : decode cX14_beginDiagnostics 34 = .ok (.getfield 524, 3) := by decide +kernel
theorem dX14_beginDiagnostics_37 : decode cX14_beginDiagnostics 37 = .ok (.invokevirtual 208, 3) := by decide +kernel
theorem dX14_beginDiagnostics_40 : decode cX14_beginDiagnostics 40 = .ok (.aload_n 0, 1) := by decide +kernel
theorem dX14_beginDiagnostics_41 : decode cX14_beginDiagnostics 41 = .ok (.ldc_w 726, 3) := by decide +kernel
theorem dX14_beginDiagnostics_44 : decode cX14_beginDiagnostics 44 = .ok (.invokevirtual 189, 3) := by decide +kernel
theorem dX14_beginDiagnostics_47 : decode cX14_beginDiagnostics 47 = .ok (.return_, 1) := by decide +kernel
theorem dX14_endDiagnostics_0 : decode cX14_endDiagnostics 0 = .ok (.aload_n 0, 1) := by decide +kernel
theorem dX14_endDiagnostics_1 : decode cX14_endDiagnostics 1 = .ok (.ldc_w 728, 3) := by decide +kernel
theorem dX14_endDiagnostics_4 : decode cX14_endDiagnostics 4 = .ok (.invokevirtual 189, 3) := by decide +kernel
theorem dX14_endDiagnostics_7 : decode cX14_endDiagnostics 7 = .ok (.aload_n 0, 1) := by decide +kernel
theorem dX14_endDiagnostics_8 : decode cX14_endDiagnostics 8 = .ok (.invokevirtual 397, 3) := by decide +kernel
theorem dX14_endDiagnostics_11 : decode cX14_endDiagnostics 11 = .ok (.return_, 1) := by decide +kernel
def EX14_beginDiagnostics : List (Nat × Nat) := [(16, 6), (101, 0)]
def EX14_endDiagnostics : List (Nat × Nat) := [(16, 3), (16, 4), (16, 6), (101, 0)]
def EX14_putLine : List (Nat × Nat) := [(15, 46), (16, 6), (101, 0)]
set_option maxHeartbeats 4000000 in
set_option maxRecDepth 20000 in
theorem uX14_beginDiagnostics (l : Launch) (dC : Nat → ClassId) (dI : Nat → Nat → Nat) (ca : Nat → ClassId) (base : Nat) (B : jF) (hB : jBok B) (hAp : jAp (dC, dI)) (hB14 : ∀ n G a H, B 14 n G a H ↔ jOb (dC, dI) 14 11 (F14 n G) a H) (hB16 : ∀ n G a H, B 16 n G a H ↔ jOb (dC, dI) 16 74 (F16 n G) a H) (hB101 : ∀ n G a H, B 101 n G a H ↔ jAr (dC, dI) (ca 1) (fun j z => True) n a H) (hB195 : ∀ n G a H, B 195 n G a H ↔ jAr (dC, dI) (ca 1) (fun j z => True) n a H) (G0 : jT) (H0 : Heap) (r0 : Nat) (r1 : Nat) : Met l yX14_beginDiagnostics (jw yX14_beginDiagnostics cX14_beginDiagnostics 2 none) ({ frames := 12, cells := 0, slots := 0, locals := 462 }) (va_Pc [.ref r0, .ref r1] (fun U => U.heap = H0 ∧ jX B base G0 [] H0 ∧ jG dC dI ca base U ∧ G0 r1 = some (14, 0) ∧ G0 r0 = some (16, 0) ∧ jP (dC, dI) G0 H0 [] ∧ True)) (va_Qv (S := Unit) (fun u => True) (fun u t => jRt (dC, dI) B base G0 EX14_beginDiagnostics H0 [] t.heap) (jA base)) 0 0 (jA base) := by
  refine Met.ofW (cc := cX14_beginDiagnostics) (maxL := 2) (ret := none) (by decide) rfl ?_
  intro p e s m args below meth c s₁ Bd hml hv
  obtain ⟨rfl, hH0, hX, hG, hg_r1, hg_r0, hP0, hp0⟩ := hv
  have hK := hG.1
  have hx := Bd.exec
  have hb := Bd.bytes
  have hr := Bd.returns
  have hts := atoms_spec (ws := (jw yX14_beginDiagnostics cX14_beginDiagnostics 2 none)) Bd.pre
  have htw : ∀ w ∈ jWl, w.before _ s = true := fun w h => hts w (List.mem_cons_of_mem _ h)
  have hown : s.vm.findClass RX14 = some m.cls := findClass_of_methodNamed Bd.named
  have hlocks := Bd.notSynchronized
  obtain ⟨Q, hQ⟩ : ∃ Q, Q = MQ below (va_Qv (S := Unit) (fun u => True) (fun u t => jRt (dC, dI) B base G0 EX14_beginDiagnostics H0 [] t.heap) (jA base)) ([.ref r0, .ref r1] : List Value).toArray s 0 0 (jA base) := ⟨_, rfl⟩
  rw [← hQ]
  have hl := lv_entry ([.ref r0, .ref r1]) (n := 2) (Nat.le_of_ble_eq_true rfl)
  rw [lg_entry_eq]
  generalize (lg_sl ([.ref r0, .ref r1]) ++ List.replicate (2 - (lg_sl ([.ref r0, .ref r1])).length) Slot.unset).toArray = ls at hl ⊢
  have hl : lv_has ls 2 [(0, .ref r0), (1, .ref r1)] := hl
  generalize hR : (headSpec (jw yX14_beginDiagnostics cX14_beginDiagnostics 2 none) ({ frames := 12, cells := 0, slots := 0, locals := 462 })).room = R
  subst hH0
  have hh : jSt (dC, dI) B base G0 G0 EX14_beginDiagnostics s.heap 0 0 [] [] [] s.heap [] := jSt.start hX hP0 jMc.nil jIs.nil
  clear hX hP0
  have hk0 : (0 : Int32).toInt = 0 := by decide
  have hk1 : (1 : Int32).toInt = 1 := by decide
  have hly_14_0 := htw (u_lay RX12 TX12 0) (jWc_wsX120 _ (u_in_lay (by decide)))
  have hly_14_1 := htw (u_lay RX12 TX12 1) (jWc_wsX120 _ (u_in_lay (by decide)))
  have hly_14_2 := htw (u_lay RX12 TX12 2) (jWc_wsX120 _ (u_in_lay (by decide)))
  have hly_16_6 := htw (u_lay RX14 TX14 6) (jWc_wsX140 _ (u_in_lay (by decide)))
  have hlk_160 := (htw (.fieldLink RX14 160 "ProofServerModel" "framed" "I") (jWr_53 _ (List.mem_of_getElem? (i := 18) rfl)))
  obtain ⟨str722, rstr722, hstr7220⟩ := hG.str (o := RX14) (k := 722) (tx := "{\"jsonrpc\":\"2.0\",\"method\":\"textDocument/publishDiagnostics\",\"params\":{\"uri\":") (List.mem_of_getElem? (i := 2523) (by decide +kernel))
  have hstr722 : jStr base str722 76 s s.heap := hstr7220
  have hlk_511 := (va_Nw.use (A := ([.ref r0, .ref r1] : List Value).toArray) rfl (hG.2.1 RX14 511 "ProofServerModel$Document" "uri" "[I" "ProofServerModel" (List.mem_of_getElem? (i := 1731) (by decide +kernel))))
  have hlk_508 := (va_Nw.use (A := ([.ref r0, .ref r1] : List Value).toArray) rfl (hG.2.1 RX14 508 "ProofServerModel$Document" "uriLength" "I" "ProofServerModel" (List.mem_of_getElem? (i := 1732) (by decide +kernel))))
  obtain ⟨str724, rstr724, hstr7240⟩ := hG.str (o := RX14) (k := 724) (tx := ",\"version\":") (List.mem_of_getElem? (i := 2524) (by decide +kernel))
  have hstr724 : jStr base str724 11 s s.heap := hstr7240
  have hlk_524 := (va_Nw.use (A := ([.ref r0, .ref r1] : List Value).toArray) rfl (hG.2.1 RX14 524 "ProofServerModel$Document" "version" "I" "ProofServerModel" (List.mem_of_getElem? (i := 1733) (by decide +kernel))))
  obtain ⟨str726, rstr726, hstr7260⟩ := hG.str (o := RX14) (k := 726) (tx := ",\"diagnostics\":[") (List.mem_of_getElem? (i := 2525) (by decide +kernel))
  have hstr726 : jStr base str726 16 s s.heap := hstr7260
  refine lv_aload_n hx hb dX14_beginDiagnostics_0 rfl (lv_at hl 0 rfl) ?_
  refine lv_iconst (v := 0) hx hb dX14_beginDiagnostics_1 (by decide) ?_
  refine j7_put hx hb hown hK hh hB hAp hB16 (C := RX14) (T := TX14) (N := 74) rfl (by decide) hg_r0 (i := 6) (by decide) hly_16_6 rfl hlk_160 rfl (ty := .int) (v := .int 0) (by decide +kernel) rfl rfl (⟨_, rfl, by omega, by omega⟩) rfl (L1 := []) [] rfl rfl rfl dX14_beginDiagnostics_2 (fun H_1 locs_1 hh_1 => ?_)
  clear hh
  refine lv_aload_n hx hb dX14_beginDiagnostics_5 rfl (lv_at hl 0 rfl) ?_
  refine j_ldcSw hx hb hown rstr722 dX14_beginDiagnostics_6 ?_
  refine va_callv (A0 := jA base) (H0 := s.heap) (va_runV (As := [.ref str722]) (rest := []) ⟨hx, hb, hml, hown, hts⟩ (uX14_word l dC dI ca base B hB hAp hB16 hB101 G0 H_1 r0 str722 76 0) (cwV 1 hts (jgV (jWr_53 _ (List.mem_of_getElem? (i := 22) rfl)) (jWr_53 _ (List.mem_of_getElem? (i := 23) rfl)) (jWr_54 _ (List.mem_of_getElem? (i := 0) rfl)) (jWr_1 _ (List.mem_of_getElem? (i := 5) rfl)) (jWr_54 _ (List.mem_of_getElem? (i := 1) rfl))) rfl rfl rfl (by decide +kernel) ⟨by rw [← hR]; exact Nat.le_of_ble_eq_true rfl, by rw [← hR]; exact Nat.le_of_ble_eq_true rfl⟩) ⟨fun a U g mk q => by obtain ⟨q0, q1, q2, qK, q10, q11, q12, q13⟩ := q; exact ⟨q0, q1, q2, jG.calling g mk a qK, (q10.moved (Vm.Alike.refl U.vm)), q11, q12, q13⟩, hh_1.recv (C := RX14) (T := TX14) (N := 74) hB16 rfl (by decide) hg_r0 hK, fun U hU hW => ⟨rfl, hU, hh_1.2.1, hG.step hW hU hh_1.1, (hstr722.moved hW.alike).kept hh_1.1.2.1, hg_r0, (hh_1.2.2.1.sub (L1 := [(r0, 16, 6, .int 0)]) [0] rfl), by first | omega | (refine ⟨?_, ?_, ?_⟩ <;> (first | omega | rfl | assumption | decide | exact Or.inl rfl | exact Or.inr rfl | (simp only; omega)))⟩⟩ rfl rfl hl.1 rfl (lv_room (Nat.le_of_ble_eq_true rfl)) dX14_beginDiagnostics_9 ⟨Nat.zero_le _, Nat.zero_le _⟩) hh_1.1 (fun q _ h => h) (fun q h => h) (fun u_2 t_2 H_2 locs_2 ht_2 hvm_2 hr_3 hb_2 hz_2 hk_2 hS_2 => ?_)
  obtain ⟨qf_2, rfl⟩ : ∃ z, z = u_2 := ⟨_, rfl⟩
  rw [ht_2] at hb_2
  obtain ⟨hb_21, hb_22, hb_23, hb_24, hb_25⟩ := hb_2
  have hh_2 : jSt (dC, dI) B base G0 G0 EX14_beginDiagnostics s.heap 0 0 [(r0, 16, 6, .int qf_2)] [] [] H_2 locs_2 := ((hh_1.call hb_21 hb_22 hb_23 hb_24 hS_2 rfl (L1 := []) [] rfl rfl (M1 := []) [] rfl rfl (I1 := []) [] rfl rfl).more hb_25)
  clear hh_1 ht_2 hvm_2 hz_2 hk_2 hS_2 hb_21 hb_22 hb_23 hb_24 hb_25
  obtain ⟨hr_3_0, hr_3_1⟩ := hr_3
  refine lv_aload_n hx hb dX14_beginDiagnostics_12 rfl (lv_at hl 0 rfl) ?_
  refine lv_aload_n hx hb dX14_beginDiagnostics_13 rfl (lv_at hl 1 rfl) ?_
  obtain ⟨v_4, hv_4, hh_5⟩ := hh_2.pin (C := RX12) (T := TX12) (N := 11) hB14 rfl (by decide) hg_r1 (i := 0) (by decide) rfl
  clear hh_2
  obtain ⟨uri_6, rfl, hg_uri_6⟩ := hv_4
  refine j7_readN hx hb hown hK (C := RX12) (T := TX12) (N := 11) rfl hly_14_0 hlk_511 (hh_5.at 0 rfl) dX14_beginDiagnostics_14 ?_
  refine lv_iconst (v := 0) hx hb dX14_beginDiagnostics_17 (by decide) ?_
  refine lv_aload_n hx hb dX14_beginDiagnostics_18 rfl (lv_at hl 1 rfl) ?_
  obtain ⟨v_7, hv_7, hh_8⟩ := hh_5.pin (C := RX12) (T := TX12) (N := 11) hB14 rfl (by decide) hg_r1 (i := 1) (by decide) rfl
  clear hh_5
  obtain ⟨uriLength_9, rfl, hlouriLength_9, hhiuriLength_9⟩ := hv_7
  refine j7_readN hx hb hown hK (C := RX12) (T := TX12) (N := 11) rfl hly_14_1 hlk_508 (hh_8.at 0 rfl) dX14_beginDiagnostics_19 ?_
  refine va_callv (A0 := jA base) (H0 := s.heap) (va_runV (As := [.ref uri_6, .int 0, .int uriLength_9]) (rest := []) ⟨hx, hb, hml, hown, hts⟩ (uX14_stringw9 l dC dI ca base B hB hAp hB16 hB101 hB195 G0 H_2 r0 uri_6 0 uriLength_9 40 qf_2) (cwV 3 hts (jgV (jWr_54 _ (List.mem_of_getElem? (i := 6) rfl)) (jWr_54 _ (List.mem_of_getElem? (i := 7) rfl)) (jWr_54 _ (List.mem_of_getElem? (i := 8) rfl)) (jWr_1 _ (List.mem_of_getElem? (i := 5) rfl)) (jWr_54 _ (List.mem_of_getElem? (i := 9) rfl))) rfl rfl rfl (by decide +kernel) ⟨by rw [← hR]; exact Nat.le_of_ble_eq_true rfl, by rw [← hR]; exact Nat.le_of_ble_eq_true rfl⟩) ⟨fun a U g mk q => by obtain ⟨q0, q1, q2, qK, q10, q11, q12, q13⟩ := q; exact ⟨q0, q1, q2, jG.calling g mk a qK, q10, q11, q12, q13⟩, hh_8.recv (C := RX14) (T := TX14) (N := 74) hB16 rfl (by decide) hg_r0 hK, fun U hU hW => ⟨rfl, hU, hh_8.2.1, hG.step hW hU hh_8.1, hg_uri_6, hg_r0, (hh_8.2.2.1.sub (L1 := [(r0, 16, 6, .int qf_2)]) [2] rfl), by first | omega | (refine ⟨?_, ?_, ?_, ?_, ?_⟩ <;> (first | omega | rfl | assumption | decide | exact Or.inl rfl | exact Or.inr rfl | (simp only; omega)))⟩⟩ rfl rfl hl.1 rfl (lv_room (Nat.le_of_ble_eq_true rfl)) dX14_beginDiagnostics_22 ⟨Nat.zero_le _, Nat.zero_le _⟩) hh_8.1 (fun q _ h => h) (fun q h => h) (fun u_10 t_10 H_10 locs_10 ht_10 hvm_10 hr_11 hb_10 hz_10 hk_10 hS_10 => ?_)
  obtain ⟨qf_10, rfl⟩ : ∃ z, z = u_10 := ⟨_, rfl⟩
  rw [ht_10] at hb_10
  obtain ⟨hb_101, hb_102, hb_103, hb_104, hb_105⟩ := hb_10
  have hh_10 : jSt (dC, dI) B base G0 G0 EX14_beginDiagnostics s.heap 0 0 [(r0, 16, 6, .int qf_10), (r1, 14, 1, .int uriLength_9), (r1, 14, 0, .ref uri_6)] [] [] H_10 locs_10 := ((hh_8.call hb_101 hb_102 hb_103 hb_104 hS_10 rfl (L1 := [(r1, 14, 1, .int uriLength_9), (r1, 14, 0, .ref uri_6)]) [0, 1] rfl rfl (M1 := []) [] rfl rfl (I1 := []) [] rfl rfl).more hb_105)
  clear hh_8 ht_10 hvm_10 hz_10 hk_10 hS_10 hb_101 hb_102 hb_103 hb_104 hb_105
  obtain ⟨hr_11_0, hr_11_1⟩ := hr_11
  refine lv_aload_n hx hb dX14_beginDiagnostics_25 rfl (lv_at hl 0 rfl) ?_
  refine j_ldcSw hx hb hown rstr724 dX14_beginDiagnostics_26 ?_
  refine va_callv (A0 := jA base) (H0 := s.heap) (va_runV (As := [.ref str724]) (rest := []) ⟨hx, hb, hml, hown, hts⟩ (uX14_word l dC dI ca base B hB hAp hB16 hB101 G0 H_10 r0 str724 11 qf_10) (cwV 1 hts (jgV (jWr_53 _ (List.mem_of_getElem? (i := 22) rfl)) (jWr_53 _ (List.mem_of_getElem? (i := 23) rfl)) (jWr_54 _ (List.mem_of_getElem? (i := 0) rfl)) (jWr_1 _ (List.mem_of_getElem? (i := 5) rfl)) (jWr_54 _ (List.mem_of_getElem? (i := 1) rfl))) rfl rfl rfl (by decide +kernel) ⟨by rw [← hR]; exact Nat.le_of_ble_eq_true rfl, by rw [← hR]; exact Nat.le_of_ble_eq_true rfl⟩) ⟨fun a U g mk q => by obtain ⟨q0, q1, q2, qK, q10, q11, q12, q13⟩ := q; exact ⟨q0, q1, q2, jG.calling g mk a qK, (q10.moved (Vm.Alike.refl U.vm)), q11, q12, q13⟩, hh_10.recv (C := RX14) (T := TX14) (N := 74) hB16 rfl (by decide) hg_r0 hK, fun U hU hW => ⟨rfl, hU, hh_10.2.1, hG.step hW hU hh_10.1, (hstr724.moved hW.alike).kept hh_10.1.2.1, hg_r0, (hh_10.2.2.1.sub (L1 := [(r0, 16, 6, .int qf_10)]) [0] rfl), by first | omega | (refine ⟨?_, ?_, ?_⟩ <;> (first | omega | rfl | assumption | decide | exact Or.inl rfl | exact Or.inr rfl | (simp only; omega)))⟩⟩ rfl rfl hl.1 rfl (lv_room (Nat.le_of_ble_eq_true rfl)) dX14_beginDiagnostics_29 ⟨Nat.zero_le _, Nat.zero_le _⟩) hh_10.1 (fun q _ h => h) (fun q h => h) (fun u_12 t_12 H_12 locs_12 ht_12 hvm_12 hr_13 hb_12 hz_12 hk_12 hS_12 => ?_)
  obtain ⟨qf_12, rfl⟩ : ∃ z, z = u_12 := ⟨_, rfl⟩
  rw [ht_12] at hb_12
  obtain ⟨hb_121, hb_122, hb_123, hb_124, hb_125⟩ := hb_12
  have hh_12 : jSt (dC, dI) B base G0 G0 EX14_beginDiagnostics s.heap 0 0 [(r0, 16, 6, .int qf_12), (r1, 14, 1, .int uriLength_9), (r1, 14, 0, .ref uri_6)] [] [] H_12 locs_12 := ((hh_10.call hb_121 hb_122 hb_123 hb_124 hS_12 rfl (L1 := [(r1, 14, 1, .int uriLength_9), (r1, 14, 0, .ref uri_6)]) [1, 2] rfl rfl (M1 := []) [] rfl rfl (I1 := []) [] rfl rfl).more hb_125)
  clear hh_10 ht_12 hvm_12 hz_12 hk_12 hS_12 hb_121 hb_122 hb_123 hb_124 hb_125
  obtain ⟨hr_13_0, hr_13_1⟩ := hr_13
  refine lv_aload_n hx hb dX14_beginDiagnostics_32 rfl (lv_at hl 0 rfl) ?_
  refine lv_aload_n hx hb dX14_beginDiagnostics_33 rfl (lv_at hl 1 rfl) ?_
  obtain ⟨v_14, hv_14, hh_15⟩ := hh_12.pin (C := RX12) (T := TX12) (N := 11) hB14 rfl (by decide) hg_r1 (i := 2) (by decide) rfl
  clear hh_12
  obtain ⟨version_16, rfl⟩ := hv_14
  refine j7_readN hx hb hown hK (C := RX12) (T := TX12) (N := 11) rfl hly_14_2 hlk_524 (hh_15.at 0 rfl) dX14_beginDiagnostics_34 ?_
  refine va_callv (A0 := jA base) (H0 := s.heap) (va_runV (As := [.int version_16]) (rest := []) ⟨hx, hb, hml, hown, hts⟩ (uX14_number l dC dI ca base B hB hAp hB16 hB101 G0 H_12 r0 version_16 qf_12) (cwV 1 hts (jgV (jWr_54 _ (List.mem_of_getElem? (i := 18) rfl)) (jWr_54 _ (List.mem_of_getElem? (i := 19) rfl)) (jWr_54 _ (List.mem_of_getElem? (i := 20) rfl)) (jWr_1 _ (List.mem_of_getElem? (i := 5) rfl)) (jWr_54 _ (List.mem_of_getElem? (i := 21) rfl))) rfl rfl rfl (by decide +kernel) ⟨by rw [← hR]; exact Nat.le_of_ble_eq_true rfl, by rw [← hR]; exact Nat.le_of_ble_eq_true rfl⟩) ⟨fun a U g mk q => by obtain ⟨q0, q1, q2, qK, q10, q11, q12⟩ := q; exact ⟨q0, q1, q2, jG.calling g mk a qK, q10, q11, q12⟩, hh_15.recv (C := RX14) (T := TX14) (N := 74) hB16 rfl (by decide) hg_r0 hK, fun U hU hW => ⟨rfl, hU, hh_15.2.1, hG.step hW hU hh_15.1, hg_r0, (hh_15.2.2.1.sub (L1 := [(r0, 16, 6, .int qf_12)]) [1] rfl), by first | omega | (refine ⟨?_, ?_⟩ <;> (first | omega | rfl | assumption | decide | exact Or.inl rfl | exact Or.inr rfl | (simp only; omega)))⟩⟩ rfl rfl hl.1 rfl (lv_room (Nat.le_of_ble_eq_true rfl)) dX14_beginDiagnostics_37 ⟨Nat.zero_le _, Nat.zero_le _⟩) hh_15.1 (fun q _ h => h) (fun q h => h) (fun u_17 t_17 H_17 locs_17 ht_17 hvm_17 hr_18 hb_17 hz_17 hk_17 hS_17 => ?_)
  obtain ⟨qf_17, rfl⟩ : ∃ z, z = u_17 := ⟨_, rfl⟩
  rw [ht_17] at hb_17
  obtain ⟨hb_171, hb_172, hb_173, hb_174, hb_175⟩ := hb_17
  have hh_17 : jSt (dC, dI) B base G0 G0 EX14_beginDiagnostics s.heap 0 0 [(r0, 16, 6, .int qf_17), (r1, 14, 2, .int version_16), (r1, 14, 1, .int uriLength_9), (r1, 14, 0, .ref uri_6)] [] [] H_17 locs_17 := ((hh_15.call hb_171 hb_172 hb_173 hb_174 hS_17 rfl (L1 := [(r1, 14, 2, .int version_16), (r1, 14, 1, .int uriLength_9), (r1, 14, 0, .ref uri_6)]) [0, 2, 3] rfl rfl (M1 := []) [] rfl rfl (I1 := []) [] rfl rfl).more hb_175)
  clear hh_15 ht_17 hvm_17 hz_17 hk_17 hS_17 hb_171 hb_172 hb_173 hb_174 hb_175
  obtain ⟨hr_18_0, hr_18_1⟩ := hr_18
  refine lv_aload_n hx hb dX14_beginDiagnostics_40 rfl (lv_at hl 0 rfl) ?_
  refine j_ldcSw hx hb hown rstr726 dX14_beginDiagnostics_41 ?_
  refine va_callv (A0 := jA base) (H0 := s.heap) (va_runV (As := [.ref str726]) (rest := []) ⟨hx, hb, hml, hown, hts⟩ (uX14_word l dC dI ca base B hB hAp hB16 hB101 G0 H_17 r0 str726 16 qf_17) (cwV 1 hts (jgV (jWr_53 _ (List.mem_of_getElem? (i := 22) rfl)) (jWr_53 _ (List.mem_of_getElem? (i := 23) rfl)) (jWr_54 _ (List.mem_of_getElem? (i := 0) rfl)) (jWr_1 _ (List.mem_of_getElem? (i := 5) rfl)) (jWr_54 _ (List.mem_of_getElem? (i := 1) rfl))) rfl rfl rfl (by decide +kernel) ⟨by rw [← hR]; exact Nat.le_of_ble_eq_true rfl, by rw [← hR]; exact Nat.le_of_ble_eq_true rfl⟩) ⟨fun a U g mk q => by obtain ⟨q0, q1, q2, qK, q10, q11, q12, q13⟩ := q; exact ⟨q0, q1, q2, jG.calling g mk a qK, (q10.moved (Vm.Alike.refl U.vm)), q11, q12, q13⟩, hh_17.recv (C := RX14) (T := TX14) (N := 74) hB16 rfl (by decide) hg_r0 hK, fun U hU hW => ⟨rfl, hU, hh_17.2.1, hG.step hW hU hh_17.1, (hstr726.moved hW.alike).kept hh_17.1.2.1, hg_r0, (hh_17.2.2.1.sub (L1 := [(r0, 16, 6, .int qf_17)]) [0] rfl), by first | omega | (refine ⟨?_, ?_, ?_⟩ <;> (first | omega | rfl | assumption | decide | exact Or.inl rfl | exact Or.inr rfl | (simp only; omega)))⟩⟩ rfl rfl hl.1 rfl (lv_room (Nat.le_of_ble_eq_true rfl)) dX14_beginDiagnostics_44 ⟨Nat.zero_le _, Nat.zero_le _⟩) hh_17.1 (fun q _ h => h) (fun q h => h) (fun u_19 t_19 H_19 locs_19 ht_19 hvm_19 hr_20 hb_19 hz_19 hk_19 hS_19 => ?_)
  obtain ⟨qf_19, rfl⟩ : ∃ z, z = u_19 := ⟨_, rfl⟩
  rw [ht_19] at hb_19
  obtain ⟨hb_191, hb_192, hb_193, hb_194, hb_195⟩ := hb_19
  have hh_19 : jSt (dC, dI) B base G0 G0 EX14_beginDiagnostics s.heap 0 0 [(r0, 16, 6, .int qf_19), (r1, 14, 2, .int version_16), (r1, 14, 1, .int uriLength_9), (r1, 14, 0, .ref uri_6)] [] [] H_19 locs_19 := ((hh_17.call hb_191 hb_192 hb_193 hb_194 hS_19 rfl (L1 := [(r1, 14, 2, .int version_16), (r1, 14, 1, .int uriLength_9), (r1, 14, 0, .ref uri_6)]) [1, 2, 3] rfl rfl (M1 := []) [] rfl rfl (I1 := []) [] rfl rfl).more hb_195)
  clear hh_17 ht_19 hvm_19 hz_19 hk_19 hS_19 hb_191 hb_192 hb_193 hb_194 hb_195
  obtain ⟨hr_20_0, hr_20_1⟩ := hr_20
  rw [hQ]
  exact W.vret hx hb hr (fun t ht hW => ⟨⟨(), rfl, trivial, hh_19.rt (M1 := []) [] rfl ht⟩, by rw [ht]; try exact hh_19.1.1, fun q h9 hq => by rw [ht]; try exact hh_19.1.2.1 q h9 hq⟩) hh_19.1.2.2 dX14_beginDiagnostics_47
set_option maxHeartbeats 4000000 in
set_option maxRecDepth 20000 in
theorem uX14_endDiagnostics (l : Launch) (dC : Nat → ClassId) (dI : Nat → Nat → Nat) (ca : Nat → ClassId) (base : Nat) (B : jF) (hB : jBok B) (hAp : jAp (dC, dI)) (hB16 : ∀ n G a H, B 16 n G a H ↔ jOb (dC, dI) 16 74 (F16 n G) a H) (hB101 : ∀ n G a H, B 101 n G a H ↔ jAr (dC, dI) (ca 1) (fun j z => True) n a H) (G0 : jT) (H0 : Heap) (r0 : Nat) : Met l yX14_endDiagnostics (jw yX14_endDiagnostics cX14_endDiagnostics 1 none) ({ frames := 13, cells := 0, slots := 0, locals := 485 }) (va_Pc [.ref r0] (fun U => U.heap = H0 ∧ jX B base G0 [] H0 ∧ jG dC dI ca base U ∧ G0 r0 = some (16, 0) ∧ jP (dC, dI) G0 H0 [] ∧ True)) (va_Qv (S := Unit) (fun u => True) (fun u t => jRt (dC, dI) B base G0 EX14_endDiagnostics H0 [] t.heap) (jA base)) 0 0 (jA base) := by
  refine Met.ofW (cc := cX14_endDiagnostics) (maxL := 1) (ret := none) (by decide) rfl ?_
  intro p e s m args below meth c s₁ Bd hml hv
  obtain ⟨rfl, hH0, hX, hG, hg_r0, hP0, hp0⟩ := hv
  have hK := hG.1
  have hx := Bd.exec
  have hb := Bd.bytes
  have hr := Bd.returns
  have hts := atoms_spec (ws := (jw yX14_endDiagnostics cX14_endDiagnostics 1 none)) Bd.pre
  have htw : ∀ w ∈ jWl, w.before _ s = true := fun w h => hts w (List.mem_cons_of_mem _ h)
  have hown : s.vm.findClass RX14 = some m.cls := findClass_of_methodNamed Bd.named
  have hlocks := Bd.notSynchronized
  obtain ⟨Q, hQ⟩ : ∃ Q, Q = MQ below (va_Qv (S := Unit) (fun u => True) (fun u t => jRt (dC, dI) B base G0 EX14_endDiagnostics H0 [] t.heap) (jA base)) ([.ref r0] : List Value).toArray s 0 0 (jA base) := ⟨_, rfl⟩
  rw [← hQ]
  have hl := lv_entry ([.ref r0]) (n := 1) (Nat.le_of_ble_eq_true rfl)
  rw [lg_entry_eq]
  generalize (lg_sl ([.ref r0]) ++ List.replicate (1 - (lg_sl ([.ref r0])).length) Slot.unset).toArray = ls at hl ⊢
  have hl : lv_has ls 1 [(0, .ref r0)] := hl
  generalize hR : (headSpec (jw yX14_endDiagnostics cX14_endDiagnostics 1 none) ({ frames := 13, cells := 0, slots := 0, locals := 485 })).room = R
  subst hH0
  have hh : jSt (dC, dI) B base G0 G0 EX14_endDiagnostics s.heap 0 0 [] [] [] s.heap [] := jSt.start hX hP0 jMc.nil jIs.nil
  clear hX hP0
  have hk0 : (0 : Int32).toInt = 0 := by decide
  have hk1 : (1 : Int32).toInt = 1 := by decide
  obtain ⟨str728, rstr728, hstr7280⟩ := hG.str (o := RX14) (k := 728) (tx := "]}}") (List.mem_of_getElem? (i := 2554) (by decide +kernel))
  have hstr728 : jStr base str728 3 s s.heap := hstr7280
  refine lv_aload_n hx hb dX14_endDiagnostics_0 rfl (lv_at hl 0 rfl) ?_
  refine j_ldcSw hx hb hown rstr728 dX14_endDiagnostics_1 ?_
  obtain ⟨v_3, hv_3, hh_4⟩ := hh.pin (C := RX14) (T := TX14) (N := 74) hB16 rfl (by decide) hg_r0 (i := 6) (by decide) rfl
  obtain ⟨framed_5, rfl, hloframed_5, hhiframed_5⟩ := hv_3
  refine va_callv (A0 := jA base) (H0 := s.heap) (va_runV (As := [.ref str728]) (rest := []) ⟨hx, hb, hml, hown, hts⟩ (uX14_word l dC dI ca base B hB hAp hB16 hB101 G0 s.heap r0 str728 3 framed_5) (cwV 1 hts (jgV (jWr_53 _ (List.mem_of_getElem? (i := 22) rfl)) (jWr_53 _ (List.mem_of_getElem? (i := 23) rfl)) (jWr_54 _ (List.mem_of_getElem? (i := 0) rfl)) (jWr_1 _ (List.mem_of_getElem? (i := 5) rfl)) (jWr_54 _ (List.mem_of_getElem? (i := 1) rfl))) rfl rfl rfl (by decide +kernel) ⟨by rw [← hR]; exact Nat.le_of_ble_eq_true rfl, by rw [← hR]; exact Nat.le_of_ble_eq_true rfl⟩) ⟨fun a U g mk q => by obtain ⟨q0, q1, q2, qK, q10, q11, q12, q13⟩ := q; exact ⟨q0, q1, q2, jG.calling g mk a qK, (q10.moved (Vm.Alike.refl U.vm)), q11, q12, q13⟩, hh_4.recv (C := RX14) (T := TX14) (N := 74) hB16 rfl (by decide) hg_r0 hK, fun U hU hW => ⟨rfl, hU, hh_4.2.1, hG.step hW hU hh_4.1, (hstr728.moved hW.alike).kept hh_4.1.2.1, hg_r0, (hh_4.2.2.1.sub (L1 := [(r0, 16, 6, .int framed_5)]) [0] rfl), by first | omega | (refine ⟨?_, ?_, ?_⟩ <;> (first | omega | rfl | assumption | decide | exact Or.inl rfl | exact Or.inr rfl | (simp only; omega)))⟩⟩ rfl rfl hl.1 rfl (lv_room (Nat.le_of_ble_eq_true rfl)) dX14_endDiagnostics_4 ⟨Nat.zero_le _, Nat.zero_le _⟩) hh_4.1 (fun q _ h => h) (fun q h => h) (fun u_1 t_1 H_1 locs_1 ht_1 hvm_1 hr_2 hb_1 hz_1 hk_1 hS_1 => ?_)
  obtain ⟨qf_1, rfl⟩ : ∃ z, z = u_1 := ⟨_, rfl⟩
  rw [ht_1] at hb_1
  obtain ⟨hb_11, hb_12, hb_13, hb_14, hb_15⟩ := hb_1
  have hh_1 : jSt (dC, dI) B base G0 G0 EX14_endDiagnostics s.heap 0 0 [(r0, 16, 6, .int qf_1)] [] [] H_1 locs_1 := ((hh_4.call hb_11 hb_12 hb_13 hb_14 hS_1 rfl (L1 := []) [] rfl rfl (M1 := []) [] rfl rfl (I1 := []) [] rfl rfl).more hb_15)
  clear hh_4 ht_1 hvm_1 hz_1 hk_1 hS_1 hb_11 hb_12 hb_13 hb_14 hb_15
  obtain ⟨hr_2_0, hr_2_1⟩ := hr_2
  refine lv_aload_n hx hb dX14_endDiagnostics_7 rfl (lv_at hl 0 rfl) ?_
  refine va_callv (A0 := jA base) (H0 := s.heap) (va_runV (As := []) (rest := []) ⟨hx, hb, hml, hown, hts⟩ (uX14_send l dC dI ca base B hB hAp hB16 hB101 G0 H_1 r0) (cwV 0 hts (jgV (jWr_55 _ (List.mem_of_getElem? (i := 10) rfl)) (jWr_55 _ (List.mem_of_getElem? (i := 11) rfl)) (jWr_55 _ (List.mem_of_getElem? (i := 12) rfl)) (jWr_1 _ (List.mem_of_getElem? (i := 5) rfl)) (jWr_55 _ (List.mem_of_getElem? (i := 13) rfl))) rfl rfl rfl (by decide +kernel) ⟨by rw [← hR]; exact Nat.le_of_ble_eq_true rfl, by rw [← hR]; exact Nat.le_of_ble_eq_true rfl⟩) ⟨fun a U g mk q => by obtain ⟨q0, q1, q2, qK, q10, q11, q12⟩ := q; exact ⟨q0, q1, q2, jG.calling g mk a qK, q10, q11, q12⟩, hh_1.recv (C := RX14) (T := TX14) (N := 74) hB16 rfl (by decide) hg_r0 hK, fun U hU hW => ⟨rfl, hU, hh_1.2.1, hG.step hW hU hh_1.1, hg_r0, jP.nil, trivial⟩⟩ rfl rfl hl.1 rfl (lv_room (Nat.le_of_ble_eq_true rfl)) dX14_endDiagnostics_8 ⟨Nat.zero_le _, Nat.zero_le _⟩) hh_1.1 (fun q _ h => h) (fun q h => h) (fun u_6 t_6 H_6 locs_6 ht_6 hvm_6 hr_7 hb_6 hz_6 hk_6 hS_6 => ?_)
  rw [ht_6] at hb_6
  obtain ⟨hb_61, hb_62, hb_63, hb_64, hb_65⟩ := hb_6
  have hh_6 : jSt (dC, dI) B base G0 G0 EX14_endDiagnostics s.heap 0 0 [] [] [] H_6 locs_6 := ((hh_1.call hb_61 hb_62 hb_63 hb_64 hS_6 rfl (L1 := []) [] rfl rfl (M1 := []) [] rfl rfl (I1 := []) [] rfl rfl).more hb_65)
  clear hh_1 ht_6 hvm_6 hz_6 hk_6 hS_6 hb_61 hb_62 hb_63 hb_64 hb_65
  rw [hQ]
  exact W.vret hx hb hr (fun t ht hW => ⟨⟨(), rfl, trivial, hh_6.rt (M1 := []) [] rfl ht⟩, by rw [ht]; try exact hh_6.1.1, fun q h9 hq => by rw [ht]; try exact hh_6.1.2.1 q h9 hq⟩) hh_6.1.2.2 dX14_endDiagnostics_11
set_option maxHeartbeats 4000000 in
set_option maxRecDepth 20000 in
theorem uX14_putLine (l : Launch) (dC : Nat → ClassId) (dI : Nat → Nat → Nat) (ca : Nat → ClassId) (base : Nat) (B : jF) (hB : jBok B) (hAp : jAp (dC, dI)) (hB15 : ∀ n G a H, B 15 n G a H ↔ jOb (dC, dI) 15 50 (F15 n G) a H) (hB16 : ∀ n G a H, B 16 n G a H ↔ jOb (dC, dI) 16 74 (F16 n G) a H) (hB101 : ∀ n G a H, B 101 n G a H ↔ jAr (dC, dI) (ca 1) (fun j z => True) n a H) (G0 : jT) (H0 : Heap) (r0 : Nat) (a1 : Int32) : Met l yX14_putLine (jw yX14_putLine cX14_putLine 2 none) ({ frames := 6, cells := 0, slots := 0, locals := 189 }) (va_Pc [.ref r0, .int a1] (fun U => U.heap = H0 ∧ jX B base G0 [] H0 ∧ jG dC dI ca base U ∧ G0 r0 = some (16, 0) ∧ jP (dC, dI) G0 H0 [] ∧ 0 ≤ a1.toInt ∧ a1.toInt ≤ 100000)) (va_Qv (S := Unit) (fun u => True) (fun u t => jRt (dC, dI) B base G0 EX14_putLine H0 [] t.heap) (jA base)) 0 0 (jA base) := by
  refine Met.ofW (cc := cX14_putLine) (maxL := 2) (ret := none) (by decide) rfl ?_
  intro p e s m args below meth c s₁ Bd hml hv
  obtain ⟨rfl, hH0, hX, hG, hg_r0, hP0, hp0, hp1⟩ := hv
  have hK := hG.1
  have hx := Bd.exec
  have hb := Bd.bytes
  have hr := Bd.returns
  have hts := atoms_spec (ws := (jw yX14_putLine cX14_putLine 2 none)) Bd.pre
  have htw : ∀ w ∈ jWl, w.before _ s = true := fun w h => hts w (List.mem_cons_of_mem _ h)
  have hown : s.vm.findClass RX14 = some m.cls := findClass_of_methodNamed Bd.named
  have hlocks := Bd.notSynchronized
  obtain ⟨Q, hQ⟩ : ∃ Q, Q = MQ below (va_Qv (S := Unit) (fun u => True) (fun u t => jRt (dC, dI) B base G0 EX14_putLine H0 [] t.heap) (jA base)) ([.ref r0, .int a1] : List Value).toArray s 0 0 (jA base) := ⟨_, rfl⟩
  rw [← hQ]
  have hl := lv_entry ([.ref r0, .int a1]) (n := 2) (Nat.le_of_ble_eq_true rfl)
  rw [lg_entry_eq]
  generalize (lg_sl ([.ref r0, .int a1]) ++ List.replicate (2 - (lg_sl ([.ref r0, .int a1])).length) Slot.unset).toArray = ls at hl ⊢
  have hl : lv_has ls 2 [(0, .ref r0), (1, .int a1)] := hl
  generalize hR : (headSpec (jw yX14_putLine cX14_putLine 2 none) ({ frames := 6, cells := 0, slots := 0, locals := 189 })).room = R
  subst hH0
  have hh : jSt (dC, dI) B base G0 G0 EX14_putLine s.heap 0 0 [] [] [] s.heap [] := jSt.start hX hP0 jMc.nil jIs.nil
  clear hX hP0
  have hk0 : (0 : Int32).toInt = 0 := by decide
  have hk1 : (1 : Int32).toInt = 1 := by decide
  have hly_15_45 := htw (u_lay RX13 TX13 45) (jWc_wsX130 _ (u_in_lay (by decide)))
  have hly_15_46 := htw (u_lay RX13 TX13 46) (jWc_wsX130 _ (u_in_lay (by decide)))
  have hly_16_58 := htw (u_lay RX14 TX14 58) (jWc_wsX140 _ (u_in_lay (by decide)))
  have hlk_122 := (htw (.fieldLink RX14 122 "ProofServerModel" "kernel" "LProofServerModel$Kernel;") (jWr_12 _ (List.mem_of_getElem? (i := 13) rfl)))
  have hlk_632 := (va_Nw.use (A := ([.ref r0, .int a1] : List Value).toArray) rfl (hG.2.1 RX14 632 "ProofServerModel$Kernel" "line" "[I" "ProofServerModel" (List.mem_of_getElem? (i := 1838) (by decide +kernel))))
  have hlk_634 := (va_Nw.use (A := ([.ref r0, .int a1] : List Value).toArray) rfl (hG.2.1 RX14 634 "ProofServerModel$Kernel" "lines" "I" "ProofServerModel" (List.mem_of_getElem? (i := 1840) (by decide +kernel))))
  have hrg_a1 := jb_rng a1
  refine lv_aload_n hx hb dX14_putLine_0 rfl (lv_at hl 0 rfl) ?_
  refine lv_aload_n hx hb dX14_putLine_1 rfl (lv_at hl 0 rfl) ?_
  obtain ⟨v_1, hv_1, hh_2⟩ := hh.pin (C := RX14) (T := TX14) (N := 74) hB16 rfl (by decide) hg_r0 (i := 58) (by decide) rfl
  clear hh
  obtain ⟨kernel_3, rfl, hg_kernel_3⟩ := hv_1
  refine j7_read hx hb hown hK (C := RX14) (T := TX14) (N := 74) rfl hly_16_58 hlk_122 (hh_2.at 0 rfl) dX14_putLine_2 ?_
  obtain ⟨v_4, hv_4, hh_5⟩ := hh_2.pin (C := RX13) (T := TX13) (N := 50) hB15 rfl (by decide) hg_kernel_3 (i := 45) (by decide) rfl
  clear hh_2
  obtain ⟨line_6, rfl, hg_line_6⟩ := hv_4
  refine j7_readN hx hb hown hK (C := RX13) (T := TX13) (N := 50) rfl hly_15_45 hlk_632 (hh_5.at 0 rfl) dX14_putLine_5 ?_
  refine lv_iload_n hx hb dX14_putLine_8 rfl (lv_at hl 1 rfl) ?_
  refine lv_aload_n hx hb dX14_putLine_9 rfl (lv_at hl 0 rfl) ?_
  refine j7_read hx hb hown hK (C := RX14) (T := TX14) (N := 74) rfl hly_16_58 hlk_122 (hh_5.at 1 rfl) dX14_putLine_10 ?_
  obtain ⟨v_7, hv_7, hh_8⟩ := hh_5.pin (C := RX13) (T := TX13) (N := 50) hB15 rfl (by decide) hg_kernel_3 (i := 46) (by decide) rfl
  clear hh_5
  obtain ⟨lines_9, rfl, hlolines_9, hhilines_9⟩ := hv_7
  refine j7_readN hx hb hown hK (C := RX13) (T := TX13) (N := 50) rfl hly_15_46 hlk_634 (hh_8.at 0 rfl) dX14_putLine_13 ?_
  obtain ⟨v_12, hv_12, hh_13⟩ := hh_8.pin (C := RX14) (T := TX14) (N := 74) hB16 rfl (by decide) hg_r0 (i := 6) (by decide) rfl
  obtain ⟨framed_14, rfl, hloframed_14, hhiframed_14⟩ := hv_12
  refine va_callv (A0 := jA base) (H0 := s.heap) (va_runV (As := [.ref line_6, .int a1, .int lines_9]) (rest := []) ⟨hx, hb, hml, hown, hts⟩ (uX14_string l dC dI ca base B hB hAp hB16 hB101 G0 s.heap r0 line_6 a1 lines_9 100000 framed_14) (cwV 3 hts (jgV (jWr_54 _ (List.mem_of_getElem? (i := 6) rfl)) (jWr_54 _ (List.mem_of_getElem? (i := 7) rfl)) (jWr_54 _ (List.mem_of_getElem? (i := 8) rfl)) (jWr_1 _ (List.mem_of_getElem? (i := 5) rfl)) (jWr_54 _ (List.mem_of_getElem? (i := 9) rfl))) rfl rfl rfl (by decide +kernel) ⟨by rw [← hR]; exact Nat.le_of_ble_eq_true rfl, by rw [← hR]; exact Nat.le_of_ble_eq_true rfl⟩) ⟨fun a U g mk q => by obtain ⟨q0, q1, q2, qK, q10, q11, q12, q13⟩ := q; exact ⟨q0, q1, q2, jG.calling g mk a qK, q10, q11, q12, q13⟩, hh_13.recv (C := RX14) (T := TX14) (N := 74) hB16 rfl (by decide) hg_r0 hK, fun U hU hW => ⟨rfl, hU, hh_13.2.1, hG.step hW hU hh_13.1, hg_line_6, hg_r0, (hh_13.2.2.1.sub (L1 := [(r0, 16, 6, .int framed_14)]) [0] rfl), by first | omega | (refine ⟨?_, ?_, ?_, ?_, ?_⟩ <;> (first | omega | rfl | assumption | decide | exact Or.inl rfl | exact Or.inr rfl | (simp only; omega)))⟩⟩ rfl rfl hl.1 rfl (lv_room (Nat.le_of_ble_eq_true rfl)) dX14_putLine_16 ⟨Nat.zero_le _, Nat.zero_le _⟩) hh_13.1 (fun q _ h => h) (fun q h => h) (fun u_10 t_10 H_10 locs_10 ht_10 hvm_10 hr_11 hb_10 hz_10 hk_10 hS_10 => ?_)
  obtain ⟨qf_10, rfl⟩ : ∃ z, z = u_10 := ⟨_, rfl⟩
  rw [ht_10] at hb_10
  obtain ⟨hb_101, hb_102, hb_103, hb_104, hb_105⟩ := hb_10
  have hh_10 : jSt (dC, dI) B base G0 G0 EX14_putLine s.heap 0 0 [(r0, 16, 6, .int qf_10), (kernel_3, 15, 46, .int lines_9), (kernel_3, 15, 45, .ref line_6), (r0, 16, 58, .ref kernel_3)] [] [] H_10 locs_10 := ((hh_13.call hb_101 hb_102 hb_103 hb_104 hS_10 rfl (L1 := [(kernel_3, 15, 46, .int lines_9), (kernel_3, 15, 45, .ref line_6), (r0, 16, 58, .ref kernel_3)]) [1, 2, 3] rfl rfl (M1 := []) [] rfl rfl (I1 := []) [] rfl rfl).more hb_105)
  clear hh_13 ht_10 hvm_10 hz_10 hk_10 hS_10 hb_101 hb_102 hb_103 hb_104 hb_105
  obtain ⟨hr_11_0, hr_11_1⟩ := hr_11
  refine lv_aload_n hx hb dX14_putLine_19 rfl (lv_at hl 0 rfl) ?_
  refine j7_read hx hb hown hK (C := RX14) (T := TX14) (N := 74) rfl hly_16_58 hlk_122 (hh_10.at 3 rfl) dX14_putLine_20 ?_
  refine lv_iload_n hx hb dX14_putLine_23 rfl (lv_at hl 1 rfl) ?_
  refine j7_putN hx hb hown hK hh_10 hB hAp hB15 (C := RX13) (T := TX13) (N := 50) rfl (by decide) hg_kernel_3 (i := 46) (by decide) hly_15_46 rfl hlk_634 rfl (ty := .int) (v := .int a1) (by decide +kernel) rfl rfl (⟨_, rfl, by omega, by omega⟩) rfl (L1 := [(r0, 16, 6, .int qf_10), (kernel_3, 15, 45, .ref line_6), (r0, 16, 58, .ref kernel_3)]) [0, 2, 3] rfl rfl rfl dX14_putLine_24 (fun H_15 locs_15 hh_15 => ?_)
  clear hh_10
  rw [hQ]
  exact W.vret hx hb hr (fun t ht hW => ⟨⟨(), rfl, trivial, hh_15.rt (M1 := []) [] rfl ht⟩, by rw [ht]; try exact hh_15.1.1, fun q h9 hq => by rw [ht]; try exact hh_15.1.2.1 q h9 hq⟩) hh_15.1.2.2 dX14_putLine_27
end
section
theorem dX14_release_0 : decode cX14_release 0 = .ok (.aload_n 0, 1) := by decide +kernel
theorem dX14_release_1 : decode cX14_release 1 = .ok (.iconst 0, 1) := by decide +kernel
theorem dX14_release_2 : decode cX14_release 2 = .ok (.putfield 374, 3) := by decide +kernel
theorem dX14_release_5 : decode cX14_release 5 = .ok (.aload_n 0, 1) := by decide +kernel
theorem dX14_release_6 : decode cX14_release 6 = .ok (.aload_n 0, 1) := by decide +kernel
theorem dX14_release_7 : decode cX14_release 7 = .ok (.getfield 100, 3) := by decide +kernel
theorem dX14_release_10 : decode cX14_release 10 = .ok (.iload_n 1, 1) := by decide +kernel
theorem dX14_release_11 : decode cX14_release 11 = .ok (.baload, 1) := by decide +kernel
theorem dX14_release_12 : decode cX14_release 12 = .ok (.putfield 377, 3) := by decide +kernel
theorem dX14_release_15 : decode cX14_release 15 = .ok (.aload_n 0, 1) := by decide +kernel
theorem dX14_release_16 : decode cX14_release 16 = .ok (.aload_n 0, 1) := by decide +kernel
theorem dX14_release_17 : decode cX14_release 17 = .ok (.getfield 103, 3) := by decide +kernel
theorem dX14_release_20 : decode cX14_release 20 = .ok (.iload_n 1, 1) := by decide +kernel
theorem dX14_release_21 : decode cX14_release 21 = .ok (.iaload, 1) := by decide +kernel
theorem dX14_release_22 : decode cX14_release 22 = .ok (.putfield 380, 3) := by decide +kernel
theorem dX14_release_25 : decode cX14_release 25 = .ok (.aload_n 0, 1) := by decide +kernel
theorem dX14_release_26 : decode cX14_release 26 = .ok (.aload_n 0, 1) := by decide +kernel
theorem dX14_release_27 : decode cX14_release 27 = .ok (.getfield 109, 3) := by decide +kernel
theorem dX14_release_30 : decode cX14_release 30 = .ok (.iload_n 1, 1) := by decide +kernel
theorem dX14_release_31 : decode cX14_release 31 = .ok (.iaload, 1) := by decide +kernel
theorem dX14_release_32 : decode cX14_release 32 = .ok (.putfield 383, 3) := by decide +kernel
theorem dX14_release_35 : decode cX14_release 35 = .ok (.iconst 0, 1) := by decide +kernel
theorem dX14_release_36 : decode cX14_release 36 = .ok (.istore_n 2, 1) := by decide +kernel
theorem dX14_release_37 : decode cX14_release 37 = .ok (.iload_n 2, 1) := by decide +kernel
theorem dX14_release_38 : decode cX14_release 38 = .ok (.aload_n 0, 1) := by decide +kernel
theorem dX14_release_39 : decode cX14_release 39 = .ok (.getfield 383, 3) := by decide +kernel
theorem dX14_release_42 : decode cX14_release 42 = .ok (.if_icmp .ge 26, 3) := by decide +kernel
theorem dX14_release_45 : decode cX14_release 45 = .ok (.aload_n 0, 1) := by decide +kernel
theorem dX14_release_46 : decode cX14_release 46 = .ok (.getfield 68, 3) := by decide +kernel
theorem dX14_release_49 : decode cX14_release 49 = .ok (.iload_n 2, 1) := by decide +kernel
theorem dX14_release_50 : decode cX14_release 50 = .ok (.aload_n 0, 1) := by decide +kernel
theorem dX14_release_51 : decode cX14_release 51 = .ok (.getfield 106, 3) := by decide +kernel
theorem dX14_release_54 : decode cX14_release 54 = .ok (.bipush 20, 2) := by decide +kernel
theorem dX14_release_56 : decode cX14_release 56 = .ok (.iload_n 1, 1) := by decide +kernel
theorem dX14_release_57 : decode cX14_release 57 = .ok (.imul, 1) := by decide +kernel
theorem dX14_release_58 : decode cX14_release 58 = .ok (.iload_n 2, 1) := by decide +kernel
theorem dX14_release_59 : decode cX14_release 59 = .ok (.iadd, 1) := by decide +kernel
theorem dX14_release_60 : decode cX14_release 60 = .ok (.iaload, 1) := by decide +kernel
theorem dX14_release_61 : decode cX14_release 61 = .ok (.iastore, 1) := by decide +kernel
theorem dX14_release_62 : decode cX14_release 62 = .ok (.iinc 2 1, 3) := by decide +kernel
theorem dX14_release_65 : decode cX14_release 65 = .ok (.goto (-28), 3) := by decide +kernel
theorem dX14_release_68 : decode cX14_release 68 = .ok (.iload_n 1, 1) := by decide +kernel
theorem dX14_release_69 : decode cX14_release 69 = .ok (.istore_n 2, 1) := by decide +kernel
theorem dX14_release_70 : decode cX14_release 70 = .ok (.iload_n 2, 1) := by decide +kernel
theorem dX14_release_71 : decode cX14_release 71 = .ok (.iconst 1, 1) := by decide +kernel
theorem dX14_release_72 : decode cX14_release 72 = .ok (.iadd, 1) := by decide +kernel
theorem dX14_release_73 : decode cX14_release 73 = .ok (.aload_n 0, 1) := by decide +kernel
theorem dX14_release_74 : decode cX14_release 74 = .ok (.getfield 711, 3) := by decide +kernel
theorem dX14_release_77 : decode cX14_release 77 = .ok (.if_icmp .ge 192, 3) := by decide +kernel
theorem dX14_release_80 : decode cX14_release 80 = .ok (.aload_n 0, 1) := by decide +kernel
theorem dX14_release_81 : decode cX14_release 81 = .ok (.getfield 91, 3) := by decide +kernel
theorem dX14_release_84 : decode cX14_release 84 = .ok (.iload_n 2, 1) := by decide +kernel
theorem dX14_release_85 : decode cX14_release 85 = .ok (.aload_n 0, 1) := by decide +kernel
theorem dX14_release_86 : decode cX14_release 86 = .ok (.getfield 91, 3) := by decide +kernel
theorem dX14_release_89 : decode cX14_release 89 = .ok (.iload_n 2, 1) := by decide +kernel
theorem dX14_release_90 : decode cX14_release 90 = .ok (.iconst 1, 1) := by decide +kernel
theorem dX14_release_91 : decode cX14_release 91 = .ok (.iadd, 1) := by decide +kernel
theorem dX14_release_92 : decode cX14_release 92 = .ok (.aaload, 1) := by decide +kernel
theorem dX14_release_93 : decode cX14_release 93 = .ok (.aastore, 1) := by decide +kernel
theorem dX14_release_94 : decode cX14_release 94 = .ok (.aload_n 0, 1) := by decide +kernel
theorem dX14_release_95 : decode cX14_release 95 = .ok (.getfield 94, 3) := by decide +kernel
theorem dX14_release_98 : decode cX14_release 98 = .ok (.iload_n 2, 1) := by decide +kernel
theorem dX14_release_99 : decode cX14_release 99 = .ok (.aload_n 0, 1) := by decide +kernel
theorem dX14_release_100 : decode cX14_release 100 = .ok (.getfield 94, 3) := by decide +kernel
theorem dX14_release_103 : decode cX14_release 103 = .ok (.iload_n 2, 1) := by decide +kernel
theorem dX14_release_104 : decode cX14_release 104 = .ok (.iconst 1, 1) := by decide +kernel
theorem dX14_release_105 : decode cX14_release 105 = .ok (.iadd, 1) := by decide +kernel
theorem dX14_release_106 : decode cX14_release 106 = .ok (.baload, 1) := by decide +kernel
theorem dX14_release_107 : decode cX14_release 107 = .ok (.bastore, 1) := by decide +kernel
theorem dX14_release_108 : decode cX14_release 108 = .ok (.aload_n 0, 1) := by decide +kernel
theorem dX14_release_109 : decode cX14_release 109 = .ok (.getfield 97, 3) := by decide +kernel
theorem dX14_release_112 : decode cX14_release 112 = .ok (.iload_n 2, 1) := by decide +kernel
theorem dX14_release_113 : decode cX14_release 113 = .ok (.aload_n 0, 1) := by decide +kernel
theorem dX14_release_114 : decode cX14_release 114 = .ok (.getfield 97, 3) := by decide +kernel
theorem dX14_release_117 : decode cX14_release 117 = .ok (.iload_n 2, 1) := by decide +kernel
theorem dX14_release_118 : decode cX14_release 118 = .ok (.iconst 1, 1) := by decide +kernel
theorem dX14_release_119 : decode cX14_release 119 = .ok (.iadd, 1) := by decide +kernel
theorem dX14_release_120 : decode cX14_release 120 = .ok (.iaload, 1) := by decide +kernel
theorem dX14_release_121 : decode cX14_release 121 = .ok (.iastore, 1) := by decide +kernel
theorem dX14_release_122 : decode cX14_release 122 = .ok (.aload_n 0, 1) := by decide +kernel
theorem dX14_release_123 : decode cX14_release 123 = .ok (.getfield 100, 3) := by decide +kernel
theorem dX14_release_126 : decode cX14_release 126 = .ok (.iload_n 2, 1) := by decide +kernel
theorem dX14_release_127 : decode cX14_release 127 = .ok (.aload_n 0, 1) := by decide +kernel
theorem dX14_release_128 : decode cX14_release 128 = .ok (.getfield 100, 3) := by decide +kernel
theorem dX14_release_131 : decode cX14_release 131 = .ok (.iload_n 2, 1) := by decide +kernel
theorem dX14_release_132 : decode cX14_release 132 = .ok (.iconst 1, 1) := by decide +kernel
theorem dX14_release_133 : decode cX14_release 133 = .ok (.iadd, 1) := by decide +kernel
theorem dX14_release_134 : decode cX14_release 134 = .ok (.baload, 1) := by decide +kernel
theorem dX14_release_135 : decode cX14_release 135 = .ok (.bastore, 1) := by decide +kernel
theorem dX14_release_136 : decode cX14_release 136 = .ok (.aload_n 0, 1) := by decide +kernel
theorem dX14_release_137 : decode cX14_release 137 = .ok (.getfield 103, 3) := by decide +kernel
theorem dX14_release_140 : decode cX14_release 140 = .ok (.iload_n 2, 1) := by decide +kernel
theorem dX14_release_141 : decode cX14_release 141 = .ok (.aload_n 0, 1) := by decide +kernel
theorem dX14_release_142 : decode cX14_release 142 = .ok (.getfield 103, 3) := by decide +kernel
theorem dX14_release_145 : decode cX14_release 145 = .ok (.iload_n 2, 1) := by decide +kernel
theorem dX14_release_146 : decode cX14_release 146 = .ok (.iconst 1, 1) := by decide +kernel
theorem dX14_release_147 : decode cX14_release 147 = .ok (.iadd, 1) := by decide +kernel
theorem dX14_release_148 : decode cX14_release 148 = .ok (.iaload, 1) := by decide +kernel
theorem dX14_release_149 : decode cX14_release 149 = .ok (.iastore, 1) := by decide +kernel
theorem dX14_release_150 : decode cX14_release 150 = .ok (.aload_n 0, 1) := by decide +kernel
theorem dX14_release_151 : decode cX14_release 151 = .ok (.getfield 109, 3) := by decide +kernel
theorem dX14_release_154 : decode cX14_release 154 = .ok (.iload_n 2, 1) := by decide +kernel
theorem dX14_release_155 : decode cX14_release 155 = .ok (.aload_n 0, 1) := by decide +kernel
theorem dX14_release_156 : decode cX14_release 156 = .ok (.getfield 109, 3) := by decide +kernel
theorem dX14_release_159 : decode cX14_release 159 = .ok (.iload_n 2, 1) := by decide +kernel
theorem dX14_release_160 : decode cX14_release 160 = .ok (.iconst 1, 1) := by decide +kernel
theorem dX14_release_161 : decode cX14_release 161 = .ok (.iadd, 1) := by decide +kernel
theorem dX14_release_162 : decode cX14_release 162 = .ok (.iaload, 1) := by decide +kernel
theorem dX14_release_163 : decode cX14_release 163 = .ok (.iastore, 1) := by decide +kernel
theorem dX14_release_164 : decode cX14_release 164 = .ok (.aload_n 0, 1) := by decide +kernel
theorem dX14_release_165 : decode cX14_release 165 = .ok (.getfield 116, 3) := by decide +kernel
theorem dX14_release_168 : decode cX14_release 168 = .ok (.iload_n 2, 1) := by decide +kernel
theorem dX14_release_169 : decode cX14_release 169 = .ok (.aload_n 0, 1) := by decide +kernel
theorem dX14_release_170 : decode cX14_release 170 = .ok (.getfield 116, 3) := by decide +kernel
theorem dX14_release_173 : decode cX14_release 173 = .ok (.iload_n 2, 1) := by decide +kernel
theorem dX14_release_174 : decode cX14_release 174 = .ok (.iconst 1, 1) := by decide +kernel
theorem dX14_release_175 : decode cX14_release 175 = .ok (.iadd, 1) := by decide +kernel
theorem dX14_release_176 : decode cX14_release 176 = .ok (.iaload, 1) := by decide +kernel
theorem dX14_release_177 : decode cX14_release 177 = .ok (.iastore, 1) := by decide +kernel
theorem dX14_release_178 : decode cX14_release 178 = .ok (.iconst 0, 1) := by decide +kernel
theorem dX14_release_179 : decode cX14_release 179 = .ok (.istore_n 3, 1) := by decide +kernel
theorem dX14_release_180 : decode cX14_release 180 = .ok (.iload_n 3, 1) := by decide +kernel
theorem dX14_release_181 : decode cX14_release 181 = .ok (.bipush 20, 2) := by decide +kernel
theorem dX14_release_183 : decode cX14_release 183 = .ok (.if_icmp .ge 34, 3) := by decide +kernel
theorem dX14_release_186 : decode cX14_release 186 = .ok (.aload_n 0, 1) := by decide +kernel
theorem dX14_release_187 : decode cX14_release 187 = .ok (.getfield 106, 3) := by decide +kernel
theorem dX14_release_190 : decode cX14_release 190 = .ok (.bipush 20, 2) := by decide +kernel
theorem dX14_release_192 : decode cX14_release 192 = .ok (.iload_n 2, 1) := by decide +kernel
theorem dX14_release_193 : decode cX14_release 193 = .ok (.imul, 1) := by decide +kernel
theorem dX14_release_194 : decode cX14_release 194 = .ok (.iload_n 3, 1) := by decide +kernel
theorem dX14_release_195 : decode cX14_release 195 = .ok (.iadd, 1) := by decide +kernel
theorem dX14_release_196 : decode cX14_release 196 = .ok (.aload_n 0, 1) := by decide +kernel
theorem dX14_release_197 : decode cX14_release 197 = .ok (.getfield 106, 3) := by decide +kernel
theorem dX14_release_200 : decode cX14_release 200 = .ok (.bipush 20, 2) := by decide +kernel
theorem dX14_release_202 : decode cX14_release 202 = .ok (.iload_n 2, 1) := by decide +kernel
theorem dX14_release_203 : decode cX14_release 203 = .ok (.imul, 1) := by decide +kernel
theorem dX14_release_204 : decode cX14_release 204 = .ok (.bipush 20, 2) := by decide +kernel
theorem dX14_release_206 : decode cX14_release 206 = .ok (.iadd, 1) := by decide +kernel
theorem dX14_release_207 : decode cX14_release 207 = .ok (.iload_n 3, 1) := by decide +kernel
theorem dX14_release_208 : decode cX14_release 208 = .ok (.iadd, 1) := by decide +kernel
theorem dX14_release_209 : decode cX14_release 209 = .ok (.iaload, 1) := by decide +kernel
theorem dX14_release_210 : decode cX14_release 210 = .ok (.iastore, 1) := by decide +kernel
theorem dX14_release_211 : decode cX14_release 211 = .ok (.iinc 3 1, 3) := by decide +kernel
theorem dX14_release_214 : decode cX14_release 214 = .ok (.goto (-34), 3) := by decide +kernel
theorem dX14_release_217 : decode cX14_release 217 = .ok (.iconst 0, 1) := by decide +kernel
theorem dX14_release_218 : decode cX14_release 218 = .ok (.istore_n 3, 1) := by decide +kernel
theorem dX14_release_219 : decode cX14_release 219 = .ok (.iload_n 3, 1) := by decide +kernel
theorem dX14_release_220 : decode cX14_release 220 = .ok (.aload_n 0, 1) := by decide +kernel
theorem dX14_release_221 : decode cX14_release 221 = .ok (.getfield 116, 3) := by decide +kernel
theorem dX14_release_224 : decode cX14_release 224 = .ok (.iload_n 2, 1) := by decide +kernel
theorem dX14_release_225 : decode cX14_release 225 = .ok (.iaload, 1) := by decide +kernel
theorem dX14_release_226 : decode cX14_release 226 = .ok (.if_icmp .ge 37, 3) := by decide +kernel
theorem dX14_release_229 : decode cX14_release 229 = .ok (.aload_n 0, 1) := by decide +kernel
theorem dX14_release_230 : decode cX14_release 230 = .ok (.getfield 113, 3) := by decide +kernel
theorem dX14_release_233 : decode cX14_release 233 = .ok (.sipush 3100, 3) := by decide +kernel
theorem dX14_release_236 : decode cX14_release 236 = .ok (.iload_n 2, 1) := by decide +kernel
theorem dX14_release_237 : decode cX14_release 237 = .ok (.imul, 1) := by decide +kernel
theorem dX14_release_238 : decode cX14_release 238 = .ok (.iload_n 3, 1) := by decide +kernel
theorem dX14_release_239 : decode cX14_release 239 = .ok (.iadd, 1) := by decide +kernel
theorem dX14_release_240 : decode cX14_release 240 = .ok (.aload_n 0, 1) := by decide +kernel
theorem dX14_release_241 : decode cX14_release 241 = .ok (.getfield 113, 3) := by decide +kernel
theorem dX14_release_244 : decode cX14_release 244 = .ok (.sipush 3100, 3) := by decide +kernel
theorem dX14_release_247 : decode cX14_release 247 = .ok (.iload_n 2, 1) := by decide +kernel
theorem dX14_release_248 : decode cX14_release 248 = .ok (.imul, 1) := by decide +kernel
theorem dX14_release_249 : decode cX14_release 249 = .ok (.sipush 3100, 3) := by decide +kernel
theorem dX14_release_252 : decode cX14_release 252 = .ok (.iadd, 1) := by decide +kernel
theorem dX14_release_253 : decode cX14_release 253 = .ok (.iload_n 3, 1) := by decide +kernel
theorem dX14_release_254 : decode cX14_release 254 = .ok (.iadd, 1) := by decide +kernel
theorem dX14_release_255 : decode cX14_release 255 = .ok (.iaload, 1) := by decide +kernel
theorem dX14_release_256 : decode cX14_release 256 = .ok (.iastore, 1) := by decide +kernel
theorem dX14_release_257 : decode cX14_release 257 = .ok (.iinc 3 1, 3) := by decide +kernel
theorem dX14_release_260 : decode cX14_release 260 = .ok (.goto (-41), 3) := by decide +kernel
theorem dX14_release_263 : decode cX14_release 263 = .ok (.iinc 2 1, 3) := by decide +kernel
theorem dX14_release_266 : decode cX14_release 266 = .ok (.goto (-196), 3) := by decide +kernel
theorem dX14_release_269 : decode cX14_release 269 = .ok (.aload_n 0, 1) := by decide +kernel
theorem dX14_release_270 : decode cX14_release 270 = .ok (.dup, 1) := by decide +kernel
theorem dX14_release_271 : decode cX14_release 271 = .ok (.getfield 711, 3) := by decide +kernel
theorem dX14_release_274 : decode cX14_release 274 = .ok (.iconst 1, 1) := by decide +kernel
theorem dX14_release_275 : decode cX14_release 275 = .ok (.isub, 1) := by decide +kernel
theorem dX14_release_276 : decode cX14_release 276 = .ok (.putfield 711, 3) := by decide +kernel
theorem dX14_release_279 : decode cX14_release 279 = .ok (.return_, 1) := by decide +kernel
def EX14_release : List (Nat × Nat) := [(16, 36), (16, 37), (16, 39), (16, 40), (16, 48), (101, 0), (103, 0), (202, 0), (203, 0), (204, 0), (206, 0)]
set_option maxHeartbeats 4000000 in
set_option maxRecDepth 20000 in
theorem uX14_release (l : Launch) (dC : Nat → ClassId) (dI : Nat → Nat → Nat) (ca : Nat → ClassId) (base : Nat) (B : jF) (hB : jBok B) (hAp : jAp (dC, dI)) (hB14 : ∀ n G a H, B 14 n G a H ↔ jOb (dC, dI) 14 11 (F14 n G) a H) (hB16 : ∀ n G a H, B 16 n G a H ↔ jOb (dC, dI) 16 74 (F16 n G) a H) (hB101 : ∀ n G a H, B 101 n G a H ↔ jAr (dC, dI) (ca 1) (fun j z => True) n a H) (hB103 : ∀ n G a H, B 103 n G a H ↔ jAr (dC, dI) (ca 3) (fun j z => (z = 0 ∨ z = 1)) n a H) (hB202 : ∀ n G a H, B 202 n G a H ↔ jAq (dC, dI) (ca 4) (jQn 14 0) n G a H) (hB203 : ∀ n G a H, B 203 n G a H ↔ jAr (dC, dI) (ca 1) (fun j z => -3300 ≤ z.toInt ∧ z.toInt ≤ 20) n a H) (hB204 : ∀ n G a H, B 204 n G a H ↔ jAr (dC, dI) (ca 1) (fun j z => -3100 ≤ z.toInt ∧ z.toInt ≤ 3100) n a H) (hB206 : ∀ n G a H, B 206 n G a H ↔ jAr (dC, dI) (ca 1) (fun j z => 0 ≤ z.toInt ∧ z.toInt ≤ 40) n a H) (G0 : jT) (H0 : Heap) (r0 : Nat) (a1 : Int32) (pw : Int32) : Met l yX14_release (jw yX14_release cX14_release 4 none) ({ frames := 0, cells := 0, slots := 0, locals := 0 }) (va_Pc [.ref r0, .int a1] (fun U => U.heap = H0 ∧ jX B base G0 [] H0 ∧ jG dC dI ca base U ∧ jK2 dC dI ca U ∧ G0 r0 = some (16, 0) ∧ jP (dC, dI) G0 H0 [(r0, 16, 48, .int pw)] ∧ 0 ≤ a1.toInt ∧ a1.toInt < pw.toInt ∧ pw.toInt ≤ 12)) (va_Qv (S := Int32) (fun u => u.toInt = pw.toInt - 1) (fun u t => jRt (dC, dI) B base G0 EX14_release H0 [(r0, 16, 48, .int u)] t.heap) (jA base)) 0 0 (jA base) := by
  refine Met.ofW (cc := cX14_release) (maxL := 4) (ret := none) (by decide) rfl ?_
  intro p e s m args below meth c s₁ Bd hml hv
  obtain ⟨rfl, hH0, hX, hG, hK2, hg_r0, hP0, hp0, hp1, hp2⟩ := hv
  have hK := hG.1
  have hx := Bd.exec
  have hb := Bd.bytes
  have hr := Bd.returns
  have hts := atoms_spec (ws := (jw yX14_release cX14_release 4 none)) Bd.pre
  have htw : ∀ w ∈ jWl, w.before _ s = true := fun w h => hts w (List.mem_cons_of_mem _ h)
  have hown : s.vm.findClass RX14 = some m.cls := findClass_of_methodNamed Bd.named
  have hlocks := Bd.notSynchronized
  obtain ⟨Q, hQ⟩ : ∃ Q, Q = MQ below (va_Qv (S := Int32) (fun u => u.toInt = pw.toInt - 1) (fun u t => jRt (dC, dI) B base G0 EX14_release H0 [(r0, 16, 48, .int u)] t.heap) (jA base)) ([.ref r0, .int a1] : List Value).toArray s 0 0 (jA base) := ⟨_, rfl⟩
  rw [← hQ]
  have hl := lv_entry ([.ref r0, .int a1]) (n := 4) (Nat.le_of_ble_eq_true rfl)
  rw [lg_entry_eq]
  generalize (lg_sl ([.ref r0, .int a1]) ++ List.replicate (4 - (lg_sl ([.ref r0, .int a1])).length) Slot.unset).toArray = ls at hl ⊢
  have hl : lv_has ls 4 [(0, .ref r0), (1, .int a1)] := hl
  generalize hR : (headSpec (jw yX14_release cX14_release 4 none) ({ frames := 0, cells := 0, slots := 0, locals := 0 })).room = R
  subst hH0
  have hh : jSt (dC, dI) B base G0 G0 EX14_release s.heap 0 0 [(r0, 16, 48, .int pw)] [] [] s.heap [] := jSt.start hX hP0 jMc.nil jIs.nil
  clear hX hP0
  have hk0 : (0 : Int32).toInt = 0 := by decide
  have hk1 : (1 : Int32).toInt = 1 := by decide
  have hk20 : (20 : Int32).toInt = 20 := by decide
  have hk3100 : (3100 : Int32).toInt = 3100 := by decide
  have hly_16_36 := htw (u_lay RX14 TX14 36) (jWc_wsX140 _ (u_in_lay (by decide)))
  have hly_16_37 := htw (u_lay RX14 TX14 37) (jWc_wsX140 _ (u_in_lay (by decide)))
  have hly_16_38 := htw (u_lay RX14 TX14 38) (jWc_wsX140 _ (u_in_lay (by decide)))
  have hly_16_39 := htw (u_lay RX14 TX14 39) (jWc_wsX140 _ (u_in_lay (by decide)))
  have hly_16_40 := htw (u_lay RX14 TX14 40) (jWc_wsX140 _ (u_in_lay (by decide)))
  have hly_16_48 := htw (u_lay RX14 TX14 48) (jWc_wsX140 _ (u_in_lay (by decide)))
  have hly_16_49 := htw (u_lay RX14 TX14 49) (jWc_wsX140 _ (u_in_lay (by decide)))
  have hly_16_50 := htw (u_lay RX14 TX14 50) (jWc_wsX140 _ (u_in_lay (by decide)))
  have hly_16_51 := htw (u_lay RX14 TX14 51) (jWc_wsX140 _ (u_in_lay (by decide)))
  have hly_16_52 := htw (u_lay RX14 TX14 52) (jWc_wsX140 _ (u_in_lay (by decide)))
  have hly_16_53 := htw (u_lay RX14 TX14 53) (jWc_wsX140 _ (u_in_lay (by decide)))
  have hly_16_54 := htw (u_lay RX14 TX14 54) (jWc_wsX140 _ (u_in_lay (by decide)))
  have hly_16_55 := htw (u_lay RX14 TX14 55) (jWc_wsX140 _ (u_in_lay (by decide)))
  have hly_16_56 := htw (u_lay RX14 TX14 56) (jWc_wsX140 _ (u_in_lay (by decide)))
  have hly_16_57 := htw (u_lay RX14 TX14 57) (jWc_wsX140 _ (u_in_lay (by decide)))
  have hlk_374 := (htw (.fieldLink RX14 374 "ProofServerModel" "idNull" "Z") (jWr_50 _ (List.mem_of_getElem? (i := 10) rfl)))
  have hlk_100 := (htw (.fieldLink RX14 100 "ProofServerModel" "waitString" "[Z") (jWr_12 _ (List.mem_of_getElem? (i := 3) rfl)))
  have hlk_377 := (htw (.fieldLink RX14 377 "ProofServerModel" "idString" "Z") (jWr_53 _ (List.mem_of_getElem? (i := 19) rfl)))
  have hlk_103 := (htw (.fieldLink RX14 103 "ProofServerModel" "waitInt" "[I") (jWr_12 _ (List.mem_of_getElem? (i := 4) rfl)))
  have hlk_380 := (htw (.fieldLink RX14 380 "ProofServerModel" "idInt" "I") (jWr_53 _ (List.mem_of_getElem? (i := 21) rfl)))
  have hlk_109 := (htw (.fieldLink RX14 109 "ProofServerModel" "waitLength" "[I") (jWr_12 _ (List.mem_of_getElem? (i := 6) rfl)))
  have hlk_383 := (htw (.fieldLink RX14 383 "ProofServerModel" "idLength" "I") (jWr_53 _ (List.mem_of_getElem? (i := 20) rfl)))
  have hlk_68 := (htw (.fieldLink RX14 68 "ProofServerModel" "idUnits" "[I") (jWr_11 _ (List.mem_of_getElem? (i := 15) rfl)))
  have hlk_106 := (htw (.fieldLink RX14 106 "ProofServerModel" "waitUnits" "[I") (jWr_12 _ (List.mem_of_getElem? (i := 5) rfl)))
  have hlk_711 := (htw (.fieldLink RX14 711 "ProofServerModel" "waits" "I") (jWr_58 _ (List.mem_of_getElem? (i := 11) rfl)))
  have hlk_91 := (htw (.fieldLink RX14 91 "ProofServerModel" "waitOf" "[LProofServerModel$Document;") (jWr_12 _ (List.mem_of_getElem? (i := 0) rfl)))
  have hlk_94 := (htw (.fieldLink RX14 94 "ProofServerModel" "waitGoals" "[Z") (jWr_12 _ (List.mem_of_getElem? (i := 1) rfl)))
  have hlk_97 := (htw (.fieldLink RX14 97 "ProofServerModel" "waitNeed" "[I") (jWr_12 _ (List.mem_of_getElem? (i := 2) rfl)))
  have hlk_116 := (htw (.fieldLink RX14 116 "ProofServerModel" "waitNameLength" "[I") (jWr_12 _ (List.mem_of_getElem? (i := 9) rfl)))
  have hlk_113 := (htw (.fieldLink RX14 113 "ProofServerModel" "waitName" "[I") (jWr_12 _ (List.mem_of_getElem? (i := 8) rfl)))
  have hrg_a1 := jb_rng a1
  refine lv_aload_n hx hb dX14_release_0 rfl (lv_at hl 0 rfl) ?_
  refine lv_iconst (v := 0) hx hb dX14_release_1 (by decide) ?_
  refine j7_put hx hb hown hK hh hB hAp hB16 (C := RX14) (T := TX14) (N := 74) rfl (by decide) hg_r0 (i := 40) (by decide) hly_16_40 rfl hlk_374 rfl (ty := .boolean) (v := .int 0) (by decide +kernel) (jb_nz (Or.inl rfl)) (jb_fz (Or.inl rfl)) (⟨_, rfl, (Or.inl rfl)⟩) rfl (L1 := [(r0, 16, 48, .int pw)]) [0] rfl rfl rfl dX14_release_2 (fun H_1 locs_1 hh_1 => ?_)
  clear hh
  refine lv_aload_n hx hb dX14_release_5 rfl (lv_at hl 0 rfl) ?_
  refine lv_aload_n hx hb dX14_release_6 rfl (lv_at hl 0 rfl) ?_
  obtain ⟨v_2, hv_2, hh_3⟩ := hh_1.pin (C := RX14) (T := TX14) (N := 74) hB16 rfl (by decide) hg_r0 (i := 52) (by decide) rfl
  clear hh_1
  obtain ⟨waitString_4, rfl, hg_waitString_4⟩ := hv_2
  refine j7_read hx hb hown hK (C := RX14) (T := TX14) (N := 74) rfl hly_16_52 hlk_100 (hh_3.at 0 rfl) dX14_release_7 ?_
  refine lv_iload_n hx hb dX14_release_10 rfl (lv_at hl 1 rfl) ?_
  refine j7_zald hx hb hK hh_3 hB103 3 rfl (by decide) hg_waitString_4 (x := a1.toInt) (rfl) (by omega) dX14_release_11 (fun z_5 (hz_5 : (z_5 = 0 ∨ z_5 = 1)) => ?_)
  have hz_5' := jb_01 hz_5
  refine j7_put hx hb hown hK hh_3 hB hAp hB16 (C := RX14) (T := TX14) (N := 74) rfl (by decide) hg_r0 (i := 36) (by decide) hly_16_36 rfl hlk_377 rfl (ty := .boolean) (v := .int z_5) (by decide +kernel) (jb_nz (hz_5)) (jb_fz (hz_5)) (⟨_, rfl, (hz_5)⟩) rfl (L1 := [(r0, 16, 52, .ref waitString_4), (r0, 16, 40, .int 0), (r0, 16, 48, .int pw)]) [0, 1, 2] rfl rfl rfl dX14_release_12 (fun H_6 locs_6 hh_6 => ?_)
  clear hh_3
  refine lv_aload_n hx hb dX14_release_15 rfl (lv_at hl 0 rfl) ?_
  refine lv_aload_n hx hb dX14_release_16 rfl (lv_at hl 0 rfl) ?_
  obtain ⟨v_7, hv_7, hh_8⟩ := hh_6.pin (C := RX14) (T := TX14) (N := 74) hB16 rfl (by decide) hg_r0 (i := 53) (by decide) rfl
  clear hh_6
  obtain ⟨waitInt_9, rfl, hg_waitInt_9⟩ := hv_7
  refine j7_read hx hb hown hK (C := RX14) (T := TX14) (N := 74) rfl hly_16_53 hlk_103 (hh_8.at 0 rfl) dX14_release_17 ?_
  refine lv_iload_n hx hb dX14_release_20 rfl (lv_at hl 1 rfl) ?_
  refine j7_iald hx hb hK hh_8 hB101 1 rfl (by decide) hg_waitInt_9 (x := a1.toInt) (rfl) (by omega) dX14_release_21 (fun z_10 (hz_10 : True) => ?_)
  refine j7_put hx hb hown hK hh_8 hB hAp hB16 (C := RX14) (T := TX14) (N := 74) rfl (by decide) hg_r0 (i := 37) (by decide) hly_16_37 rfl hlk_380 rfl (ty := .int) (v := .int z_10) (by decide +kernel) rfl rfl (⟨_, rfl⟩) rfl (L1 := [(r0, 16, 53, .ref waitInt_9), (r0, 16, 36, .int z_5), (r0, 16, 52, .ref waitString_4), (r0, 16, 40, .int 0), (r0, 16, 48, .int pw)]) [0, 1, 2, 3, 4] rfl rfl rfl dX14_release_22 (fun H_11 locs_11 hh_11 => ?_)
  clear hh_8
  refine lv_aload_n hx hb dX14_release_25 rfl (lv_at hl 0 rfl) ?_
  refine lv_aload_n hx hb dX14_release_26 rfl (lv_at hl 0 rfl) ?_
  obtain ⟨v_12, hv_12, hh_13⟩ := hh_11.pin (C := RX14) (T := TX14) (N := 74) hB16 rfl (by decide) hg_r0 (i := 55) (by decide) rfl
  clear hh_11
  obtain ⟨waitLength_14, rfl, hg_waitLength_14⟩ := hv_12
  refine j7_read hx hb hown hK (C := RX14) (T := TX14) (N := 74) rfl hly_16_55 hlk_109 (hh_13.at 0 rfl) dX14_release_27 ?_
  refine lv_iload_n hx hb dX14_release_30 rfl (lv_at hl 1 rfl) ?_
  refine j7_iald hx hb hK hh_13 hB203 1 rfl (by decide) hg_waitLength_14 (x := a1.toInt) (rfl) (by omega) dX14_release_31 (fun z_15 (hz_15 : -3300 ≤ z_15.toInt ∧ z_15.toInt ≤ 20) => ?_)
  refine j7_put hx hb hown hK hh_13 hB hAp hB16 (C := RX14) (T := TX14) (N := 74) rfl (by decide) hg_r0 (i := 39) (by decide) hly_16_39 rfl hlk_383 rfl (ty := .int) (v := .int z_15) (by decide +kernel) rfl rfl (⟨_, rfl, by omega, by omega⟩) rfl (L1 := [(r0, 16, 55, .ref waitLength_14), (r0, 16, 37, .int z_10), (r0, 16, 53, .ref waitInt_9), (r0, 16, 36, .int z_5), (r0, 16, 52, .ref waitString_4), (r0, 16, 40, .int 0), (r0, 16, 48, .int pw)]) [0, 1, 2, 3, 4, 5, 6] rfl rfl rfl dX14_release_32 (fun H_16 locs_16 hh_16 => ?_)
  clear hh_13
  refine lv_iconst (v := 0) hx hb dX14_release_35 (by decide) ?_
  refine lv_istore_n (lv' := [(2, .int 0), (0, .ref r0), (1, .int a1)]) hx hb dX14_release_36 rfl hl (by decide) rfl (fun ls hl => ?_)
  have L37 : ∀ (N : Nat) (v2_17 : Int32) (H_17 : Heap) (locs_17 : List Loc), jSt (dC, dI) B base G0 G0 EX14_release s.heap 0 0 [(r0, 16, 39, .int z_15), (r0, 16, 55, .ref waitLength_14), (r0, 16, 37, .int z_10), (r0, 16, 53, .ref waitInt_9), (r0, 16, 36, .int z_5), (r0, 16, 52, .ref waitString_4), (r0, 16, 40, .int 0), (r0, 16, 48, .int pw)] [] [] H_17 locs_17 → (0 ≤ v2_17.toInt ∧ v2_17.toInt ≤ 20) → (20 - v2_17.toInt : Int) < N → ∀ ls : Array Slot, lv_has ls 4 [(0, .ref r0), (1, .int a1), (2, .int v2_17)] → W p l e R s m ([.ref r0, .int a1] : List Value).toArray below meth c H_17 locs_17 0 0 Q (F0 m 37 ls []) := by
    intro N
    induction N with
    | zero => intro v2_17 H_17 locs_17 hh_17  hi_17 hm; exact absurd hm (by omega)
    | succ N L37 =>
      intro v2_17 H_17 locs_17 hh_17  hi_17 hm_17 ls hl
      obtain ⟨hi_17_0, hi_17_1⟩ := hi_17
      refine lv_iload_n hx hb dX14_release_37 rfl (lv_at hl 2 rfl) ?_
      refine lv_aload_n hx hb dX14_release_38 rfl (lv_at hl 0 rfl) ?_
      refine j7_read hx hb hown hK (C := RX14) (T := TX14) (N := 74) rfl hly_16_39 hlk_383 (hh_17.at 0 rfl) dX14_release_39 ?_
      refine lv_icmp_ge (tgt := 68) hx hb dX14_release_42 (by decide) (fun c_18 => ?_) (fun c_18 => ?_)
      · skip
        have c_18' : v2_17.toInt ≥ z_15.toInt := jb_ge (rfl) (rfl) c_18
        refine lv_iload_n hx hb dX14_release_68 rfl (lv_at hl 1 rfl) ?_
        refine lv_istore_n (lv' := [(2, .int a1), (0, .ref r0), (1, .int a1)]) hx hb dX14_release_69 rfl hl (by decide) rfl (fun ls hl => ?_)
        have L70 : ∀ (N : Nat) (v2_19 : Int32) (H_19 : Heap) (locs_19 : List Loc), jSt (dC, dI) B base G0 G0 EX14_release s.heap 0 0 [(r0, 16, 39, .int z_15), (r0, 16, 55, .ref waitLength_14), (r0, 16, 37, .int z_10), (r0, 16, 53, .ref waitInt_9), (r0, 16, 36, .int z_5), (r0, 16, 52, .ref waitString_4), (r0, 16, 40, .int 0), (r0, 16, 48, .int pw)] [] [] H_19 locs_19 → (0 ≤ v2_19.toInt ∧ v2_19.toInt ≤ 12) → (((pw.toInt - v2_19.toInt).toNat : Int) : Int) < N → ∀ ls : Array Slot, lv_has ls 4 [(0, .ref r0), (1, .int a1), (2, .int v2_19)] → W p l e R s m ([.ref r0, .int a1] : List Value).toArray below meth c H_19 locs_19 0 0 Q (F0 m 70 ls []) := by
          intro N
          induction N with
          | zero => intro v2_19 H_19 locs_19 hh_19  hi_19 hm; exact absurd hm (by omega)
          | succ N L70 =>
            intro v2_19 H_19 locs_19 hh_19  hi_19 hm_19 ls hl
            obtain ⟨hi_19_0, hi_19_1⟩ := hi_19
            refine lv_iload_n hx hb dX14_release_70 rfl (lv_at hl 2 rfl) ?_
            refine lv_iconst (v := 1) hx hb dX14_release_71 (by decide) ?_
            refine lv_iadd hx hb dX14_release_72 ?_
            refine lv_topi (fun z_20 ez_20 => ?_)
            have hz_20 : z_20.toInt = v2_19.toInt + 1 := by rw [ez_20]; exact jb_iadd2 (rfl) ((by decide)) (by omega)
            refine lv_aload_n hx hb dX14_release_73 rfl (lv_at hl 0 rfl) ?_
            refine j7_read hx hb hown hK (C := RX14) (T := TX14) (N := 74) rfl hly_16_48 hlk_711 (hh_19.at 7 rfl) dX14_release_74 ?_
            refine lv_icmp_ge (tgt := 269) hx hb dX14_release_77 (by decide) (fun c_21 => ?_) (fun c_21 => ?_)
            · skip
              have c_21' : z_20.toInt ≥ pw.toInt := jb_ge (rfl) (rfl) c_21
              refine lv_aload_n hx hb dX14_release_269 rfl (lv_at hl 0 rfl) ?_
              refine lv_dup hx hb dX14_release_270 rfl ?_
              refine j7_read hx hb hown hK (C := RX14) (T := TX14) (N := 74) rfl hly_16_48 hlk_711 (hh_19.at 7 rfl) dX14_release_271 ?_
              refine lv_iconst (v := 1) hx hb dX14_release_274 (by decide) ?_
              refine lv_isub hx hb dX14_release_275 ?_
              refine lv_topi (fun z_22 ez_22 => ?_)
              have hz_22 : z_22.toInt = pw.toInt - 1 := by rw [ez_22]; exact jb_isub2 (rfl) ((by decide)) (by omega)
              refine j7_put hx hb hown hK hh_19 hB hAp hB16 (C := RX14) (T := TX14) (N := 74) rfl (by decide) hg_r0 (i := 48) (by decide) hly_16_48 rfl hlk_711 rfl (ty := .int) (v := .int z_22) (by decide +kernel) rfl rfl (⟨_, rfl, by omega, by omega⟩) rfl (L1 := [(r0, 16, 39, .int z_15), (r0, 16, 55, .ref waitLength_14), (r0, 16, 37, .int z_10), (r0, 16, 53, .ref waitInt_9), (r0, 16, 36, .int z_5), (r0, 16, 52, .ref waitString_4), (r0, 16, 40, .int 0)]) [0, 1, 2, 3, 4, 5, 6] rfl rfl rfl dX14_release_276 (fun H_23 locs_23 hh_23 => ?_)
              clear hh_19
              rw [hQ]
              exact W.vret hx hb hr (fun t ht hW => ⟨⟨z_22, rfl, by first | omega | rfl | assumption | decide | exact Or.inl rfl | exact Or.inr rfl | (simp only; omega), hh_23.rt (M1 := [(r0, 16, 48, .int z_22)]) [0] rfl ht⟩, by rw [ht]; try exact hh_23.1.1, fun q h9 hq => by rw [ht]; try exact hh_23.1.2.1 q h9 hq⟩) hh_23.1.2.2 dX14_release_279
            · skip
              have c_21' : z_20.toInt < pw.toInt := jb_ge_n (rfl) (rfl) c_21
              refine lv_aload_n hx hb dX14_release_80 rfl (lv_at hl 0 rfl) ?_
              obtain ⟨v_24, hv_24, hh_25⟩ := hh_19.pin (C := RX14) (T := TX14) (N := 74) hB16 rfl (by decide) hg_r0 (i := 49) (by decide) rfl
              clear hh_19
              obtain ⟨waitOf_26, rfl, hg_waitOf_26⟩ := hv_24
              refine j7_read hx hb hown hK (C := RX14) (T := TX14) (N := 74) rfl hly_16_49 hlk_91 (hh_25.at 0 rfl) dX14_release_81 ?_
              refine lv_iload_n hx hb dX14_release_84 rfl (lv_at hl 2 rfl) ?_
              refine lv_aload_n hx hb dX14_release_85 rfl (lv_at hl 0 rfl) ?_
              refine j7_read hx hb hown hK (C := RX14) (T := TX14) (N := 74) rfl hly_16_49 hlk_91 (hh_25.at 0 rfl) dX14_release_86 ?_
              refine lv_iload_n hx hb dX14_release_89 rfl (lv_at hl 2 rfl) ?_
              refine lv_iconst (v := 1) hx hb dX14_release_90 (by decide) ?_
              refine lv_iadd hx hb dX14_release_91 ?_
              refine lv_topi (fun z_27 ez_27 => ?_)
              have hz_27 : z_27.toInt = v2_19.toInt + 1 := by rw [ez_27]; exact jb_iadd2 (rfl) ((by decide)) (by omega)
              refine j7_qald hx hb hK2 hh_25 hB202 0 rfl (by decide) hg_waitOf_26 (x := z_27.toInt) (rfl) (by omega) dX14_release_92 (fun o_28 ho_28 => ?_)
              rcases ho_28 with rfl | ⟨el_29, rfl, hg_el_29⟩
              · simp only [va_rf]
                refine j7_qastN hx hb hK2 hh_25 hB hB202 0 rfl (by decide) (by decide) rfl rfl rfl hg_waitOf_26 (x := v2_19.toInt) (rfl) (by omega) (Or.inl rfl) dX14_release_93 (fun H_30 locs_30 hh_30 => ?_)
                clear hh_25
                refine lv_aload_n hx hb dX14_release_94 rfl (lv_at hl 0 rfl) ?_
                obtain ⟨v_31, hv_31, hh_32⟩ := hh_30.pin (C := RX14) (T := TX14) (N := 74) hB16 rfl (by decide) hg_r0 (i := 50) (by decide) rfl
                clear hh_30
                obtain ⟨waitGoals_33, rfl, hg_waitGoals_33⟩ := hv_31
                refine j7_read hx hb hown hK (C := RX14) (T := TX14) (N := 74) rfl hly_16_50 hlk_94 (hh_32.at 0 rfl) dX14_release_95 ?_
                refine lv_iload_n hx hb dX14_release_98 rfl (lv_at hl 2 rfl) ?_
                refine lv_aload_n hx hb dX14_release_99 rfl (lv_at hl 0 rfl) ?_
                refine j7_read hx hb hown hK (C := RX14) (T := TX14) (N := 74) rfl hly_16_50 hlk_94 (hh_32.at 0 rfl) dX14_release_100 ?_
                refine lv_iload_n hx hb dX14_release_103 rfl (lv_at hl 2 rfl) ?_
                refine lv_iconst (v := 1) hx hb dX14_release_104 (by decide) ?_
                refine lv_iadd hx hb dX14_release_105 ?_
                refine lv_topi (fun z_34 ez_34 => ?_)
                have hz_34 : z_34.toInt = v2_19.toInt + 1 := by rw [ez_34]; exact jb_iadd2 (rfl) ((by decide)) (by omega)
                refine j7_zald hx hb hK hh_32 hB103 3 rfl (by decide) hg_waitGoals_33 (x := z_34.toInt) (rfl) (by omega) dX14_release_106 (fun z_35 (hz_35 : (z_35 = 0 ∨ z_35 = 1)) => ?_)
                have hz_35' := jb_01 hz_35
                refine j7_zast hx hb hK hh_32 hB hB103 3 rfl (by decide) (by decide) rfl rfl rfl hg_waitGoals_33 (x := v2_19.toInt) (rfl) (by omega) (hz_35) (hz_35) dX14_release_107 (fun H_36 locs_36 hh_36 => ?_)
                clear hh_32
                refine lv_aload_n hx hb dX14_release_108 rfl (lv_at hl 0 rfl) ?_
                obtain ⟨v_37, hv_37, hh_38⟩ := hh_36.pin (C := RX14) (T := TX14) (N := 74) hB16 rfl (by decide) hg_r0 (i := 51) (by decide) rfl
                clear hh_36
                obtain ⟨waitNeed_39, rfl, hg_waitNeed_39⟩ := hv_37
                refine j7_read hx hb hown hK (C := RX14) (T := TX14) (N := 74) rfl hly_16_51 hlk_97 (hh_38.at 0 rfl) dX14_release_109 ?_
                refine lv_iload_n hx hb dX14_release_112 rfl (lv_at hl 2 rfl) ?_
                refine lv_aload_n hx hb dX14_release_113 rfl (lv_at hl 0 rfl) ?_
                refine j7_read hx hb hown hK (C := RX14) (T := TX14) (N := 74) rfl hly_16_51 hlk_97 (hh_38.at 0 rfl) dX14_release_114 ?_
                refine lv_iload_n hx hb dX14_release_117 rfl (lv_at hl 2 rfl) ?_
                refine lv_iconst (v := 1) hx hb dX14_release_118 (by decide) ?_
                refine lv_iadd hx hb dX14_release_119 ?_
                refine lv_topi (fun z_40 ez_40 => ?_)
                have hz_40 : z_40.toInt = v2_19.toInt + 1 := by rw [ez_40]; exact jb_iadd2 (rfl) ((by decide)) (by omega)
                refine j7_iald hx hb hK hh_38 hB206 1 rfl (by decide) hg_waitNeed_39 (x := z_40.toInt) (rfl) (by omega) dX14_release_120 (fun z_41 (hz_41 : 0 ≤ z_41.toInt ∧ z_41.toInt ≤ 40) => ?_)
                refine j7_iast hx hb hK hh_38 hB hB206 1 rfl (by decide) (by decide) rfl rfl rfl hg_waitNeed_39 (x := v2_19.toInt) (rfl) (by omega) (by first | omega | (refine ⟨?_, ?_⟩ <;> (first | omega | rfl | assumption | decide | exact Or.inl rfl | exact Or.inr rfl | (simp only; omega)))) dX14_release_121 (fun H_42 locs_42 hh_42 => ?_)
                clear hh_38
                refine lv_aload_n hx hb dX14_release_122 rfl (lv_at hl 0 rfl) ?_
                refine j7_read hx hb hown hK (C := RX14) (T := TX14) (N := 74) rfl hly_16_52 hlk_100 (hh_42.at 8 rfl) dX14_release_123 ?_
                refine lv_iload_n hx hb dX14_release_126 rfl (lv_at hl 2 rfl) ?_
                refine lv_aload_n hx hb dX14_release_127 rfl (lv_at hl 0 rfl) ?_
                refine j7_read hx hb hown hK (C := RX14) (T := TX14) (N := 74) rfl hly_16_52 hlk_100 (hh_42.at 8 rfl) dX14_release_128 ?_
                refine lv_iload_n hx hb dX14_release_131 rfl (lv_at hl 2 rfl) ?_
                refine lv_iconst (v := 1) hx hb dX14_release_132 (by decide) ?_
                refine lv_iadd hx hb dX14_release_133 ?_
                refine lv_topi (fun z_43 ez_43 => ?_)
                have hz_43 : z_43.toInt = v2_19.toInt + 1 := by rw [ez_43]; exact jb_iadd2 (rfl) ((by decide)) (by omega)
                refine j7_zald hx hb hK hh_42 hB103 3 rfl (by decide) hg_waitString_4 (x := z_43.toInt) (rfl) (by omega) dX14_release_134 (fun z_44 (hz_44 : (z_44 = 0 ∨ z_44 = 1)) => ?_)
                have hz_44' := jb_01 hz_44
                refine j7_zast hx hb hK hh_42 hB hB103 3 rfl (by decide) (by decide) rfl rfl rfl hg_waitString_4 (x := v2_19.toInt) (rfl) (by omega) (hz_44) (hz_44) dX14_release_135 (fun H_45 locs_45 hh_45 => ?_)
                clear hh_42
                refine lv_aload_n hx hb dX14_release_136 rfl (lv_at hl 0 rfl) ?_
                refine j7_read hx hb hown hK (C := RX14) (T := TX14) (N := 74) rfl hly_16_53 hlk_103 (hh_45.at 6 rfl) dX14_release_137 ?_
                refine lv_iload_n hx hb dX14_release_140 rfl (lv_at hl 2 rfl) ?_
                refine lv_aload_n hx hb dX14_release_141 rfl (lv_at hl 0 rfl) ?_
                refine j7_read hx hb hown hK (C := RX14) (T := TX14) (N := 74) rfl hly_16_53 hlk_103 (hh_45.at 6 rfl) dX14_release_142 ?_
                refine lv_iload_n hx hb dX14_release_145 rfl (lv_at hl 2 rfl) ?_
                refine lv_iconst (v := 1) hx hb dX14_release_146 (by decide) ?_
                refine lv_iadd hx hb dX14_release_147 ?_
                refine lv_topi (fun z_46 ez_46 => ?_)
                have hz_46 : z_46.toInt = v2_19.toInt + 1 := by rw [ez_46]; exact jb_iadd2 (rfl) ((by decide)) (by omega)
                refine j7_iald hx hb hK hh_45 hB101 1 rfl (by decide) hg_waitInt_9 (x := z_46.toInt) (rfl) (by omega) dX14_release_148 (fun z_47 (hz_47 : True) => ?_)
                refine j7_iast hx hb hK hh_45 hB hB101 1 rfl (by decide) (by decide) rfl rfl rfl hg_waitInt_9 (x := v2_19.toInt) (rfl) (by omega) (trivial) dX14_release_149 (fun H_48 locs_48 hh_48 => ?_)
                clear hh_45
                refine lv_aload_n hx hb dX14_release_150 rfl (lv_at hl 0 rfl) ?_
                refine j7_read hx hb hown hK (C := RX14) (T := TX14) (N := 74) rfl hly_16_55 hlk_109 (hh_48.at 4 rfl) dX14_release_151 ?_
                refine lv_iload_n hx hb dX14_release_154 rfl (lv_at hl 2 rfl) ?_
                refine lv_aload_n hx hb dX14_release_155 rfl (lv_at hl 0 rfl) ?_
                refine j7_read hx hb hown hK (C := RX14) (T := TX14) (N := 74) rfl hly_16_55 hlk_109 (hh_48.at 4 rfl) dX14_release_156 ?_
                refine lv_iload_n hx hb dX14_release_159 rfl (lv_at hl 2 rfl) ?_
                refine lv_iconst (v := 1) hx hb dX14_release_160 (by decide) ?_
                refine lv_iadd hx hb dX14_release_161 ?_
                refine lv_topi (fun z_49 ez_49 => ?_)
                have hz_49 : z_49.toInt = v2_19.toInt + 1 := by rw [ez_49]; exact jb_iadd2 (rfl) ((by decide)) (by omega)
                refine j7_iald hx hb hK hh_48 hB203 1 rfl (by decide) hg_waitLength_14 (x := z_49.toInt) (rfl) (by omega) dX14_release_162 (fun z_50 (hz_50 : -3300 ≤ z_50.toInt ∧ z_50.toInt ≤ 20) => ?_)
                refine j7_iast hx hb hK hh_48 hB hB203 1 rfl (by decide) (by decide) rfl rfl rfl hg_waitLength_14 (x := v2_19.toInt) (rfl) (by omega) (by first | omega | (refine ⟨?_, ?_⟩ <;> (first | omega | rfl | assumption | decide | exact Or.inl rfl | exact Or.inr rfl | (simp only; omega)))) dX14_release_163 (fun H_51 locs_51 hh_51 => ?_)
                clear hh_48
                refine lv_aload_n hx hb dX14_release_164 rfl (lv_at hl 0 rfl) ?_
                obtain ⟨v_52, hv_52, hh_53⟩ := hh_51.pin (C := RX14) (T := TX14) (N := 74) hB16 rfl (by decide) hg_r0 (i := 57) (by decide) rfl
                clear hh_51
                obtain ⟨waitNameLength_54, rfl, hg_waitNameLength_54⟩ := hv_52
                refine j7_read hx hb hown hK (C := RX14) (T := TX14) (N := 74) rfl hly_16_57 hlk_116 (hh_53.at 0 rfl) dX14_release_165 ?_
                refine lv_iload_n hx hb dX14_release_168 rfl (lv_at hl 2 rfl) ?_
                refine lv_aload_n hx hb dX14_release_169 rfl (lv_at hl 0 rfl) ?_
                refine j7_read hx hb hown hK (C := RX14) (T := TX14) (N := 74) rfl hly_16_57 hlk_116 (hh_53.at 0 rfl) dX14_release_170 ?_
                refine lv_iload_n hx hb dX14_release_173 rfl (lv_at hl 2 rfl) ?_
                refine lv_iconst (v := 1) hx hb dX14_release_174 (by decide) ?_
                refine lv_iadd hx hb dX14_release_175 ?_
                refine lv_topi (fun z_55 ez_55 => ?_)
                have hz_55 : z_55.toInt = v2_19.toInt + 1 := by rw [ez_55]; exact jb_iadd2 (rfl) ((by decide)) (by omega)
                refine j7_iald hx hb hK hh_53 hB204 1 rfl (by decide) hg_waitNameLength_54 (x := z_55.toInt) (rfl) (by omega) dX14_release_176 (fun z_56 (hz_56 : -3100 ≤ z_56.toInt ∧ z_56.toInt ≤ 3100) => ?_)
                refine j7_iast hx hb hK hh_53 hB hB204 1 rfl (by decide) (by decide) rfl rfl rfl hg_waitNameLength_54 (x := v2_19.toInt) (rfl) (by omega) (by first | omega | (refine ⟨?_, ?_⟩ <;> (first | omega | rfl | assumption | decide | exact Or.inl rfl | exact Or.inr rfl | (simp only; omega)))) dX14_release_177 (fun H_57 locs_57 hh_57 => ?_)
                clear hh_53
                refine lv_iconst (v := 0) hx hb dX14_release_178 (by decide) ?_
                refine lv_istore_n (lv' := [(3, .int 0), (0, .ref r0), (1, .int a1), (2, .int v2_19)]) hx hb dX14_release_179 rfl hl (by decide) rfl (fun ls hl => ?_)
                have L180 : ∀ (N : Nat) (v3_58 : Int32) (H_58 : Heap) (locs_58 : List Loc), jSt (dC, dI) B base G0 G0 EX14_release s.heap 0 0 [(r0, 16, 57, .ref waitNameLength_54), (r0, 16, 51, .ref waitNeed_39), (r0, 16, 50, .ref waitGoals_33), (r0, 16, 49, .ref waitOf_26), (r0, 16, 39, .int z_15), (r0, 16, 55, .ref waitLength_14), (r0, 16, 37, .int z_10), (r0, 16, 53, .ref waitInt_9), (r0, 16, 36, .int z_5), (r0, 16, 52, .ref waitString_4), (r0, 16, 40, .int 0), (r0, 16, 48, .int pw)] [] [] H_58 locs_58 → (0 ≤ v3_58.toInt ∧ v3_58.toInt ≤ 20) → (20 - v3_58.toInt : Int) < N → ∀ ls : Array Slot, lv_has ls 4 [(0, .ref r0), (1, .int a1), (2, .int v2_19), (3, .int v3_58)] → W p l e R s m ([.ref r0, .int a1] : List Value).toArray below meth c H_58 locs_58 0 0 Q (F0 m 180 ls []) := by
                  intro N
                  induction N with
                  | zero => intro v3_58 H_58 locs_58 hh_58  hi_58 hm; exact absurd hm (by omega)
                  | succ N L180 =>
                    intro v3_58 H_58 locs_58 hh_58  hi_58 hm_58 ls hl
                    obtain ⟨hi_58_0, hi_58_1⟩ := hi_58
                    refine lv_iload_n hx hb dX14_release_180 rfl (lv_at hl 3 rfl) ?_
                    refine lv_bipush (v := 20) hx hb dX14_release_181 (by decide) ?_
                    refine lv_icmp_ge (tgt := 217) hx hb dX14_release_183 (by decide) (fun c_59 => ?_) (fun c_59 => ?_)
                    · skip
                      have c_59' : v3_58.toInt ≥ 20 := jb_ge (rfl) ((by decide)) c_59
                      refine lv_iconst (v := 0) hx hb dX14_release_217 (by decide) ?_
                      refine lv_istore_n (lv' := [(3, .int 0), (0, .ref r0), (1, .int a1), (2, .int v2_19)]) hx hb dX14_release_218 rfl hl (by decide) rfl (fun ls hl => ?_)
                      have L219 : ∀ (N : Nat) (v3_60 : Int32) (H_60 : Heap) (locs_60 : List Loc), jSt (dC, dI) B base G0 G0 EX14_release s.heap 0 0 [(r0, 16, 57, .ref waitNameLength_54), (r0, 16, 51, .ref waitNeed_39), (r0, 16, 50, .ref waitGoals_33), (r0, 16, 49, .ref waitOf_26), (r0, 16, 39, .int z_15), (r0, 16, 55, .ref waitLength_14), (r0, 16, 37, .int z_10), (r0, 16, 53, .ref waitInt_9), (r0, 16, 36, .int z_5), (r0, 16, 52, .ref waitString_4), (r0, 16, 40, .int 0), (r0, 16, 48, .int pw)] [] [] H_60 locs_60 → (0 ≤ v3_60.toInt ∧ v3_60.toInt ≤ 3100) → (3100 - v3_60.toInt : Int) < N → ∀ ls : Array Slot, lv_has ls 4 [(0, .ref r0), (1, .int a1), (2, .int v2_19), (3, .int v3_60)] → W p l e R s m ([.ref r0, .int a1] : List Value).toArray below meth c H_60 locs_60 0 0 Q (F0 m 219 ls []) := by
                        intro N
                        induction N with
                        | zero => intro v3_60 H_60 locs_60 hh_60  hi_60 hm; exact absurd hm (by omega)
                        | succ N L219 =>
                          intro v3_60 H_60 locs_60 hh_60  hi_60 hm_60 ls hl
                          obtain ⟨hi_60_0, hi_60_1⟩ := hi_60
                          refine lv_iload_n hx hb dX14_release_219 rfl (lv_at hl 3 rfl) ?_
                          refine lv_aload_n hx hb dX14_release_220 rfl (lv_at hl 0 rfl) ?_
                          refine j7_read hx hb hown hK (C := RX14) (T := TX14) (N := 74) rfl hly_16_57 hlk_116 (hh_60.at 0 rfl) dX14_release_221 ?_
                          refine lv_iload_n hx hb dX14_release_224 rfl (lv_at hl 2 rfl) ?_
                          refine j7_iald hx hb hK hh_60 hB204 1 rfl (by decide) hg_waitNameLength_54 (x := v2_19.toInt) (rfl) (by omega) dX14_release_225 (fun z_61 (hz_61 : -3100 ≤ z_61.toInt ∧ z_61.toInt ≤ 3100) => ?_)
                          refine lv_icmp_ge (tgt := 263) hx hb dX14_release_226 (by decide) (fun c_62 => ?_) (fun c_62 => ?_)
                          · skip
                            have c_62' : v3_60.toInt ≥ z_61.toInt := jb_ge (rfl) (rfl) c_62
                            obtain ⟨z_63, ez_63⟩ : ∃ y : Int32, y = v2_19 + 1 := ⟨_, rfl⟩
                            refine lv_iinc (v := z_63) (lv' := [(2, .int z_63), (0, .ref r0), (1, .int a1), (3, .int v3_60)]) hx hb dX14_release_263 hl (k := 2) rfl (by rw [ez_63]; rfl) (by decide) rfl (fun ls hl => ?_)
                            have hz_63 : z_63.toInt = v2_19.toInt + 1 := by rw [ez_63]; exact jb_iadd2 (rfl) (by decide) (by omega)
                            refine lv_goto (tgt := 70) hx hb dX14_release_266 (by decide) ?_
                            exact L70 z_63 _ _ (hh_60.sub (L1 := [(r0, 16, 39, .int z_15), (r0, 16, 55, .ref waitLength_14), (r0, 16, 37, .int z_10), (r0, 16, 53, .ref waitInt_9), (r0, 16, 36, .int z_5), (r0, 16, 52, .ref waitString_4), (r0, 16, 40, .int 0), (r0, 16, 48, .int pw)]) [4, 5, 6, 7, 8, 9, 10, 11] rfl (M1 := []) [] rfl (I1 := []) [] rfl) (by first | omega | (refine ⟨?_, ?_⟩ <;> (first | omega | rfl | assumption | decide | exact Or.inl rfl | exact Or.inr rfl | (simp only; omega)))) (by omega) _ (lv_sub hl [1, 2, 0] rfl)
                          · skip
                            have c_62' : v3_60.toInt < z_61.toInt := jb_ge_n (rfl) (rfl) c_62
                            refine lv_aload_n hx hb dX14_release_229 rfl (lv_at hl 0 rfl) ?_
                            obtain ⟨v_64, hv_64, hh_65⟩ := hh_60.pin (C := RX14) (T := TX14) (N := 74) hB16 rfl (by decide) hg_r0 (i := 56) (by decide) rfl
                            clear hh_60
                            obtain ⟨waitName_66, rfl, hg_waitName_66⟩ := hv_64
                            refine j7_read hx hb hown hK (C := RX14) (T := TX14) (N := 74) rfl hly_16_56 hlk_113 (hh_65.at 0 rfl) dX14_release_230 ?_
                            refine lv_sipush (v := 3100) hx hb dX14_release_233 (by decide) ?_
                            refine lv_iload_n hx hb dX14_release_236 rfl (lv_at hl 2 rfl) ?_
                            refine lv_imul hx hb dX14_release_237 ?_
                            refine lv_topi (fun z_67 ez_67 => ?_)
                            have hz_67 : z_67.toInt = 3100 * v2_19.toInt := by rw [ez_67]; exact jb_imul2 ((by decide)) (rfl) (by omega)
                            refine lv_iload_n hx hb dX14_release_238 rfl (lv_at hl 3 rfl) ?_
                            refine lv_iadd hx hb dX14_release_239 ?_
                            refine lv_topi (fun z_68 ez_68 => ?_)
                            have hz_68 : z_68.toInt = z_67.toInt + v3_60.toInt := by rw [ez_68]; exact jb_iadd2 (rfl) (rfl) (by omega)
                            refine lv_aload_n hx hb dX14_release_240 rfl (lv_at hl 0 rfl) ?_
                            refine j7_read hx hb hown hK (C := RX14) (T := TX14) (N := 74) rfl hly_16_56 hlk_113 (hh_65.at 0 rfl) dX14_release_241 ?_
                            refine lv_sipush (v := 3100) hx hb dX14_release_244 (by decide) ?_
                            refine lv_iload_n hx hb dX14_release_247 rfl (lv_at hl 2 rfl) ?_
                            refine lv_imul hx hb dX14_release_248 ?_
                            refine lv_topi (fun z_69 ez_69 => ?_)
                            have hz_69 : z_69.toInt = 3100 * v2_19.toInt := by rw [ez_69]; exact jb_imul2 ((by decide)) (rfl) (by omega)
                            refine lv_sipush (v := 3100) hx hb dX14_release_249 (by decide) ?_
                            refine lv_iadd hx hb dX14_release_252 ?_
                            refine lv_topi (fun z_70 ez_70 => ?_)
                            have hz_70 : z_70.toInt = z_69.toInt + 3100 := by rw [ez_70]; exact jb_iadd2 (rfl) ((by decide)) (by omega)
                            refine lv_iload_n hx hb dX14_release_253 rfl (lv_at hl 3 rfl) ?_
                            refine lv_iadd hx hb dX14_release_254 ?_
                            refine lv_topi (fun z_71 ez_71 => ?_)
                            have hz_71 : z_71.toInt = z_70.toInt + v3_60.toInt := by rw [ez_71]; exact jb_iadd2 (rfl) (rfl) (by omega)
                            refine j7_iald hx hb hK hh_65 hB101 1 rfl (by decide) hg_waitName_66 (x := z_71.toInt) (rfl) (by omega) dX14_release_255 (fun z_72 (hz_72 : True) => ?_)
                            refine j7_iast hx hb hK hh_65 hB hB101 1 rfl (by decide) (by decide) rfl rfl rfl hg_waitName_66 (x := z_68.toInt) (rfl) (by omega) (trivial) dX14_release_256 (fun H_73 locs_73 hh_73 => ?_)
                            clear hh_65
                            obtain ⟨z_74, ez_74⟩ : ∃ y : Int32, y = v3_60 + 1 := ⟨_, rfl⟩
                            refine lv_iinc (v := z_74) (lv' := [(3, .int z_74), (0, .ref r0), (1, .int a1), (2, .int v2_19)]) hx hb dX14_release_257 hl (k := 3) rfl (by rw [ez_74]; rfl) (by decide) rfl (fun ls hl => ?_)
                            have hz_74 : z_74.toInt = v3_60.toInt + 1 := by rw [ez_74]; exact jb_iadd2 (rfl) (by decide) (by omega)
                            refine lv_goto (tgt := 219) hx hb dX14_release_260 (by decide) ?_
                            exact L219 z_74 _ _ (hh_73.sub (L1 := [(r0, 16, 57, .ref waitNameLength_54), (r0, 16, 51, .ref waitNeed_39), (r0, 16, 50, .ref waitGoals_33), (r0, 16, 49, .ref waitOf_26), (r0, 16, 39, .int z_15), (r0, 16, 55, .ref waitLength_14), (r0, 16, 37, .int z_10), (r0, 16, 53, .ref waitInt_9), (r0, 16, 36, .int z_5), (r0, 16, 52, .ref waitString_4), (r0, 16, 40, .int 0), (r0, 16, 48, .int pw)]) [1, 2, 3, 4, 5, 6, 7, 8, 9, 10, 11, 12] rfl (M1 := []) [] rfl (I1 := []) [] rfl) (by first | omega | (refine ⟨?_, ?_⟩ <;> (first | omega | rfl | assumption | decide | exact Or.inl rfl | exact Or.inr rfl | (simp only; omega)))) (by omega) _ (lv_sub hl [1, 2, 3, 0] rfl)
                      exact L219 (3100 - (0 : Int32).toInt : Int).toNat.succ 0 _ _ hh_58 (by first | omega | (refine ⟨?_, ?_⟩ <;> (first | omega | rfl | assumption | decide | exact Or.inl rfl | exact Or.inr rfl | (simp only; omega)))) (by omega) _ (lv_sub hl [1, 2, 3, 0] rfl)
                    · skip
                      have c_59' : v3_58.toInt < 20 := jb_ge_n (rfl) ((by decide)) c_59
                      refine lv_aload_n hx hb dX14_release_186 rfl (lv_at hl 0 rfl) ?_
                      obtain ⟨v_75, hv_75, hh_76⟩ := hh_58.pin (C := RX14) (T := TX14) (N := 74) hB16 rfl (by decide) hg_r0 (i := 54) (by decide) rfl
                      clear hh_58
                      obtain ⟨waitUnits_77, rfl, hg_waitUnits_77⟩ := hv_75
                      refine j7_read hx hb hown hK (C := RX14) (T := TX14) (N := 74) rfl hly_16_54 hlk_106 (hh_76.at 0 rfl) dX14_release_187 ?_
                      refine lv_bipush (v := 20) hx hb dX14_release_190 (by decide) ?_
                      refine lv_iload_n hx hb dX14_release_192 rfl (lv_at hl 2 rfl) ?_
                      refine lv_imul hx hb dX14_release_193 ?_
                      refine lv_topi (fun z_78 ez_78 => ?_)
                      have hz_78 : z_78.toInt = 20 * v2_19.toInt := by rw [ez_78]; exact jb_imul2 ((by decide)) (rfl) (by omega)
                      refine lv_iload_n hx hb dX14_release_194 rfl (lv_at hl 3 rfl) ?_
                      refine lv_iadd hx hb dX14_release_195 ?_
                      refine lv_topi (fun z_79 ez_79 => ?_)
                      have hz_79 : z_79.toInt = z_78.toInt + v3_58.toInt := by rw [ez_79]; exact jb_iadd2 (rfl) (rfl) (by omega)
                      refine lv_aload_n hx hb dX14_release_196 rfl (lv_at hl 0 rfl) ?_
                      refine j7_read hx hb hown hK (C := RX14) (T := TX14) (N := 74) rfl hly_16_54 hlk_106 (hh_76.at 0 rfl) dX14_release_197 ?_
                      refine lv_bipush (v := 20) hx hb dX14_release_200 (by decide) ?_
                      refine lv_iload_n hx hb dX14_release_202 rfl (lv_at hl 2 rfl) ?_
                      refine lv_imul hx hb dX14_release_203 ?_
                      refine lv_topi (fun z_80 ez_80 => ?_)
                      have hz_80 : z_80.toInt = 20 * v2_19.toInt := by rw [ez_80]; exact jb_imul2 ((by decide)) (rfl) (by omega)
                      refine lv_bipush (v := 20) hx hb dX14_release_204 (by decide) ?_
                      refine lv_iadd hx hb dX14_release_206 ?_
                      refine lv_topi (fun z_81 ez_81 => ?_)
                      have hz_81 : z_81.toInt = z_80.toInt + 20 := by rw [ez_81]; exact jb_iadd2 (rfl) ((by decide)) (by omega)
                      refine lv_iload_n hx hb dX14_release_207 rfl (lv_at hl 3 rfl) ?_
                      refine lv_iadd hx hb dX14_release_208 ?_
                      refine lv_topi (fun z_82 ez_82 => ?_)
                      have hz_82 : z_82.toInt = z_81.toInt + v3_58.toInt := by rw [ez_82]; exact jb_iadd2 (rfl) (rfl) (by omega)
                      refine j7_iald hx hb hK hh_76 hB101 1 rfl (by decide) hg_waitUnits_77 (x := z_82.toInt) (rfl) (by omega) dX14_release_209 (fun z_83 (hz_83 : True) => ?_)
                      refine j7_iast hx hb hK hh_76 hB hB101 1 rfl (by decide) (by decide) rfl rfl rfl hg_waitUnits_77 (x := z_79.toInt) (rfl) (by omega) (trivial) dX14_release_210 (fun H_84 locs_84 hh_84 => ?_)
                      clear hh_76
                      obtain ⟨z_85, ez_85⟩ : ∃ y : Int32, y = v3_58 + 1 := ⟨_, rfl⟩
                      refine lv_iinc (v := z_85) (lv' := [(3, .int z_85), (0, .ref r0), (1, .int a1), (2, .int v2_19)]) hx hb dX14_release_211 hl (k := 3) rfl (by rw [ez_85]; rfl) (by decide) rfl (fun ls hl => ?_)
                      have hz_85 : z_85.toInt = v3_58.toInt + 1 := by rw [ez_85]; exact jb_iadd2 (rfl) (by decide) (by omega)
                      refine lv_goto (tgt := 180) hx hb dX14_release_214 (by decide) ?_
                      exact L180 z_85 _ _ (hh_84.sub (L1 := [(r0, 16, 57, .ref waitNameLength_54), (r0, 16, 51, .ref waitNeed_39), (r0, 16, 50, .ref waitGoals_33), (r0, 16, 49, .ref waitOf_26), (r0, 16, 39, .int z_15), (r0, 16, 55, .ref waitLength_14), (r0, 16, 37, .int z_10), (r0, 16, 53, .ref waitInt_9), (r0, 16, 36, .int z_5), (r0, 16, 52, .ref waitString_4), (r0, 16, 40, .int 0), (r0, 16, 48, .int pw)]) [1, 2, 3, 4, 5, 6, 7, 8, 9, 10, 11, 12] rfl (M1 := []) [] rfl (I1 := []) [] rfl) (by first | omega | (refine ⟨?_, ?_⟩ <;> (first | omega | rfl | assumption | decide | exact Or.inl rfl | exact Or.inr rfl | (simp only; omega)))) (by omega) _ (lv_sub hl [1, 2, 3, 0] rfl)
                exact L180 (20 - (0 : Int32).toInt : Int).toNat.succ 0 _ _ hh_57 (by first | omega | (refine ⟨?_, ?_⟩ <;> (first | omega | rfl | assumption | decide | exact Or.inl rfl | exact Or.inr rfl | (simp only; omega)))) (by omega) _ (lv_sub hl [1, 2, 3, 0] rfl)
              · simp only [va_rf]
                refine j7_qast hx hb hK2 hh_25 hB hB202 0 rfl (by decide) (by decide) rfl rfl rfl hg_waitOf_26 (x := v2_19.toInt) (rfl) (by omega) hB14 (T := TX12) (N := 11) rfl (by decide) hg_el_29 (Or.inr ⟨_, rfl, hg_el_29⟩) dX14_release_93 (fun H_86 locs_86 hh_86 => ?_)
                clear hh_25
                refine lv_aload_n hx hb dX14_release_94 rfl (lv_at hl 0 rfl) ?_
                obtain ⟨v_87, hv_87, hh_88⟩ := hh_86.pin (C := RX14) (T := TX14) (N := 74) hB16 rfl (by decide) hg_r0 (i := 50) (by decide) rfl
                clear hh_86
                obtain ⟨waitGoals_89, rfl, hg_waitGoals_89⟩ := hv_87
                refine j7_read hx hb hown hK (C := RX14) (T := TX14) (N := 74) rfl hly_16_50 hlk_94 (hh_88.at 0 rfl) dX14_release_95 ?_
                refine lv_iload_n hx hb dX14_release_98 rfl (lv_at hl 2 rfl) ?_
                refine lv_aload_n hx hb dX14_release_99 rfl (lv_at hl 0 rfl) ?_
                refine j7_read hx hb hown hK (C := RX14) (T := TX14) (N := 74) rfl hly_16_50 hlk_94 (hh_88.at 0 rfl) dX14_release_100 ?_
                refine lv_iload_n hx hb dX14_release_103 rfl (lv_at hl 2 rfl) ?_
                refine lv_iconst (v := 1) hx hb dX14_release_104 (by decide) ?_
                refine lv_iadd hx hb dX14_release_105 ?_
                refine lv_topi (fun z_90 ez_90 => ?_)
                have hz_90 : z_90.toInt = v2_19.toInt + 1 := by rw [ez_90]; exact jb_iadd2 (rfl) ((by decide)) (by omega)
                refine j7_zald hx hb hK hh_88 hB103 3 rfl (by decide) hg_waitGoals_89 (x := z_90.toInt) (rfl) (by omega) dX14_release_106 (fun z_91 (hz_91 : (z_91 = 0 ∨ z_91 = 1)) => ?_)
                have hz_91' := jb_01 hz_91
                refine j7_zast hx hb hK hh_88 hB hB103 3 rfl (by decide) (by decide) rfl rfl rfl hg_waitGoals_89 (x := v2_19.toInt) (rfl) (by omega) (hz_91) (hz_91) dX14_release_107 (fun H_92 locs_92 hh_92 => ?_)
                clear hh_88
                refine lv_aload_n hx hb dX14_release_108 rfl (lv_at hl 0 rfl) ?_
                obtain ⟨v_93, hv_93, hh_94⟩ := hh_92.pin (C := RX14) (T := TX14) (N := 74) hB16 rfl (by decide) hg_r0 (i := 51) (by decide) rfl
                clear hh_92
                obtain ⟨waitNeed_95, rfl, hg_waitNeed_95⟩ := hv_93
                refine j7_read hx hb hown hK (C := RX14) (T := TX14) (N := 74) rfl hly_16_51 hlk_97 (hh_94.at 0 rfl) dX14_release_109 ?_
                refine lv_iload_n hx hb dX14_release_112 rfl (lv_at hl 2 rfl) ?_
                refine lv_aload_n hx hb dX14_release_113 rfl (lv_at hl 0 rfl) ?_
                refine j7_read hx hb hown hK (C := RX14) (T := TX14) (N := 74) rfl hly_16_51 hlk_97 (hh_94.at 0 rfl) dX14_release_114 ?_
                refine lv_iload_n hx hb dX14_release_117 rfl (lv_at hl 2 rfl) ?_
                refine lv_iconst (v := 1) hx hb dX14_release_118 (by decide) ?_
                refine lv_iadd hx hb dX14_release_119 ?_
                refine lv_topi (fun z_96 ez_96 => ?_)
                have hz_96 : z_96.toInt = v2_19.toInt + 1 := by rw [ez_96]; exact jb_iadd2 (rfl) ((by decide)) (by omega)
                refine j7_iald hx hb hK hh_94 hB206 1 rfl (by decide) hg_waitNeed_95 (x := z_96.toInt) (rfl) (by omega) dX14_release_120 (fun z_97 (hz_97 : 0 ≤ z_97.toInt ∧ z_97.toInt ≤ 40) => ?_)
                refine j7_iast hx hb hK hh_94 hB hB206 1 rfl (by decide) (by decide) rfl rfl rfl hg_waitNeed_95 (x := v2_19.toInt) (rfl) (by omega) (by first | omega | (refine ⟨?_, ?_⟩ <;> (first | omega | rfl | assumption | decide | exact Or.inl rfl | exact Or.inr rfl | (simp only; omega)))) dX14_release_121 (fun H_98 locs_98 hh_98 => ?_)
                clear hh_94
                refine lv_aload_n hx hb dX14_release_122 rfl (lv_at hl 0 rfl) ?_
                refine j7_read hx hb hown hK (C := RX14) (T := TX14) (N := 74) rfl hly_16_52 hlk_100 (hh_98.at 8 rfl) dX14_release_123 ?_
                refine lv_iload_n hx hb dX14_release_126 rfl (lv_at hl 2 rfl) ?_
                refine lv_aload_n hx hb dX14_release_127 rfl (lv_at hl 0 rfl) ?_
                refine j7_read hx hb hown hK (C := RX14) (T := TX14) (N := 74) rfl hly_16_52 hlk_100 (hh_98.at 8 rfl) dX14_release_128 ?_
                refine lv_iload_n hx hb dX14_release_131 rfl (lv_at hl 2 rfl) ?_
                refine lv_iconst (v := 1) hx hb dX14_release_132 (by decide) ?_
                refine lv_iadd hx hb dX14_release_133 ?_
                refine lv_topi (fun z_99 ez_99 => ?_)
                have hz_99 : z_99.toInt = v2_19.toInt + 1 := by rw [ez_99]; exact jb_iadd2 (rfl) ((by decide)) (by omega)
                refine j7_zald hx hb hK hh_98 hB103 3 rfl (by decide) hg_waitString_4 (x := z_99.toInt) (rfl) (by omega) dX14_release_134 (fun z_100 (hz_100 : (z_100 = 0 ∨ z_100 = 1)) => ?_)
                have hz_100' := jb_01 hz_100
                refine j7_zast hx hb hK hh_98 hB hB103 3 rfl (by decide) (by decide) rfl rfl rfl hg_waitString_4 (x := v2_19.toInt) (rfl) (by omega) (hz_100) (hz_100) dX14_release_135 (fun H_101 locs_101 hh_101 => ?_)
                clear hh_98
                refine lv_aload_n hx hb dX14_release_136 rfl (lv_at hl 0 rfl) ?_
                refine j7_read hx hb hown hK (C := RX14) (T := TX14) (N := 74) rfl hly_16_53 hlk_103 (hh_101.at 6 rfl) dX14_release_137 ?_
                refine lv_iload_n hx hb dX14_release_140 rfl (lv_at hl 2 rfl) ?_
                refine lv_aload_n hx hb dX14_release_141 rfl (lv_at hl 0 rfl) ?_
                refine j7_read hx hb hown hK (C := RX14) (T := TX14) (N := 74) rfl hly_16_53 hlk_103 (hh_101.at 6 rfl) dX14_release_142 ?_
                refine lv_iload_n hx hb dX14_release_145 rfl (lv_at hl 2 rfl) ?_
                refine lv_iconst (v := 1) hx hb dX14_release_146 (by decide) ?_
                refine lv_iadd hx hb dX14_release_147 ?_
                refine lv_topi (fun z_102 ez_102 => ?_)
                have hz_102 : z_102.toInt = v2_19.toInt + 1 := by rw [ez_102]; exact jb_iadd2 (rfl) ((by decide)) (by omega)
                refine j7_iald hx hb hK hh_101 hB101 1 rfl (by decide) hg_waitInt_9 (x := z_102.toInt) (rfl) (by omega) dX14_release_148 (fun z_103 (hz_103 : True) => ?_)
                refine j7_iast hx hb hK hh_101 hB hB101 1 rfl (by decide) (by decide) rfl rfl rfl hg_waitInt_9 (x := v2_19.toInt) (rfl) (by omega) (trivial) dX14_release_149 (fun H_104 locs_104 hh_104 => ?_)
                clear hh_101
                refine lv_aload_n hx hb dX14_release_150 rfl (lv_at hl 0 rfl) ?_
                refine j7_read hx hb hown hK (C := RX14) (T := TX14) (N := 74) rfl hly_16_55 hlk_109 (hh_104.at 4 rfl) dX14_release_151 ?_
                refine lv_iload_n hx hb dX14_release_154 rfl (lv_at hl 2 rfl) ?_
                refine lv_aload_n hx hb dX14_release_155 rfl (lv_at hl 0 rfl) ?_
                refine j7_read hx hb hown hK (C := RX14) (T := TX14) (N := 74) rfl hly_16_55 hlk_109 (hh_104.at 4 rfl) dX14_release_156 ?_
                refine lv_iload_n hx hb dX14_release_159 rfl (lv_at hl 2 rfl) ?_
                refine lv_iconst (v := 1) hx hb dX14_release_160 (by decide) ?_
                refine lv_iadd hx hb dX14_release_161 ?_
                refine lv_topi (fun z_105 ez_105 => ?_)
                have hz_105 : z_105.toInt = v2_19.toInt + 1 := by rw [ez_105]; exact jb_iadd2 (rfl) ((by decide)) (by omega)
                refine j7_iald hx hb hK hh_104 hB203 1 rfl (by decide) hg_waitLength_14 (x := z_105.toInt) (rfl) (by omega) dX14_release_162 (fun z_106 (hz_106 : -3300 ≤ z_106.toInt ∧ z_106.toInt ≤ 20) => ?_)
                refine j7_iast hx hb hK hh_104 hB hB203 1 rfl (by decide) (by decide) rfl rfl rfl hg_waitLength_14 (x := v2_19.toInt) (rfl) (by omega) (by first | omega | (refine ⟨?_, ?_⟩ <;> (first | omega | rfl | assumption | decide | exact Or.inl rfl | exact Or.inr rfl | (simp only; omega)))) dX14_release_163 (fun H_107 locs_107 hh_107 => ?_)
                clear hh_104
                refine lv_aload_n hx hb dX14_release_164 rfl (lv_at hl 0 rfl) ?_
                obtain ⟨v_108, hv_108, hh_109⟩ := hh_107.pin (C := RX14) (T := TX14) (N := 74) hB16 rfl (by decide) hg_r0 (i := 57) (by decide) rfl
                clear hh_107
                obtain ⟨waitNameLength_110, rfl, hg_waitNameLength_110⟩ := hv_108
                refine j7_read hx hb hown hK (C := RX14) (T := TX14) (N := 74) rfl hly_16_57 hlk_116 (hh_109.at 0 rfl) dX14_release_165 ?_
                refine lv_iload_n hx hb dX14_release_168 rfl (lv_at hl 2 rfl) ?_
                refine lv_aload_n hx hb dX14_release_169 rfl (lv_at hl 0 rfl) ?_
                refine j7_read hx hb hown hK (C := RX14) (T := TX14) (N := 74) rfl hly_16_57 hlk_116 (hh_109.at 0 rfl) dX14_release_170 ?_
                refine lv_iload_n hx hb dX14_release_173 rfl (lv_at hl 2 rfl) ?_
                refine lv_iconst (v := 1) hx hb dX14_release_174 (by decide) ?_
                refine lv_iadd hx hb dX14_release_175 ?_
                refine lv_topi (fun z_111 ez_111 => ?_)
                have hz_111 : z_111.toInt = v2_19.toInt + 1 := by rw [ez_111]; exact jb_iadd2 (rfl) ((by decide)) (by omega)
                refine j7_iald hx hb hK hh_109 hB204 1 rfl (by decide) hg_waitNameLength_110 (x := z_111.toInt) (rfl) (by omega) dX14_release_176 (fun z_112 (hz_112 : -3100 ≤ z_112.toInt ∧ z_112.toInt ≤ 3100) => ?_)
                refine j7_iast hx hb hK hh_109 hB hB204 1 rfl (by decide) (by decide) rfl rfl rfl hg_waitNameLength_110 (x := v2_19.toInt) (rfl) (by omega) (by first | omega | (refine ⟨?_, ?_⟩ <;> (first | omega | rfl | assumption | decide | exact Or.inl rfl | exact Or.inr rfl | (simp only; omega)))) dX14_release_177 (fun H_113 locs_113 hh_113 => ?_)
                clear hh_109
                refine lv_iconst (v := 0) hx hb dX14_release_178 (by decide) ?_
                refine lv_istore_n (lv' := [(3, .int 0), (0, .ref r0), (1, .int a1), (2, .int v2_19)]) hx hb dX14_release_179 rfl hl (by decide) rfl (fun ls hl => ?_)
                have L180 : ∀ (N : Nat) (v3_114 : Int32) (H_114 : Heap) (locs_114 : List Loc), jSt (dC, dI) B base G0 G0 EX14_release s.heap 0 0 [(r0, 16, 57, .ref waitNameLength_110), (r0, 16, 51, .ref waitNeed_95), (r0, 16, 50, .ref waitGoals_89), (r0, 16, 49, .ref waitOf_26), (r0, 16, 39, .int z_15), (r0, 16, 55, .ref waitLength_14), (r0, 16, 37, .int z_10), (r0, 16, 53, .ref waitInt_9), (r0, 16, 36, .int z_5), (r0, 16, 52, .ref waitString_4), (r0, 16, 40, .int 0), (r0, 16, 48, .int pw)] [] [] H_114 locs_114 → (0 ≤ v3_114.toInt ∧ v3_114.toInt ≤ 20) → (20 - v3_114.toInt : Int) < N → ∀ ls : Array Slot, lv_has ls 4 [(0, .ref r0), (1, .int a1), (2, .int v2_19), (3, .int v3_114)] → W p l e R s m ([.ref r0, .int a1] : List Value).toArray below meth c H_114 locs_114 0 0 Q (F0 m 180 ls []) := by
                  intro N
                  induction N with
                  | zero => intro v3_114 H_114 locs_114 hh_114  hi_114 hm; exact absurd hm (by omega)
                  | succ N L180 =>
                    intro v3_114 H_114 locs_114 hh_114  hi_114 hm_114 ls hl
                    obtain ⟨hi_114_0, hi_114_1⟩ := hi_114
                    refine lv_iload_n hx hb dX14_release_180 rfl (lv_at hl 3 rfl) ?_
                    refine lv_bipush (v := 20) hx hb dX14_release_181 (by decide) ?_
                    refine lv_icmp_ge (tgt := 217) hx hb dX14_release_183 (by decide) (fun c_115 => ?_) (fun c_115 => ?_)
                    · skip
                      have c_115' : v3_114.toInt ≥ 20 := jb_ge (rfl) ((by decide)) c_115
                      refine lv_iconst (v := 0) hx hb dX14_release_217 (by decide) ?_
                      refine lv_istore_n (lv' := [(3, .int 0), (0, .ref r0), (1, .int a1), (2, .int v2_19)]) hx hb dX14_release_218 rfl hl (by decide) rfl (fun ls hl => ?_)
                      have L219 : ∀ (N : Nat) (v3_116 : Int32) (H_116 : Heap) (locs_116 : List Loc), jSt (dC, dI) B base G0 G0 EX14_release s.heap 0 0 [(r0, 16, 57, .ref waitNameLength_110), (r0, 16, 51, .ref waitNeed_95), (r0, 16, 50, .ref waitGoals_89), (r0, 16, 49, .ref waitOf_26), (r0, 16, 39, .int z_15), (r0, 16, 55, .ref waitLength_14), (r0, 16, 37, .int z_10), (r0, 16, 53, .ref waitInt_9), (r0, 16, 36, .int z_5), (r0, 16, 52, .ref waitString_4), (r0, 16, 40, .int 0), (r0, 16, 48, .int pw)] [] [] H_116 locs_116 → (0 ≤ v3_116.toInt ∧ v3_116.toInt ≤ 3100) → (3100 - v3_116.toInt : Int) < N → ∀ ls : Array Slot, lv_has ls 4 [(0, .ref r0), (1, .int a1), (2, .int v2_19), (3, .int v3_116)] → W p l e R s m ([.ref r0, .int a1] : List Value).toArray below meth c H_116 locs_116 0 0 Q (F0 m 219 ls []) := by
                        intro N
                        induction N with
                        | zero => intro v3_116 H_116 locs_116 hh_116  hi_116 hm; exact absurd hm (by omega)
                        | succ N L219 =>
                          intro v3_116 H_116 locs_116 hh_116  hi_116 hm_116 ls hl
                          obtain ⟨hi_116_0, hi_116_1⟩ := hi_116
                          refine lv_iload_n hx hb dX14_release_219 rfl (lv_at hl 3 rfl) ?_
                          refine lv_aload_n hx hb dX14_release_220 rfl (lv_at hl 0 rfl) ?_
                          refine j7_read hx hb hown hK (C := RX14) (T := TX14) (N := 74) rfl hly_16_57 hlk_116 (hh_116.at 0 rfl) dX14_release_221 ?_
                          refine lv_iload_n hx hb dX14_release_224 rfl (lv_at hl 2 rfl) ?_
                          refine j7_iald hx hb hK hh_116 hB204 1 rfl (by decide) hg_waitNameLength_110 (x := v2_19.toInt) (rfl) (by omega) dX14_release_225 (fun z_117 (hz_117 : -3100 ≤ z_117.toInt ∧ z_117.toInt ≤ 3100) => ?_)
                          refine lv_icmp_ge (tgt := 263) hx hb dX14_release_226 (by decide) (fun c_118 => ?_) (fun c_118 => ?_)
                          · skip
                            have c_118' : v3_116.toInt ≥ z_117.toInt := jb_ge (rfl) (rfl) c_118
                            obtain ⟨z_119, ez_119⟩ : ∃ y : Int32, y = v2_19 + 1 := ⟨_, rfl⟩
                            refine lv_iinc (v := z_119) (lv' := [(2, .int z_119), (0, .ref r0), (1, .int a1), (3, .int v3_116)]) hx hb dX14_release_263 hl (k := 2) rfl (by rw [ez_119]; rfl) (by decide) rfl (fun ls hl => ?_)
                            have hz_119 : z_119.toInt = v2_19.toInt + 1 := by rw [ez_119]; exact jb_iadd2 (rfl) (by decide) (by omega)
                            refine lv_goto (tgt := 70) hx hb dX14_release_266 (by decide) ?_
                            exact L70 z_119 _ _ (hh_116.sub (L1 := [(r0, 16, 39, .int z_15), (r0, 16, 55, .ref waitLength_14), (r0, 16, 37, .int z_10), (r0, 16, 53, .ref waitInt_9), (r0, 16, 36, .int z_5), (r0, 16, 52, .ref waitString_4), (r0, 16, 40, .int 0), (r0, 16, 48, .int pw)]) [4, 5, 6, 7, 8, 9, 10, 11] rfl (M1 := []) [] rfl (I1 := []) [] rfl) (by first | omega | (refine ⟨?_, ?_⟩ <;> (first | omega | rfl | assumption | decide | exact Or.inl rfl | exact Or.inr rfl | (simp only; omega)))) (by omega) _ (lv_sub hl [1, 2, 0] rfl)
                          · skip
                            have c_118' : v3_116.toInt < z_117.toInt := jb_ge_n (rfl) (rfl) c_118
                            refine lv_aload_n hx hb dX14_release_229 rfl (lv_at hl 0 rfl) ?_
                            obtain ⟨v_120, hv_120, hh_121⟩ := hh_116.pin (C := RX14) (T := TX14) (N := 74) hB16 rfl (by decide) hg_r0 (i := 56) (by decide) rfl
                            clear hh_116
                            obtain ⟨waitName_122, rfl, hg_waitName_122⟩ := hv_120
                            refine j7_read hx hb hown hK (C := RX14) (T := TX14) (N := 74) rfl hly_16_56 hlk_113 (hh_121.at 0 rfl) dX14_release_230 ?_
                            refine lv_sipush (v := 3100) hx hb dX14_release_233 (by decide) ?_
                            refine lv_iload_n hx hb dX14_release_236 rfl (lv_at hl 2 rfl) ?_
                            refine lv_imul hx hb dX14_release_237 ?_
                            refine lv_topi (fun z_123 ez_123 => ?_)
                            have hz_123 : z_123.toInt = 3100 * v2_19.toInt := by rw [ez_123]; exact jb_imul2 ((by decide)) (rfl) (by omega)
                            refine lv_iload_n hx hb dX14_release_238 rfl (lv_at hl 3 rfl) ?_
                            refine lv_iadd hx hb dX14_release_239 ?_
                            refine lv_topi (fun z_124 ez_124 => ?_)
                            have hz_124 : z_124.toInt = z_123.toInt + v3_116.toInt := by rw [ez_124]; exact jb_iadd2 (rfl) (rfl) (by omega)
                            refine lv_aload_n hx hb dX14_release_240 rfl (lv_at hl 0 rfl) ?_
                            refine j7_read hx hb hown hK (C := RX14) (T := TX14) (N := 74) rfl hly_16_56 hlk_113 (hh_121.at 0 rfl) dX14_release_241 ?_
                            refine lv_sipush (v := 3100) hx hb dX14_release_244 (by decide) ?_
                            refine lv_iload_n hx hb dX14_release_247 rfl (lv_at hl 2 rfl) ?_
                            refine lv_imul hx hb dX14_release_248 ?_
                            refine lv_topi (fun z_125 ez_125 => ?_)
                            have hz_125 : z_125.toInt = 3100 * v2_19.toInt := by rw [ez_125]; exact jb_imul2 ((by decide)) (rfl) (by omega)
                            refine lv_sipush (v := 3100) hx hb dX14_release_249 (by decide) ?_
                            refine lv_iadd hx hb dX14_release_252 ?_
                            refine lv_topi (fun z_126 ez_126 => ?_)
                            have hz_126 : z_126.toInt = z_125.toInt + 3100 := by rw [ez_126]; exact jb_iadd2 (rfl) ((by decide)) (by omega)
                            refine lv_iload_n hx hb dX14_release_253 rfl (lv_at hl 3 rfl) ?_
                            refine lv_iadd hx hb dX14_release_254 ?_
                            refine lv_topi (fun z_127 ez_127 => ?_)
                            have hz_127 : z_127.toInt = z_126.toInt + v3_116.toInt := by rw [ez_127]; exact jb_iadd2 (rfl) (rfl) (by omega)
                            refine j7_iald hx hb hK hh_121 hB101 1 rfl (by decide) hg_waitName_122 (x := z_127.toInt) (rfl) (by omega) dX14_release_255 (fun z_128 (hz_128 : True) => ?_)
                            refine j7_iast hx hb hK hh_121 hB hB101 1 rfl (by decide) (by decide) rfl rfl rfl hg_waitName_122 (x := z_124.toInt) (rfl) (by omega) (trivial) dX14_release_256 (fun H_129 locs_129 hh_129 => ?_)
                            clear hh_121
                            obtain ⟨z_130, ez_130⟩ : ∃ y : Int32, y = v3_116 + 1 := ⟨_, rfl⟩
                            refine lv_iinc (v := z_130) (lv' := [(3, .int z_130), (0, .ref r0), (1, .int a1), (2, .int v2_19)]) hx hb dX14_release_257 hl (k := 3) rfl (by rw [ez_130]; rfl) (by decide) rfl (fun ls hl => ?_)
                            have hz_130 : z_130.toInt = v3_116.toInt + 1 := by rw [ez_130]; exact jb_iadd2 (rfl) (by decide) (by omega)
                            refine lv_goto (tgt := 219) hx hb dX14_release_260 (by decide) ?_
                            exact L219 z_130 _ _ (hh_129.sub (L1 := [(r0, 16, 57, .ref waitNameLength_110), (r0, 16, 51, .ref waitNeed_95), (r0, 16, 50, .ref waitGoals_89), (r0, 16, 49, .ref waitOf_26), (r0, 16, 39, .int z_15), (r0, 16, 55, .ref waitLength_14), (r0, 16, 37, .int z_10), (r0, 16, 53, .ref waitInt_9), (r0, 16, 36, .int z_5), (r0, 16, 52, .ref waitString_4), (r0, 16, 40, .int 0), (r0, 16, 48, .int pw)]) [1, 2, 3, 4, 5, 6, 7, 8, 9, 10, 11, 12] rfl (M1 := []) [] rfl (I1 := []) [] rfl) (by first | omega | (refine ⟨?_, ?_⟩ <;> (first | omega | rfl | assumption | decide | exact Or.inl rfl | exact Or.inr rfl | (simp only; omega)))) (by omega) _ (lv_sub hl [1, 2, 3, 0] rfl)
                      exact L219 (3100 - (0 : Int32).toInt : Int).toNat.succ 0 _ _ hh_114 (by first | omega | (refine ⟨?_, ?_⟩ <;> (first | omega | rfl | assumption | decide | exact Or.inl rfl | exact Or.inr rfl | (simp only; omega)))) (by omega) _ (lv_sub hl [1, 2, 3, 0] rfl)
                    · skip
                      have c_115' : v3_114.toInt < 20 := jb_ge_n (rfl) ((by decide)) c_115
                      refine lv_aload_n hx hb dX14_release_186 rfl (lv_at hl 0 rfl) ?_
                      obtain ⟨v_131, hv_131, hh_132⟩ := hh_114.pin (C := RX14) (T := TX14) (N := 74) hB16 rfl (by decide) hg_r0 (i := 54) (by decide) rfl
                      clear hh_114
                      obtain ⟨waitUnits_133, rfl, hg_waitUnits_133⟩ := hv_131
                      refine j7_read hx hb hown hK (C := RX14) (T := TX14) (N := 74) rfl hly_16_54 hlk_106 (hh_132.at 0 rfl) dX14_release_187 ?_
                      refine lv_bipush (v := 20) hx hb dX14_release_190 (by decide) ?_
                      refine lv_iload_n hx hb dX14_release_192 rfl (lv_at hl 2 rfl) ?_
                      refine lv_imul hx hb dX14_release_193 ?_
                      refine lv_topi (fun z_134 ez_134 => ?_)
                      have hz_134 : z_134.toInt = 20 * v2_19.toInt := by rw [ez_134]; exact jb_imul2 ((by decide)) (rfl) (by omega)
                      refine lv_iload_n hx hb dX14_release_194 rfl (lv_at hl 3 rfl) ?_
                      refine lv_iadd hx hb dX14_release_195 ?_
                      refine lv_topi (fun z_135 ez_135 => ?_)
                      have hz_135 : z_135.toInt = z_134.toInt + v3_114.toInt := by rw [ez_135]; exact jb_iadd2 (rfl) (rfl) (by omega)
                      refine lv_aload_n hx hb dX14_release_196 rfl (lv_at hl 0 rfl) ?_
                      refine j7_read hx hb hown hK (C := RX14) (T := TX14) (N := 74) rfl hly_16_54 hlk_106 (hh_132.at 0 rfl) dX14_release_197 ?_
                      refine lv_bipush (v := 20) hx hb dX14_release_200 (by decide) ?_
                      refine lv_iload_n hx hb dX14_release_202 rfl (lv_at hl 2 rfl) ?_
                      refine lv_imul hx hb dX14_release_203 ?_
                      refine lv_topi (fun z_136 ez_136 => ?_)
                      have hz_136 : z_136.toInt = 20 * v2_19.toInt := by rw [ez_136]; exact jb_imul2 ((by decide)) (rfl) (by omega)
                      refine lv_bipush (v := 20) hx hb dX14_release_204 (by decide) ?_
                      refine lv_iadd hx hb dX14_release_206 ?_
                      refine lv_topi (fun z_137 ez_137 => ?_)
                      have hz_137 : z_137.toInt = z_136.toInt + 20 := by rw [ez_137]; exact jb_iadd2 (rfl) ((by decide)) (by omega)
                      refine lv_iload_n hx hb dX14_release_207 rfl (lv_at hl 3 rfl) ?_
                      refine lv_iadd hx hb dX14_release_208 ?_
                      refine lv_topi (fun z_138 ez_138 => ?_)
                      have hz_138 : z_138.toInt = z_137.toInt + v3_114.toInt := by rw [ez_138]; exact jb_iadd2 (rfl) (rfl) (by omega)
                      refine j7_iald hx hb hK hh_132 hB101 1 rfl (by decide) hg_waitUnits_133 (x := z_138.toInt) (rfl) (by omega) dX14_release_209 (fun z_139 (hz_139 : True) => ?_)
                      refine j7_iast hx hb hK hh_132 hB hB101 1 rfl (by decide) (by decide) rfl rfl rfl hg_waitUnits_133 (x := z_135.toInt) (rfl) (by omega) (trivial) dX14_release_210 (fun H_140 locs_140 hh_140 => ?_)
                      clear hh_132
                      obtain ⟨z_141, ez_141⟩ : ∃ y : Int32, y = v3_114 + 1 := ⟨_, rfl⟩
                      refine lv_iinc (v := z_141) (lv' := [(3, .int z_141), (0, .ref r0), (1, .int a1), (2, .int v2_19)]) hx hb dX14_release_211 hl (k := 3) rfl (by rw [ez_141]; rfl) (by decide) rfl (fun ls hl => ?_)
                      have hz_141 : z_141.toInt = v3_114.toInt + 1 := by rw [ez_141]; exact jb_iadd2 (rfl) (by decide) (by omega)
                      refine lv_goto (tgt := 180) hx hb dX14_release_214 (by decide) ?_
                      exact L180 z_141 _ _ (hh_140.sub (L1 := [(r0, 16, 57, .ref waitNameLength_110), (r0, 16, 51, .ref waitNeed_95), (r0, 16, 50, .ref waitGoals_89), (r0, 16, 49, .ref waitOf_26), (r0, 16, 39, .int z_15), (r0, 16, 55, .ref waitLength_14), (r0, 16, 37, .int z_10), (r0, 16, 53, .ref waitInt_9), (r0, 16, 36, .int z_5), (r0, 16, 52, .ref waitString_4), (r0, 16, 40, .int 0), (r0, 16, 48, .int pw)]) [1, 2, 3, 4, 5, 6, 7, 8, 9, 10, 11, 12] rfl (M1 := []) [] rfl (I1 := []) [] rfl) (by first | omega | (refine ⟨?_, ?_⟩ <;> (first | omega | rfl | assumption | decide | exact Or.inl rfl | exact Or.inr rfl | (simp only; omega)))) (by omega) _ (lv_sub hl [1, 2, 3, 0] rfl)
                exact L180 (20 - (0 : Int32).toInt : Int).toNat.succ 0 _ _ hh_113 (by first | omega | (refine ⟨?_, ?_⟩ <;> (first | omega | rfl | assumption | decide | exact Or.inl rfl | exact Or.inr rfl | (simp only; omega)))) (by omega) _ (lv_sub hl [1, 2, 3, 0] rfl)
        exact L70 (((pw.toInt - (a1 : Int32).toInt).toNat : Int) : Int).toNat.succ a1 _ _ hh_17 (by first | omega | (refine ⟨?_, ?_⟩ <;> (first | omega | rfl | assumption | decide | exact Or.inl rfl | exact Or.inr rfl | (simp only; omega)))) (by omega) _ (lv_sub hl [1, 2, 0] rfl)
      · skip
        have c_18' : v2_17.toInt < z_15.toInt := jb_ge_n (rfl) (rfl) c_18
        refine lv_aload_n hx hb dX14_release_45 rfl (lv_at hl 0 rfl) ?_
        obtain ⟨v_142, hv_142, hh_143⟩ := hh_17.pin (C := RX14) (T := TX14) (N := 74) hB16 rfl (by decide) hg_r0 (i := 38) (by decide) rfl
        clear hh_17
        obtain ⟨idUnits_144, rfl, hg_idUnits_144⟩ := hv_142
        refine j7_read hx hb hown hK (C := RX14) (T := TX14) (N := 74) rfl hly_16_38 hlk_68 (hh_143.at 0 rfl) dX14_release_46 ?_
        refine lv_iload_n hx hb dX14_release_49 rfl (lv_at hl 2 rfl) ?_
        refine lv_aload_n hx hb dX14_release_50 rfl (lv_at hl 0 rfl) ?_
        obtain ⟨v_145, hv_145, hh_146⟩ := hh_143.pin (C := RX14) (T := TX14) (N := 74) hB16 rfl (by decide) hg_r0 (i := 54) (by decide) rfl
        clear hh_143
        obtain ⟨waitUnits_147, rfl, hg_waitUnits_147⟩ := hv_145
        refine j7_read hx hb hown hK (C := RX14) (T := TX14) (N := 74) rfl hly_16_54 hlk_106 (hh_146.at 0 rfl) dX14_release_51 ?_
        refine lv_bipush (v := 20) hx hb dX14_release_54 (by decide) ?_
        refine lv_iload_n hx hb dX14_release_56 rfl (lv_at hl 1 rfl) ?_
        refine lv_imul hx hb dX14_release_57 ?_
        refine lv_topi (fun z_148 ez_148 => ?_)
        have hz_148 : z_148.toInt = 20 * a1.toInt := by rw [ez_148]; exact jb_imul2 ((by decide)) (rfl) (by omega)
        refine lv_iload_n hx hb dX14_release_58 rfl (lv_at hl 2 rfl) ?_
        refine lv_iadd hx hb dX14_release_59 ?_
        refine lv_topi (fun z_149 ez_149 => ?_)
        have hz_149 : z_149.toInt = z_148.toInt + v2_17.toInt := by rw [ez_149]; exact jb_iadd2 (rfl) (rfl) (by omega)
        refine j7_iald hx hb hK hh_146 hB101 1 rfl (by decide) hg_waitUnits_147 (x := z_149.toInt) (rfl) (by omega) dX14_release_60 (fun z_150 (hz_150 : True) => ?_)
        refine j7_iast hx hb hK hh_146 hB hB101 1 rfl (by decide) (by decide) rfl rfl rfl hg_idUnits_144 (x := v2_17.toInt) (rfl) (by omega) (trivial) dX14_release_61 (fun H_151 locs_151 hh_151 => ?_)
        clear hh_146
        obtain ⟨z_152, ez_152⟩ : ∃ y : Int32, y = v2_17 + 1 := ⟨_, rfl⟩
        refine lv_iinc (v := z_152) (lv' := [(2, .int z_152), (0, .ref r0), (1, .int a1)]) hx hb dX14_release_62 hl (k := 2) rfl (by rw [ez_152]; rfl) (by decide) rfl (fun ls hl => ?_)
        have hz_152 : z_152.toInt = v2_17.toInt + 1 := by rw [ez_152]; exact jb_iadd2 (rfl) (by decide) (by omega)
        refine lv_goto (tgt := 37) hx hb dX14_release_65 (by decide) ?_
        exact L37 z_152 _ _ (hh_151.sub (L1 := [(r0, 16, 39, .int z_15), (r0, 16, 55, .ref waitLength_14), (r0, 16, 37, .int z_10), (r0, 16, 53, .ref waitInt_9), (r0, 16, 36, .int z_5), (r0, 16, 52, .ref waitString_4), (r0, 16, 40, .int 0), (r0, 16, 48, .int pw)]) [2, 3, 4, 5, 6, 7, 8, 9] rfl (M1 := []) [] rfl (I1 := []) [] rfl) (by first | omega | (refine ⟨?_, ?_⟩ <;> (first | omega | rfl | assumption | decide | exact Or.inl rfl | exact Or.inr rfl | (simp only; omega)))) (by omega) _ (lv_sub hl [1, 2, 0] rfl)
  exact L37 (20 - (0 : Int32).toInt : Int).toNat.succ 0 _ _ hh_16 (by first | omega | (refine ⟨?_, ?_⟩ <;> (first | omega | rfl | assumption | decide | exact Or.inl rfl | exact Or.inr rfl | (simp only; omega)))) (by omega) _ (lv_sub hl [1, 2, 0] rfl)
end
section
theorem dX13_readTerm_0 : decode cX13_readTerm 0 = .ok (.aload_n 0, 1) := by decide +kernel
theorem dX13_readTerm_1 : decode cX13_readTerm 1 = .ok (.invokevirtual 194, 3) := by decide +kernel
theorem dX13_readTerm_4 : decode cX13_readTerm 4 = .ok (.istore_n 2, 1) := by decide +kernel
theorem dX13_readTerm_5 : decode cX13_readTerm 5 = .ok (.aload_n 0, 1) := by decide +kernel
theorem dX13_readTerm_6 : decode cX13_readTerm 6 = .ok (.getfield 181, 3) := by decide +kernel
theorem dX13_readTerm_9 : decode cX13_readTerm 9 = .ok (.ifCond .eq 5, 3) := by decide +kernel
theorem dX13_readTerm_12 : decode cX13_readTerm 12 = .ok (.iconst 0, 1) := by decide +kernel
theorem dX13_readTerm_13 : decode cX13_readTerm 13 = .ok (.ireturn, 1) := by decide +kernel
theorem dX13_readTerm_14 : decode cX13_readTerm 14 = .ok (.aload_n 0, 1) := by decide +kernel
theorem dX13_readTerm_15 : decode cX13_readTerm 15 = .ok (.bipush 11, 2) := by decide +kernel
theorem dX13_readTerm_17 : decode cX13_readTerm 17 = .ok (.iload_n 2, 1) := by decide +kernel
theorem dX13_readTerm_18 : decode cX13_readTerm 18 = .ok (.iconst (-1), 1) := by decide +kernel
theorem dX13_readTerm_19 : decode cX13_readTerm 19 = .ok (.iconst (-1), 1) := by decide +kernel
theorem dX13_readTerm_20 : decode cX13_readTerm 20 = .ok (.iconst 0, 1) := by decide +kernel
theorem dX13_readTerm_21 : decode cX13_readTerm 21 = .ok (.invokevirtual 197, 3) := by decide +kernel
theorem dX13_readTerm_24 : decode cX13_readTerm 24 = .ok (.istore_n 3, 1) := by decide +kernel
theorem dX13_readTerm_25 : decode cX13_readTerm 25 = .ok (.aload_n 0, 1) := by decide +kernel
theorem dX13_readTerm_26 : decode cX13_readTerm 26 = .ok (.bipush 40, 2) := by decide +kernel
theorem dX13_readTerm_28 : decode cX13_readTerm 28 = .ok (.invokevirtual 178, 3) := by decide +kernel
theorem dX13_readTerm_31 : decode cX13_readTerm 31 = .ok (.ifCond .ne 5, 3) := by decide +kernel
theorem dX13_readTerm_34 : decode cX13_readTerm 34 = .ok (.iload_n 3, 1) := by decide +kernel
theorem dX13_readTerm_35 : decode cX13_readTerm 35 = .ok (.ireturn, 1) := by decide +kernel
theorem dX13_readTerm_36 : decode cX13_readTerm 36 = .ok (.iload_n 1, 1) := by decide +kernel
theorem dX13_readTerm_37 : decode cX13_readTerm 37 = .ok (.bipush 12, 2) := by decide +kernel
theorem dX13_readTerm_39 : decode cX13_readTerm 39 = .ok (.if_icmp .ne 8, 3) := by decide +kernel
theorem dX13_readTerm_42 : decode cX13_readTerm 42 = .ok (.aload_n 0, 1) := by decide +kernel
theorem dX13_readTerm_43 : decode cX13_readTerm 43 = .ok (.iconst 1, 1) := by decide +kernel
theorem dX13_readTerm_44 : decode cX13_readTerm 44 = .ok (.putfield 181, 3) := by decide +kernel
theorem dX13_readTerm_47 : decode cX13_readTerm 47 = .ok (.aload_n 0, 1) := by decide +kernel
theorem dX13_readTerm_48 : decode cX13_readTerm 48 = .ok (.dup, 1) := by decide +kernel
theorem dX13_readTerm_49 : decode cX13_readTerm 49 = .ok (.getfield 171, 3) := by decide +kernel
theorem dX13_readTerm_52 : decode cX13_readTerm 52 = .ok (.iconst 1, 1) := by decide +kernel
theorem dX13_readTerm_53 : decode cX13_readTerm 53 = .ok (.iadd, 1) := by decide +kernel
theorem dX13_readTerm_54 : decode cX13_readTerm 54 = .ok (.putfield 171, 3) := by decide +kernel
theorem dX13_readTerm_57 : decode cX13_readTerm 57 = .ok (.iconst (-1), 1) := by decide +kernel
theorem dX13_readTerm_58 : decode cX13_readTerm 58 = .ok (.istore 4, 2) := by decide +kernel
theorem dX13_readTerm_60 : decode cX13_readTerm 60 = .ok (.iconst 1, 1) := by decide +kernel
theorem dX13_readTerm_61 : decode cX13_readTerm 61 = .ok (.istore 5, 2) := by decide +kernel
theorem dX13_readTerm_63 : decode cX13_readTerm 63 = .ok (.iload 5, 2) := by decide +kernel
theorem dX13_readTerm_65 : decode cX13_readTerm 65 = .ok (.ifCond .eq 84, 3) := by decide +kernel
theorem dX13_readTerm_68 : decode cX13_readTerm 68 = .ok (.aload_n 0, 1) := by decide +kernel
theorem dX13_readTerm_69 : decode cX13_readTerm 69 = .ok (.getfield 181, 3) := by decide +kernel
theorem dX13_readTerm_72 : decode cX13_readTerm 72 = .ok (.ifCond .ne 77, 3) := by decide +kernel
theorem dX13_readTerm_75 : decode cX13_readTerm 75 = .ok (.aload_n 0, 1) := by decide +kernel
theorem dX13_readTerm_76 : decode cX13_readTerm 76 = .ok (.iload_n 1, 1) := by decide +kernel
theorem dX13_readTerm_77 : decode cX13_readTerm 77 = .ok (.iconst 1, 1) := by decide +kernel
theorem dX13_readTerm_78 : decode cX13_readTerm 78 = .ok (.iadd, 1) := by decide +kernel
theorem dX13_readTerm_79 : decode cX13_readTerm 79 = .ok (.invokevirtual 201, 3) := by decide +kernel
theorem dX13_readTerm_82 : decode cX13_readTerm 82 = .ok (.istore 6, 2) := by decide +kernel
theorem dX13_readTerm_84 : decode cX13_readTerm 84 = .ok (.iload 4, 2) := by decide +kernel
theorem dX13_readTerm_86 : decode cX13_readTerm 86 = .ok (.ifCond .ge 14, 3) := by decide +kernel
theorem dX13_readTerm_89 : decode cX13_readTerm 89 = .ok (.aload_n 0, 1) := by decide +kernel
theorem dX13_readTerm_90 : decode cX13_readTerm 90 = .ok (.getfield 19, 3) := by decide +kernel
theorem dX13_readTerm_93 : decode cX13_readTerm 93 = .ok (.iload_n 3, 1) := by decide +kernel
theorem dX13_readTerm_94 : decode cX13_readTerm 94 = .ok (.iload 6, 2) := by decide +kernel
theorem dX13_readTerm_96 : decode cX13_readTerm 96 = .ok (.iastore, 1) := by decide +kernel
theorem dX13_readTerm_97 : decode cX13_readTerm 97 = .ok (.goto 12, 3) := by decide +kernel
theorem dX13_readTerm_100 : decode cX13_readTerm 100 = .ok (.aload_n 0, 1) := by decide +kernel
theorem dX13_readTerm_101 : decode cX13_readTerm 101 = .ok (.getfield 22, 3) := by decide +kernel
theorem dX13_readTerm_104 : decode cX13_readTerm 104 = .ok (.iload 4, 2) := by decide +kernel
theorem dX13_readTerm_106 : decode cX13_readTerm 106 = .ok (.iload 6, 2) := by decide +kernel
theorem dX13_readTerm_108 : decode cX13_readTerm 108 = .ok (.iastore, 1) := by decide +kernel
theorem dX13_readTerm_109 : decode cX13_readTerm 109 = .ok (.iload 6, 2) := by decide +kernel
theorem dX13_readTerm_111 : decode cX13_readTerm 111 = .ok (.istore 4, 2) := by decide +kernel
theorem dX13_readTerm_113 : decode cX13_readTerm 113 = .ok (.aload_n 0, 1) := by decide +kernel
theorem dX13_readTerm_114 : decode cX13_readTerm 114 = .ok (.getfield 25, 3) := by decide +kernel
theorem dX13_readTerm_117 : decode cX13_readTerm 117 = .ok (.iload_n 3, 1) := by decide +kernel
theorem dX13_readTerm_118 : decode cX13_readTerm 118 = .ok (.dup2, 1) := by decide +kernel
theorem dX13_readTerm_119 : decode cX13_readTerm 119 = .ok (.iaload, 1) := by decide +kernel
theorem dX13_readTerm_120 : decode cX13_readTerm 120 = .ok (.iconst 1, 1) := by decide +kernel
theorem dX13_readTerm_121 : decode cX13_readTerm 121 = .ok (.iadd, 1) := by decide +kernel
theorem dX13_readTerm_122 : decode cX13_readTerm 122 = .ok (.iastore, 1) := by decide +kernel
theorem dX13_readTerm_123 : decode cX13_readTerm 123 = .ok (.aload_n 0, 1) := by decide +kernel
theorem dX13_readTerm_124 : decode cX13_readTerm 124 = .ok (.bipush 44, 2) := by decide +kernel
theorem dX13_readTerm_126 : decode cX13_readTerm 126 = .ok (.invokevirtual 178, 3) := by decide +kernel
theorem dX13_readTerm_129 : decode cX13_readTerm 129 = .ok (.istore 5, 2) := by decide +kernel
theorem dX13_readTerm_131 : decode cX13_readTerm 131 = .ok (.iload 5, 2) := by decide +kernel
theorem dX13_readTerm_133 : decode cX13_readTerm 133 = .ok (.ifCond .eq 13, 3) := by decide +kernel
theorem dX13_readTerm_136 : decode cX13_readTerm 136 = .ok (.aload_n 0, 1) := by decide +kernel
theorem dX13_readTerm_137 : decode cX13_readTerm 137 = .ok (.dup, 1) := by decide +kernel
theorem dX13_readTerm_138 : decode cX13_readTerm 138 = .ok (.getfield 171, 3) := by decide +kernel
theorem dX13_readTerm_141 : decode cX13_readTerm 141 = .ok (.iconst 1, 1) := by decide +kernel
theorem dX13_readTerm_142 : decode cX13_readTerm 142 = .ok (.iadd, 1) := by decide +kernel
theorem dX13_readTerm_143 : decode cX13_readTerm 143 = .ok (.putfield 171, 3) := by decide +kernel
theorem dX13_readTerm_146 : decode cX13_readTerm 146 = .ok (.goto (-83), 3) := by decide +kernel
theorem dX13_readTerm_149 : decode cX13_readTerm 149 = .ok (.aload_n 0, 1) := by decide +kernel
theorem dX13_readTerm_150 : decode cX13_readTerm 150 = .ok (.bipush 41, 2) := by decide +kernel
theorem dX13_readTerm_152 : decode cX13_readTerm 152 = .ok (.invokevirtual 205, 3) := by decide +kernel
theorem dX13_readTerm_155 : decode cX13_readTerm 155 = .ok (.iload_n 3, 1) := by decide +kernel
theorem dX13_readTerm_156 : decode cX13_readTerm 156 = .ok (.ireturn, 1) := by decide +kernel
end
section
theorem dX13_readImp_0 : decode cX13_readImp 0 = .ok (.aload_n 0, 1) := by decide +kernel
theorem dX13_readImp_1 : decode cX13_readImp 1 = .ok (.iload_n 1, 1) := by decide +kernel
theorem dX13_readImp_2 : decode cX13_readImp 2 = .ok (.invokevirtual 209, 3) := by decide +kernel
theorem dX13_readImp_5 : decode cX13_readImp 5 = .ok (.istore_n 2, 1) := by decide +kernel
theorem dX13_readImp_6 : decode cX13_readImp 6 = .ok (.aload_n 0, 1) := by decide +kernel
theorem dX13_readImp_7 : decode cX13_readImp 7 = .ok (.getfield 181, 3) := by decide +kernel
theorem dX13_readImp_10 : decode cX13_readImp 10 = .ok (.ifCond .ne 12, 3) := by decide +kernel
theorem dX13_readImp_13 : decode cX13_readImp 13 = .ok (.aload_n 0, 1) := by decide +kernel
theorem dX13_readImp_14 : decode cX13_readImp 14 = .ok (.bipush 62, 2) := by decide +kernel
theorem dX13_readImp_16 : decode cX13_readImp 16 = .ok (.invokevirtual 178, 3) := by decide +kernel
theorem dX13_readImp_19 : decode cX13_readImp 19 = .ok (.ifCond .ne 5, 3) := by decide +kernel
theorem dX13_readImp_22 : decode cX13_readImp 22 = .ok (.iload_n 2, 1) := by decide +kernel
theorem dX13_readImp_23 : decode cX13_readImp 23 = .ok (.ireturn, 1) := by decide +kernel
theorem dX13_readImp_24 : decode cX13_readImp 24 = .ok (.aload_n 0, 1) := by decide +kernel
theorem dX13_readImp_25 : decode cX13_readImp 25 = .ok (.dup, 1) := by decide +kernel
theorem dX13_readImp_26 : decode cX13_readImp 26 = .ok (.getfield 171, 3) := by decide +kernel
theorem dX13_readImp_29 : decode cX13_readImp 29 = .ok (.iconst 1, 1) := by decide +kernel
theorem dX13_readImp_30 : decode cX13_readImp 30 = .ok (.iadd, 1) := by decide +kernel
theorem dX13_readImp_31 : decode cX13_readImp 31 = .ok (.putfield 171, 3) := by decide +kernel
theorem dX13_readImp_34 : decode cX13_readImp 34 = .ok (.aload_n 0, 1) := by decide +kernel
theorem dX13_readImp_35 : decode cX13_readImp 35 = .ok (.iconst 0, 1) := by decide +kernel
theorem dX13_readImp_36 : decode cX13_readImp 36 = .ok (.iconst 0, 1) := by decide +kernel
theorem dX13_readImp_37 : decode cX13_readImp 37 = .ok (.iload_n 2, 1) := by decide +kernel
theorem dX13_readImp_38 : decode cX13_readImp 38 = .ok (.aload_n 0, 1) := by decide +kernel
theorem dX13_readImp_39 : decode cX13_readImp 39 = .ok (.iload_n 1, 1) := by decide +kernel
theorem dX13_readImp_40 : decode cX13_readImp 40 = .ok (.invokevirtual 212, 3) := by decide +kernel
theorem dX13_readImp_43 : decode cX13_readImp 43 = .ok (.iconst 0, 1) := by decide +kernel
theorem dX13_readImp_44 : decode cX13_readImp 44 = .ok (.invokevirtual 197, 3) := by decide +kernel
theorem dX13_readImp_47 : decode cX13_readImp 47 = .ok (.ireturn, 1) := by decide +kernel
theorem dX13_readOr_0 : decode cX13_readOr 0 = .ok (.aload_n 0, 1) := by decide +kernel
theorem dX13_readOr_1 : decode cX13_readOr 1 = .ok (.iload_n 1, 1) := by decide +kernel
theorem dX13_readOr_2 : decode cX13_readOr 2 = .ok (.invokevirtual 215, 3) := by decide +kernel
theorem dX13_readOr_5 : decode cX13_readOr 5 = .ok (.istore_n 2, 1) := by decide +kernel
theorem dX13_readOr_6 : decode cX13_readOr 6 = .ok (.aload_n 0, 1) := by decide +kernel
theorem dX13_readOr_7 : decode cX13_readOr 7 = .ok (.getfield 181, 3) := by decide +kernel
theorem dX13_readOr_10 : decode cX13_readOr 10 = .ok (.ifCond .ne 12, 3) := by decide +kernel
theorem dX13_readOr_13 : decode cX13_readOr 13 = .ok (.aload_n 0, 1) := by decide +kernel
theorem dX13_readOr_14 : decode cX13_readOr 14 = .ok (.bipush 43, 2) := by decide +kernel
theorem dX13_readOr_16 : decode cX13_readOr 16 = .ok (.invokevirtual 178, 3) := by decide +kernel
theorem dX13_readOr_19 : decode cX13_readOr 19 = .ok (.ifCond .ne 5, 3) := by decide +kernel
theorem dX13_readOr_22 : decode cX13_readOr 22 = .ok (.iload_n 2, 1) := by decide +kernel
theorem dX13_readOr_23 : decode cX13_readOr 23 = .ok (.ireturn, 1) := by decide +kernel
theorem dX13_readOr_24 : decode cX13_readOr 24 = .ok (.aload_n 0, 1) := by decide +kernel
theorem dX13_readOr_25 : decode cX13_readOr 25 = .ok (.dup, 1) := by decide +kernel
theorem dX13_readOr_26 : decode cX13_readOr 26 = .ok (.getfield 171, 3) := by decide +kernel
theorem dX13_readOr_29 : decode cX13_readOr 29 = .ok (.iconst 1, 1) := by decide +kernel
theorem dX13_readOr_30 : decode cX13_readOr 30 = .ok (.iadd, 1) := by decide +kernel
theorem dX13_readOr_31 : decode cX13_readOr 31 = .ok (.putfield 171, 3) := by decide +kernel
theorem dX13_readOr_34 : decode cX13_readOr 34 = .ok (.aload_n 0, 1) := by decide +kernel
theorem dX13_readOr_35 : decode cX13_readOr 35 = .ok (.iconst 2, 1) := by decide +kernel
theorem dX13_readOr_36 : decode cX13_readOr 36 = .ok (.iconst 0, 1) := by decide +kernel
theorem dX13_readOr_37 : decode cX13_readOr 37 = .ok (.iload_n 2, 1) := by decide +kernel
theorem dX13_readOr_38 : decode cX13_readOr 38 = .ok (.aload_n 0, 1) := by decide +kernel
theorem dX13_readOr_39 : decode cX13_readOr 39 = .ok (.iload_n 1, 1) := by decide +kernel
theorem dX13_readOr_40 : decode cX13_readOr 40 = .ok (.invokevirtual 209, 3) := by decide +kernel
theorem dX13_readOr_43 : decode cX13_readOr 43 = .ok (.iconst 0, 1) := by decide +kernel
theorem dX13_readOr_44 : decode cX13_readOr 44 = .ok (.invokevirtual 197, 3) := by decide +kernel
theorem dX13_readOr_47 : decode cX13_readOr 47 = .ok (.ireturn, 1) := by decide +kernel
theorem dX13_readAnd_0 : decode cX13_readAnd 0 = .ok (.aload_n 0, 1) := by decide +kernel
theorem dX13_readAnd_1 : decode cX13_readAnd 1 = .ok (.iload_n 1, 1) := by decide +kernel
theorem dX13_readAnd_2 : decode cX13_readAnd 2 = .ok (.invokevirtual 218, 3) := by decide +kernel
theorem dX13_readAnd_5 : decode cX13_readAnd 5 = .ok (.istore_n 2, 1) := by decide +kernel
theorem dX13_readAnd_6 : decode cX13_readAnd 6 = .ok (.aload_n 0, 1) := by decide +kernel
theorem dX13_readAnd_7 : decode cX13_readAnd 7 = .ok (.getfield 181, 3) := by decide +kernel
theorem dX13_readAnd_10 : decode cX13_readAnd 10 = .ok (.ifCond .ne 12, 3) := by decide +kernel
theorem dX13_readAnd_13 : decode cX13_readAnd 13 = .ok (.aload_n 0, 1) := by decide +kernel
theorem dX13_readAnd_14 : decode cX13_readAnd 14 = .ok (.bipush 42, 2) := by decide +kernel
theorem dX13_readAnd_16 : decode cX13_readAnd 16 = .ok (.invokevirtual 178, 3) := by decide +kernel
theorem dX13_readAnd_19 : decode cX13_readAnd 19 = .ok (.ifCond .ne 5, 3) := by decide +kernel
theorem dX13_readAnd_22 : decode cX13_readAnd 22 = .ok (.iload_n 2, 1) := by decide +kernel
theorem dX13_readAnd_23 : decode cX13_readAnd 23 = .ok (.ireturn, 1) := by decide +kernel
theorem dX13_readAnd_24 : decode cX13_readAnd 24 = .ok (.aload_n 0, 1) := by decide +kernel
theorem dX13_readAnd_25 : decode cX13_readAnd 25 = .ok (.dup, 1) := by decide +kernel
theorem dX13_readAnd_26 : decode cX13_readAnd 26 = .ok (.getfield 171, 3) := by decide +kernel
theorem dX13_readAnd_29 : decode cX13_readAnd 29 = .ok (.iconst 1, 1) := by decide +kernel
theorem dX13_readAnd_30 : decode cX13_readAnd 30 = .ok (.iadd, 1) := by decide +kernel
theorem dX13_readAnd_31 : decode cX13_readAnd 31 = .ok (.putfield 171, 3) := by decide +kernel
theorem dX13_readAnd_34 : decode cX13_readAnd 34 = .ok (.aload_n 0, 1) := by decide +kernel
theorem dX13_readAnd_35 : decode cX13_readAnd 35 = .ok (.iconst 1, 1) := by decide +kernel
theorem dX13_readAnd_36 : decode cX13_readAnd 36 = .ok (.iconst 0, 1) := by decide +kernel
theorem dX13_readAnd_37 : decode cX13_readAnd 37 = .ok (.iload_n 2, 1) := by decide +kernel
theorem dX13_readAnd_38 : decode cX13_readAnd 38 = .ok (.aload_n 0, 1) := by decide +kernel
theorem dX13_readAnd_39 : decode cX13_readAnd 39 = .ok (.iload_n 1, 1) := by decide +kernel
theorem dX13_readAnd_40 : decode cX13_readAnd 40 = .ok (.invokevirtual 215, 3) := by decide +kernel
theorem dX13_readAnd_43 : decode cX13_readAnd 43 = .ok (.iconst 0, 1) := by decide +kernel
theorem dX13_readAnd_44 : decode cX13_readAnd 44 = .ok (.invokevirtual 197, 3) := by decide +kernel
theorem dX13_readAnd_47 : decode cX13_readAnd 47 = .ok (.ireturn, 1) := by decide +kernel
theorem dX13_readOne_0 : decode cX13_readOne 0 = .ok (.aload_n 0, 1) := by decide +kernel
theorem dX13_readOne_1 : decode cX13_readOne 1 = .ok (.getfield 181, 3) := by decide +kernel
theorem dX13_readOne_4 : decode cX13_readOne 4 = .ok (.ifCond .eq 5, 3) := by decide +kernel
theorem dX13_readOne_7 : decode cX13_readOne 7 = .ok (.iconst 0, 1) := by decide +kernel
theorem dX13_readOne_8 : decode cX13_readOne 8 = .ok (.ireturn, 1) := by decide +kernel
theorem dX13_readOne_9 : decode cX13_readOne 9 = .ok (.aload_n 0, 1) := by decide +kernel
theorem dX13_readOne_10 : decode cX13_readOne 10 = .ok (.ldc 184, 2) := by decide +kernel
theorem dX13_readOne_12 : decode cX13_readOne 12 = .ok (.invokevirtual 186, 3) := by decide +kernel
theorem dX13_readOne_15 : decode cX13_readOne 15 = .ok (.istore_n 2, 1) := by decide +kernel
theorem dX13_readOne_16 : decode cX13_readOne 16 = .ok (.aload_n 0, 1) := by decide +kernel
theorem dX13_readOne_17 : decode cX13_readOne 17 = .ok (.bipush 126, 2) := by decide +kernel
theorem dX13_readOne_19 : decode cX13_readOne 19 = .ok (.invokevirtual 178, 3) := by decide +kernel
theorem dX13_readOne_22 : decode cX13_readOne 22 = .ok (.ifCond .ne 25, 3) := by decide +kernel
theorem dX13_readOne_25 : decode cX13_readOne 25 = .ok (.aload_n 0, 1) := by decide +kernel
theorem dX13_readOne_26 : decode cX13_readOne 26 = .ok (.bipush 40, 2) := by decide +kernel
theorem dX13_readOne_28 : decode cX13_readOne 28 = .ok (.invokevirtual 178, 3) := by decide +kernel
theorem dX13_readOne_31 : decode cX13_readOne 31 = .ok (.ifCond .ne 16, 3) := by decide +kernel
theorem dX13_readOne_34 : decode cX13_readOne 34 = .ok (.iload_n 2, 1) := by decide +kernel
theorem dX13_readOne_35 : decode cX13_readOne 35 = .ok (.ifCond .ne 12, 3) := by decide +kernel
theorem dX13_readOne_38 : decode cX13_readOne 38 = .ok (.aload_n 0, 1) := by decide +kernel
theorem dX13_readOne_39 : decode cX13_readOne 39 = .ok (.ldc 190, 2) := by decide +kernel
theorem dX13_readOne_41 : decode cX13_readOne 41 = .ok (.invokevirtual 186, 3) := by decide +kernel
theorem dX13_readOne_44 : decode cX13_readOne 44 = .ok (.ifCond .eq 7, 3) := by decide +kernel
theorem dX13_readOne_47 : decode cX13_readOne 47 = .ok (.iconst 1, 1) := by decide +kernel
theorem dX13_readOne_48 : decode cX13_readOne 48 = .ok (.goto 4, 3) := by decide +kernel
theorem dX13_readOne_51 : decode cX13_readOne 51 = .ok (.iconst 0, 1) := by decide +kernel
theorem dX13_readOne_52 : decode cX13_readOne 52 = .ok (.istore_n 3, 1) := by decide +kernel
theorem dX13_readOne_53 : decode cX13_readOne 53 = .ok (.iload_n 3, 1) := by decide +kernel
theorem dX13_readOne_54 : decode cX13_readOne 54 = .ok (.ifCond .eq 14, 3) := by decide +kernel
theorem dX13_readOne_57 : decode cX13_readOne 57 = .ok (.iload_n 1, 1) := by decide +kernel
theorem dX13_readOne_58 : decode cX13_readOne 58 = .ok (.bipush 12, 2) := by decide +kernel
theorem dX13_readOne_60 : decode cX13_readOne 60 = .ok (.if_icmp .ne 8, 3) := by decide +kernel
theorem dX13_readOne_63 : decode cX13_readOne 63 = .ok (.aload_n 0, 1) := by decide +kernel
theorem dX13_readOne_64 : decode cX13_readOne 64 = .ok (.iconst 1, 1) := by decide +kernel
theorem dX13_readOne_65 : decode cX13_readOne 65 = .ok (.putfield 181, 3) := by decide +kernel
theorem dX13_readOne_68 : decode cX13_readOne 68 = .ok (.aload_n 0, 1) := by decide +kernel
theorem dX13_readOne_69 : decode cX13_readOne 69 = .ok (.getfield 181, 3) := by decide +kernel
theorem dX13_readOne_72 : decode cX13_readOne 72 = .ok (.ifCond .eq 5, 3) := by decide +kernel
theorem dX13_readOne_75 : decode cX13_readOne 75 = .ok (.iconst 0, 1) := by decide +kernel
theorem dX13_readOne_76 : decode cX13_readOne 76 = .ok (.ireturn, 1) := by decide +kernel
theorem dX13_readOne_77 : decode cX13_readOne 77 = .ok (.aload_n 0, 1) := by decide +kernel
theorem dX13_readOne_78 : decode cX13_readOne 78 = .ok (.bipush 126, 2) := by decide +kernel
theorem dX13_readOne_80 : decode cX13_readOne 80 = .ok (.invokevirtual 178, 3) := by decide +kernel
theorem dX13_readOne_83 : decode cX13_readOne 83 = .ok (.ifCond .eq 41, 3) := by decide +kernel
theorem dX13_readOne_86 : decode cX13_readOne 86 = .ok (.aload_n 0, 1) := by decide +kernel
theorem dX13_readOne_87 : decode cX13_readOne 87 = .ok (.dup, 1) := by decide +kernel
theorem dX13_readOne_88 : decode cX13_readOne 88 = .ok (.getfield 171, 3) := by decide +kernel
theorem dX13_readOne_91 : decode cX13_readOne 91 = .ok (.iconst 1, 1) := by decide +kernel
theorem dX13_readOne_92 : decode cX13_readOne 92 = .ok (.iadd, 1) := by decide +kernel
theorem dX13_readOne_93 : decode cX13_readOne 93 = .ok (.putfield 171, 3) := by decide +kernel
theorem dX13_readOne_96 : decode cX13_readOne 96 = .ok (.aload_n 0, 1) := by decide +kernel
theorem dX13_readOne_97 : decode cX13_readOne 97 = .ok (.iload_n 1, 1) := by decide +kernel
theorem dX13_readOne_98 : decode cX13_readOne 98 = .ok (.iconst 1, 1) := by decide +kernel
theorem dX13_readOne_99 : decode cX13_readOne 99 = .ok (.iadd, 1) := by decide +kernel
theorem dX13_readOne_100 : decode cX13_readOne 100 = .ok (.invokevirtual 218, 3) := by decide +kernel
theorem dX13_readOne_103 : decode cX13_readOne 103 = .ok (.istore 4, 2) := by decide +kernel
theorem dX13_readOne_105 : decode cX13_readOne 105 = .ok (.aload_n 0, 1) := by decide +kernel
theorem dX13_readOne_106 : decode cX13_readOne 106 = .ok (.iconst 0, 1) := by decide +kernel
theorem dX13_readOne_107 : decode cX13_readOne 107 = .ok (.iconst 0, 1) := by decide +kernel
theorem dX13_readOne_108 : decode cX13_readOne 108 = .ok (.iload 4, 2) := by decide +kernel
theorem dX13_readOne_110 : decode cX13_readOne 110 = .ok (.aload_n 0, 1) := by decide +kernel
theorem dX13_readOne_111 : decode cX13_readOne 111 = .ok (.iconst 3, 1) := by decide +kernel
theorem dX13_readOne_112 : decode cX13_readOne 112 = .ok (.iconst 0, 1) := by decide +kernel
theorem dX13_readOne_113 : decode cX13_readOne 113 = .ok (.iconst 0, 1) := by decide +kernel
theorem dX13_readOne_114 : decode cX13_readOne 114 = .ok (.iconst 0, 1) := by decide +kernel
theorem dX13_readOne_115 : decode cX13_readOne 115 = .ok (.iconst 0, 1) := by decide +kernel
theorem dX13_readOne_116 : decode cX13_readOne 116 = .ok (.invokevirtual 197, 3) := by decide +kernel
theorem dX13_readOne_119 : decode cX13_readOne 119 = .ok (.iconst 0, 1) := by decide +kernel
theorem dX13_readOne_120 : decode cX13_readOne 120 = .ok (.invokevirtual 197, 3) := by decide +kernel
theorem dX13_readOne_123 : decode cX13_readOne 123 = .ok (.ireturn, 1) := by decide +kernel
theorem dX13_readOne_124 : decode cX13_readOne 124 = .ok (.aload_n 0, 1) := by decide +kernel
theorem dX13_readOne_125 : decode cX13_readOne 125 = .ok (.bipush 40, 2) := by decide +kernel
theorem dX13_readOne_127 : decode cX13_readOne 127 = .ok (.invokevirtual 178, 3) := by decide +kernel
theorem dX13_readOne_130 : decode cX13_readOne 130 = .ok (.ifCond .eq 31, 3) := by decide +kernel
theorem dX13_readOne_133 : decode cX13_readOne 133 = .ok (.aload_n 0, 1) := by decide +kernel
theorem dX13_readOne_134 : decode cX13_readOne 134 = .ok (.dup, 1) := by decide +kernel
theorem dX13_readOne_135 : decode cX13_readOne 135 = .ok (.getfield 171, 3) := by decide +kernel
theorem dX13_readOne_138 : decode cX13_readOne 138 = .ok (.iconst 1, 1) := by decide +kernel
theorem dX13_readOne_139 : decode cX13_readOne 139 = .ok (.iadd, 1) := by decide +kernel
theorem dX13_readOne_140 : decode cX13_readOne 140 = .ok (.putfield 171, 3) := by decide +kernel
theorem dX13_readOne_143 : decode cX13_readOne 143 = .ok (.aload_n 0, 1) := by decide +kernel
theorem dX13_readOne_144 : decode cX13_readOne 144 = .ok (.iload_n 1, 1) := by decide +kernel
theorem dX13_readOne_145 : decode cX13_readOne 145 = .ok (.iconst 1, 1) := by decide +kernel
theorem dX13_readOne_146 : decode cX13_readOne 146 = .ok (.iadd, 1) := by decide +kernel
theorem dX13_readOne_147 : decode cX13_readOne 147 = .ok (.invokevirtual 212, 3) := by decide +kernel
theorem dX13_readOne_150 : decode cX13_readOne 150 = .ok (.istore 4, 2) := by decide +kernel
theorem dX13_readOne_152 : decode cX13_readOne 152 = .ok (.aload_n 0, 1) := by decide +kernel
theorem dX13_readOne_153 : decode cX13_readOne 153 = .ok (.bipush 41, 2) := by decide +kernel
theorem dX13_readOne_155 : decode cX13_readOne 155 = .ok (.invokevirtual 205, 3) := by decide +kernel
theorem dX13_readOne_158 : decode cX13_readOne 158 = .ok (.iload 4, 2) := by decide +kernel
theorem dX13_readOne_160 : decode cX13_readOne 160 = .ok (.ireturn, 1) := by decide +kernel
theorem dX13_readOne_161 : decode cX13_readOne 161 = .ok (.iload_n 3, 1) := by decide +kernel
theorem dX13_readOne_162 : decode cX13_readOne 162 = .ok (.ifCond .eq 61, 3) := by decide +kernel
theorem dX13_readOne_165 : decode cX13_readOne 165 = .ok (.aload_n 0, 1) := by decide +kernel
theorem dX13_readOne_166 : decode cX13_readOne 166 = .ok (.dup, 1) := by decide +kernel
theorem dX13_readOne_167 : decode cX13_readOne 167 = .ok (.getfield 171, 3) := by decide +kernel
theorem dX13_readOne_170 : decode cX13_readOne 170 = .ok (.iconst 1, 1) := by decide +kernel
theorem dX13_readOne_171 : decode cX13_readOne 171 = .ok (.iadd, 1) := by decide +kernel
theorem dX13_readOne_172 : decode cX13_readOne 172 = .ok (.putfield 171, 3) := by decide +kernel
theorem dX13_readOne_175 : decode cX13_readOne 175 = .ok (.aload_n 0, 1) := by decide +kernel
theorem dX13_readOne_176 : decode cX13_readOne 176 = .ok (.invokevirtual 194, 3) := by decide +kernel
theorem dX13_readOne_179 : decode cX13_readOne 179 = .ok (.istore 4, 2) := by decide +kernel
theorem dX13_readOne_181 : decode cX13_readOne 181 = .ok (.aload_n 0, 1) := by decide +kernel
theorem dX13_readOne_182 : decode cX13_readOne 182 = .ok (.bipush 44, 2) := by decide +kernel
theorem dX13_readOne_184 : decode cX13_readOne 184 = .ok (.invokevirtual 205, 3) := by decide +kernel
theorem dX13_readOne_187 : decode cX13_readOne 187 = .ok (.aload_n 0, 1) := by decide +kernel
theorem dX13_readOne_188 : decode cX13_readOne 188 = .ok (.getfield 181, 3) := by decide +kernel
theorem dX13_readOne_191 : decode cX13_readOne 191 = .ok (.ifCond .eq 7, 3) := by decide +kernel
theorem dX13_readOne_194 : decode cX13_readOne 194 = .ok (.iconst 0, 1) := by decide +kernel
theorem dX13_readOne_195 : decode cX13_readOne 195 = .ok (.goto 27, 3) := by decide +kernel
theorem dX13_readOne_198 : decode cX13_readOne 198 = .ok (.aload_n 0, 1) := by decide +kernel
theorem dX13_readOne_199 : decode cX13_readOne 199 = .ok (.iload_n 2, 1) := by decide +kernel
theorem dX13_readOne_200 : decode cX13_readOne 200 = .ok (.ifCond .eq 7, 3) := by decide +kernel
theorem dX13_readOne_203 : decode cX13_readOne 203 = .ok (.iconst 4, 1) := by decide +kernel
theorem dX13_readOne_204 : decode cX13_readOne 204 = .ok (.goto 4, 3) := by decide +kernel
theorem dX13_readOne_207 : decode cX13_readOne 207 = .ok (.iconst 5, 1) := by decide +kernel
theorem dX13_readOne_208 : decode cX13_readOne 208 = .ok (.iload 4, 2) := by decide +kernel
theorem dX13_readOne_210 : decode cX13_readOne 210 = .ok (.aload_n 0, 1) := by decide +kernel
theorem dX13_readOne_211 : decode cX13_readOne 211 = .ok (.iload_n 1, 1) := by decide +kernel
theorem dX13_readOne_212 : decode cX13_readOne 212 = .ok (.iconst 1, 1) := by decide +kernel
theorem dX13_readOne_213 : decode cX13_readOne 213 = .ok (.iadd, 1) := by decide +kernel
theorem dX13_readOne_214 : decode cX13_readOne 214 = .ok (.invokevirtual 212, 3) := by decide +kernel
theorem dX13_readOne_217 : decode cX13_readOne 217 = .ok (.iconst 0, 1) := by decide +kernel
theorem dX13_readOne_218 : decode cX13_readOne 218 = .ok (.iconst 0, 1) := by decide +kernel
theorem dX13_readOne_219 : decode cX13_readOne 219 = .ok (.invokevirtual 197, 3) := by decide +kernel
theorem dX13_readOne_222 : decode cX13_readOne 222 = .ok (.ireturn, 1) := by decide +kernel
theorem dX13_readOne_223 : decode cX13_readOne 223 = .ok (.aload_n 0, 1) := by decide +kernel
theorem dX13_readOne_224 : decode cX13_readOne 224 = .ok (.ldc 192, 2) := by decide +kernel
theorem dX13_readOne_226 : decode cX13_readOne 226 = .ok (.invokevirtual 186, 3) := by decide +kernel
theorem dX13_readOne_229 : decode cX13_readOne 229 = .ok (.ifCond .eq 23, 3) := by decide +kernel
theorem dX13_readOne_232 : decode cX13_readOne 232 = .ok (.aload_n 0, 1) := by decide +kernel
theorem dX13_readOne_233 : decode cX13_readOne 233 = .ok (.dup, 1) := by decide +kernel
theorem dX13_readOne_234 : decode cX13_readOne 234 = .ok (.getfield 171, 3) := by decide +kernel
theorem dX13_readOne_237 : decode cX13_readOne 237 = .ok (.iconst 1, 1) := by decide +kernel
theorem dX13_readOne_238 : decode cX13_readOne 238 = .ok (.iadd, 1) := by decide +kernel
theorem dX13_readOne_239 : decode cX13_readOne 239 = .ok (.putfield 171, 3) := by decide +kernel
theorem dX13_readOne_242 : decode cX13_readOne 242 = .ok (.aload_n 0, 1) := by decide +kernel
theorem dX13_readOne_243 : decode cX13_readOne 243 = .ok (.iconst 3, 1) := by decide +kernel
theorem dX13_readOne_244 : decode cX13_readOne 244 = .ok (.iconst 0, 1) := by decide +kernel
theorem dX13_readOne_245 : decode cX13_readOne 245 = .ok (.iconst 0, 1) := by decide +kernel
theorem dX13_readOne_246 : decode cX13_readOne 246 = .ok (.iconst 0, 1) := by decide +kernel
theorem dX13_readOne_247 : decode cX13_readOne 247 = .ok (.iconst 0, 1) := by decide +kernel
theorem dX13_readOne_248 : decode cX13_readOne 248 = .ok (.invokevirtual 197, 3) := by decide +kernel
theorem dX13_readOne_251 : decode cX13_readOne 251 = .ok (.ireturn, 1) := by decide +kernel
theorem dX13_readOne_252 : decode cX13_readOne 252 = .ok (.aload_n 0, 1) := by decide +kernel
theorem dX13_readOne_253 : decode cX13_readOne 253 = .ok (.iload_n 1, 1) := by decide +kernel
theorem dX13_readOne_254 : decode cX13_readOne 254 = .ok (.invokevirtual 201, 3) := by decide +kernel
theorem dX13_readOne_257 : decode cX13_readOne 257 = .ok (.istore 4, 2) := by decide +kernel
theorem dX13_readOne_259 : decode cX13_readOne 259 = .ok (.aload_n 0, 1) := by decide +kernel
theorem dX13_readOne_260 : decode cX13_readOne 260 = .ok (.getfield 181, 3) := by decide +kernel
theorem dX13_readOne_263 : decode cX13_readOne 263 = .ok (.ifCond .ne 12, 3) := by decide +kernel
theorem dX13_readOne_266 : decode cX13_readOne 266 = .ok (.aload_n 0, 1) := by decide +kernel
theorem dX13_readOne_267 : decode cX13_readOne 267 = .ok (.bipush 61, 2) := by decide +kernel
theorem dX13_readOne_269 : decode cX13_readOne 269 = .ok (.invokevirtual 178, 3) := by decide +kernel
theorem dX13_readOne_272 : decode cX13_readOne 272 = .ok (.ifCond .ne 6, 3) := by decide +kernel
theorem dX13_readOne_275 : decode cX13_readOne 275 = .ok (.iload 4, 2) := by decide +kernel
theorem dX13_readOne_277 : decode cX13_readOne 277 = .ok (.ireturn, 1) := by decide +kernel
theorem dX13_readOne_278 : decode cX13_readOne 278 = .ok (.aload_n 0, 1) := by decide +kernel
theorem dX13_readOne_279 : decode cX13_readOne 279 = .ok (.dup, 1) := by decide +kernel
theorem dX13_readOne_280 : decode cX13_readOne 280 = .ok (.getfield 171, 3) := by decide +kernel
theorem dX13_readOne_283 : decode cX13_readOne 283 = .ok (.iconst 1, 1) := by decide +kernel
theorem dX13_readOne_284 : decode cX13_readOne 284 = .ok (.iadd, 1) := by decide +kernel
theorem dX13_readOne_285 : decode cX13_readOne 285 = .ok (.putfield 171, 3) := by decide +kernel
theorem dX13_readOne_288 : decode cX13_readOne 288 = .ok (.aload_n 0, 1) := by decide +kernel
theorem dX13_readOne_289 : decode cX13_readOne 289 = .ok (.bipush 6, 2) := by decide +kernel
theorem dX13_readOne_291 : decode cX13_readOne 291 = .ok (.iconst 0, 1) := by decide +kernel
theorem dX13_readOne_292 : decode cX13_readOne 292 = .ok (.iload 4, 2) := by decide +kernel
theorem dX13_readOne_294 : decode cX13_readOne 294 = .ok (.aload_n 0, 1) := by decide +kernel
theorem dX13_readOne_295 : decode cX13_readOne 295 = .ok (.iload_n 1, 1) := by decide +kernel
theorem dX13_readOne_296 : decode cX13_readOne 296 = .ok (.invokevirtual 201, 3) := by decide +kernel
theorem dX13_readOne_299 : decode cX13_readOne 299 = .ok (.iconst 0, 1) := by decide +kernel
theorem dX13_readOne_300 : decode cX13_readOne 300 = .ok (.invokevirtual 197, 3) := by decide +kernel
theorem dX13_readOne_303 : decode cX13_readOne 303 = .ok (.ireturn, 1) := by decide +kernel
end
section
theorem dX13_read_0 : decode cX13_read 0 = .ok (.aload_n 0, 1) := by decide +kernel
theorem dX13_read_1 : decode cX13_read 1 = .ok (.iconst 1, 1) := by decide +kernel
theorem dX13_read_2 : decode cX13_read 2 = .ok (.putfield 171, 3) := by decide +kernel
theorem dX13_read_5 : decode cX13_read 5 = .ok (.iload_n 1, 1) := by decide +kernel
theorem dX13_read_6 : decode cX13_read 6 = .ok (.iconst 4, 1) := by decide +kernel
theorem dX13_read_7 : decode cX13_read 7 = .ok (.if_icmp .eq 32, 3) := by decide +kernel
theorem dX13_read_10 : decode cX13_read 10 = .ok (.iload_n 1, 1) := by decide +kernel
theorem dX13_read_11 : decode cX13_read 11 = .ok (.iconst 5, 1) := by decide +kernel
theorem dX13_read_12 : decode cX13_read 12 = .ok (.if_icmp .eq 27, 3) := by decide +kernel
theorem dX13_read_15 : decode cX13_read 15 = .ok (.iload_n 1, 1) := by decide +kernel
theorem dX13_read_16 : decode cX13_read 16 = .ok (.bipush 9, 2) := by decide +kernel
theorem dX13_read_18 : decode cX13_read 18 = .ok (.if_icmp .eq 21, 3) := by decide +kernel
theorem dX13_read_21 : decode cX13_read 21 = .ok (.iload_n 1, 1) := by decide +kernel
theorem dX13_read_22 : decode cX13_read 22 = .ok (.bipush 10, 2) := by decide +kernel
theorem dX13_read_24 : decode cX13_read 24 = .ok (.if_icmp .eq 15, 3) := by decide +kernel
theorem dX13_read_27 : decode cX13_read 27 = .ok (.iload_n 1, 1) := by decide +kernel
theorem dX13_read_28 : decode cX13_read 28 = .ok (.bipush 11, 2) := by decide +kernel
theorem dX13_read_30 : decode cX13_read 30 = .ok (.if_icmp .eq 9, 3) := by decide +kernel
theorem dX13_read_33 : decode cX13_read 33 = .ok (.iload_n 1, 1) := by decide +kernel
theorem dX13_read_34 : decode cX13_read 34 = .ok (.bipush 16, 2) := by decide +kernel
theorem dX13_read_36 : decode cX13_read 36 = .ok (.if_icmp .ne 11, 3) := by decide +kernel
theorem dX13_read_39 : decode cX13_read 39 = .ok (.aload_n 0, 1) := by decide +kernel
theorem dX13_read_40 : decode cX13_read 40 = .ok (.iconst 0, 1) := by decide +kernel
theorem dX13_read_41 : decode cX13_read 41 = .ok (.putfield 291, 3) := by decide +kernel
theorem dX13_read_44 : decode cX13_read 44 = .ok (.goto 29, 3) := by decide +kernel
theorem dX13_read_47 : decode cX13_read 47 = .ok (.iload_n 1, 1) := by decide +kernel
theorem dX13_read_48 : decode cX13_read 48 = .ok (.bipush 14, 2) := by decide +kernel
theorem dX13_read_50 : decode cX13_read 50 = .ok (.if_icmp .ne 15, 3) := by decide +kernel
theorem dX13_read_53 : decode cX13_read 53 = .ok (.aload_n 0, 1) := by decide +kernel
theorem dX13_read_54 : decode cX13_read 54 = .ok (.aload_n 0, 1) := by decide +kernel
theorem dX13_read_55 : decode cX13_read 55 = .ok (.iconst 0, 1) := by decide +kernel
theorem dX13_read_56 : decode cX13_read 56 = .ok (.invokevirtual 201, 3) := by decide +kernel
theorem dX13_read_59 : decode cX13_read 59 = .ok (.putfield 294, 3) := by decide +kernel
theorem dX13_read_62 : decode cX13_read 62 = .ok (.goto 11, 3) := by decide +kernel
theorem dX13_read_65 : decode cX13_read 65 = .ok (.aload_n 0, 1) := by decide +kernel
theorem dX13_read_66 : decode cX13_read 66 = .ok (.aload_n 0, 1) := by decide +kernel
theorem dX13_read_67 : decode cX13_read 67 = .ok (.invokevirtual 194, 3) := by decide +kernel
theorem dX13_read_70 : decode cX13_read 70 = .ok (.putfield 291, 3) := by decide +kernel
theorem dX13_read_73 : decode cX13_read 73 = .ok (.iload_n 1, 1) := by decide +kernel
theorem dX13_read_74 : decode cX13_read 74 = .ok (.iconst 1, 1) := by decide +kernel
theorem dX13_read_75 : decode cX13_read 75 = .ok (.if_icmp .gt 11, 3) := by decide +kernel
theorem dX13_read_78 : decode cX13_read 78 = .ok (.aload_n 0, 1) := by decide +kernel
theorem dX13_read_79 : decode cX13_read 79 = .ok (.aload_n 0, 1) := by decide +kernel
theorem dX13_read_80 : decode cX13_read 80 = .ok (.invokevirtual 297, 3) := by decide +kernel
theorem dX13_read_83 : decode cX13_read 83 = .ok (.putfield 300, 3) := by decide +kernel
theorem dX13_read_86 : decode cX13_read 86 = .ok (.iload_n 1, 1) := by decide +kernel
theorem dX13_read_87 : decode cX13_read 87 = .ok (.iconst 2, 1) := by decide +kernel
theorem dX13_read_88 : decode cX13_read 88 = .ok (.if_icmp .eq 14, 3) := by decide +kernel
theorem dX13_read_91 : decode cX13_read 91 = .ok (.iload_n 1, 1) := by decide +kernel
theorem dX13_read_92 : decode cX13_read 92 = .ok (.iconst 3, 1) := by decide +kernel
theorem dX13_read_93 : decode cX13_read 93 = .ok (.if_icmp .eq 9, 3) := by decide +kernel
theorem dX13_read_96 : decode cX13_read 96 = .ok (.iload_n 1, 1) := by decide +kernel
theorem dX13_read_97 : decode cX13_read 97 = .ok (.bipush 18, 2) := by decide +kernel
theorem dX13_read_99 : decode cX13_read 99 = .ok (.if_icmp .ne 29, 3) := by decide +kernel
theorem dX13_read_102 : decode cX13_read 102 = .ok (.aload_n 0, 1) := by decide +kernel
theorem dX13_read_103 : decode cX13_read 103 = .ok (.bipush 58, 2) := by decide +kernel
theorem dX13_read_105 : decode cX13_read 105 = .ok (.invokevirtual 205, 3) := by decide +kernel
theorem dX13_read_108 : decode cX13_read 108 = .ok (.aload_n 0, 1) := by decide +kernel
theorem dX13_read_109 : decode cX13_read 109 = .ok (.aload_n 0, 1) := by decide +kernel
theorem dX13_read_110 : decode cX13_read 110 = .ok (.getfield 181, 3) := by decide +kernel
theorem dX13_read_113 : decode cX13_read 113 = .ok (.ifCond .eq 7, 3) := by decide +kernel
theorem dX13_read_116 : decode cX13_read 116 = .ok (.iconst 0, 1) := by decide +kernel
theorem dX13_read_117 : decode cX13_read 117 = .ok (.goto 8, 3) := by decide +kernel
theorem dX13_read_120 : decode cX13_read 120 = .ok (.aload_n 0, 1) := by decide +kernel
theorem dX13_read_121 : decode cX13_read 121 = .ok (.iconst 0, 1) := by decide +kernel
theorem dX13_read_122 : decode cX13_read 122 = .ok (.invokevirtual 212, 3) := by decide +kernel
theorem dX13_read_125 : decode cX13_read 125 = .ok (.putfield 294, 3) := by decide +kernel
theorem dX13_read_128 : decode cX13_read 128 = .ok (.iload_n 1, 1) := by decide +kernel
theorem dX13_read_129 : decode cX13_read 129 = .ok (.bipush 12, 2) := by decide +kernel
theorem dX13_read_131 : decode cX13_read 131 = .ok (.if_icmp .ne 19, 3) := by decide +kernel
theorem dX13_read_134 : decode cX13_read 134 = .ok (.aload_n 0, 1) := by decide +kernel
theorem dX13_read_135 : decode cX13_read 135 = .ok (.aload_n 0, 1) := by decide +kernel
theorem dX13_read_136 : decode cX13_read 136 = .ok (.invokevirtual 194, 3) := by decide +kernel
theorem dX13_read_139 : decode cX13_read 139 = .ok (.putfield 303, 3) := by decide +kernel
theorem dX13_read_142 : decode cX13_read 142 = .ok (.aload_n 0, 1) := by decide +kernel
theorem dX13_read_143 : decode cX13_read 143 = .ok (.aload_n 0, 1) := by decide +kernel
theorem dX13_read_144 : decode cX13_read 144 = .ok (.invokevirtual 194, 3) := by decide +kernel
theorem dX13_read_147 : decode cX13_read 147 = .ok (.putfield 306, 3) := by decide +kernel
theorem dX13_read_150 : decode cX13_read 150 = .ok (.iload_n 1, 1) := by decide +kernel
theorem dX13_read_151 : decode cX13_read 151 = .ok (.bipush 15, 2) := by decide +kernel
theorem dX13_read_153 : decode cX13_read 153 = .ok (.if_icmp .ne 31, 3) := by decide +kernel
theorem dX13_read_156 : decode cX13_read 156 = .ok (.aload_n 0, 1) := by decide +kernel
theorem dX13_read_157 : decode cX13_read 157 = .ok (.aload_n 0, 1) := by decide +kernel
theorem dX13_read_158 : decode cX13_read 158 = .ok (.getfield 181, 3) := by decide +kernel
theorem dX13_read_161 : decode cX13_read 161 = .ok (.ifCond .eq 7, 3) := by decide +kernel
theorem dX13_read_164 : decode cX13_read 164 = .ok (.iconst 0, 1) := by decide +kernel
theorem dX13_read_165 : decode cX13_read 165 = .ok (.goto 8, 3) := by decide +kernel
theorem dX13_read_168 : decode cX13_read 168 = .ok (.aload_n 0, 1) := by decide +kernel
theorem dX13_read_169 : decode cX13_read 169 = .ok (.iconst 0, 1) := by decide +kernel
theorem dX13_read_170 : decode cX13_read 170 = .ok (.invokevirtual 201, 3) := by decide +kernel
theorem dX13_read_173 : decode cX13_read 173 = .ok (.putfield 294, 3) := by decide +kernel
theorem dX13_read_176 : decode cX13_read 176 = .ok (.aload_n 0, 1) := by decide +kernel
theorem dX13_read_177 : decode cX13_read 177 = .ok (.aload_n 0, 1) := by decide +kernel
theorem dX13_read_178 : decode cX13_read 178 = .ok (.invokevirtual 194, 3) := by decide +kernel
theorem dX13_read_181 : decode cX13_read 181 = .ok (.putfield 303, 3) := by decide +kernel
theorem dX13_read_184 : decode cX13_read 184 = .ok (.aload_n 0, 1) := by decide +kernel
theorem dX13_read_185 : decode cX13_read 185 = .ok (.bipush 46, 2) := by decide +kernel
theorem dX13_read_187 : decode cX13_read 187 = .ok (.invokevirtual 205, 3) := by decide +kernel
theorem dX13_read_190 : decode cX13_read 190 = .ok (.aload_n 0, 1) := by decide +kernel
theorem dX13_read_191 : decode cX13_read 191 = .ok (.aload_n 0, 1) := by decide +kernel
theorem dX13_read_192 : decode cX13_read 192 = .ok (.getfield 181, 3) := by decide +kernel
theorem dX13_read_195 : decode cX13_read 195 = .ok (.ifCond .ne 14, 3) := by decide +kernel
theorem dX13_read_198 : decode cX13_read 198 = .ok (.aload_n 0, 1) := by decide +kernel
theorem dX13_read_199 : decode cX13_read 199 = .ok (.getfield 171, 3) := by decide +kernel
theorem dX13_read_202 : decode cX13_read 202 = .ok (.aload_n 0, 1) := by decide +kernel
theorem dX13_read_203 : decode cX13_read 203 = .ok (.getfield 140, 3) := by decide +kernel
theorem dX13_read_206 : decode cX13_read 206 = .ok (.if_icmp .eq 7, 3) := by decide +kernel
theorem dX13_read_209 : decode cX13_read 209 = .ok (.iconst 1, 1) := by decide +kernel
theorem dX13_read_210 : decode cX13_read 210 = .ok (.goto 4, 3) := by decide +kernel
theorem dX13_read_213 : decode cX13_read 213 = .ok (.iconst 0, 1) := by decide +kernel
theorem dX13_read_214 : decode cX13_read 214 = .ok (.putfield 181, 3) := by decide +kernel
theorem dX13_read_217 : decode cX13_read 217 = .ok (.return_, 1) := by decide +kernel
end
