section
def EX10_scanNameBt9 : List (Nat × Nat) := [(8, 3), (12, 3), (101, 0), (102, 0), (132, 0), (133, 0), (293, 0)]
def EX10_scanBt9 : List (Nat × Nat) := [(8, 3), (12, 3), (101, 0), (102, 0), (132, 0), (133, 0), (293, 0)]
set_option maxHeartbeats 4000000 in
set_option maxRecDepth 20000 in
theorem uX10_scanNameBt9 (l : Launch) (dC : Nat → ClassId) (dI : Nat → Nat → Nat) (ca : Nat → ClassId) (base : Nat) (B : jF) (hB : jBok B) (hAp : jAp (dC, dI)) (hB8 : ∀ n G a H, B 8 n G a H ↔ jOb (dC, dI) 8 4 (F8 n G) a H) (hB12 : ∀ n G a H, B 12 n G a H ↔ jOb (dC, dI) 12 11 (F12b n G) a H) (hB101 : ∀ n G a H, B 101 n G a H ↔ jAr (dC, dI) (ca 1) (fun j z => True) n a H) (hB102 : ∀ n G a H, B 102 n G a H ↔ jAl (dC, dI) (ca 2) n a H) (hB132 : ∀ n G a H, B 132 n G a H ↔ jAr (dC, dI) (ca 1) (fun j z => 0 ≤ z.toInt ∧ z.toInt ≤ 10) n a H) (hB133 : ∀ n G a H, B 133 n G a H ↔ jAr (dC, dI) (ca 1) (fun j z => 0 ≤ z.toInt ∧ z.toInt ≤ 8192) n a H) (hB173 : ∀ n G a H, B 173 n G a H ↔ jAr (dC, dI) (ca 1) (fun j z => True) n a H) (hB293 : ∀ n G a H, B 293 n G a H ↔ jAr (dC, dI) (ca 1) (fun j z => -1 ≤ z.toInt ∧ z.toInt ≤ 8191) n a H) (G0 : jT) (H0 : Heap) (r0 : Nat) (r1 : Nat) (a2 : Int32) (a3 : Int32) (n1 : Nat) : Met l yX10_scanName (jw yX10_scanName cX10_scanName 6 (some .int)) ({ frames := 2, cells := 0, slots := 0, locals := 57 }) (va_Pc [.ref r0, .ref r1, .int a2, .int a3] (fun U => U.heap = H0 ∧ jX B base G0 [] H0 ∧ jG dC dI ca base U ∧ G0 r0 = some (12, 0) ∧ G0 r1 = some (173, n1) ∧ jP (dC, dI) G0 H0 [] ∧ 0 ≤ a2.toInt ∧ a2.toInt < a3.toInt ∧ a3.toInt ≤ n1 ∧ n1 < 1000000)) (va_Qi (S := Unit) (fun r u => (a2.toInt < r.toInt ∧ r.toInt ≤ a3.toInt)) (fun u t => jRt (dC, dI) B base G0 EX10_scanNameBt9 H0 [] t.heap) (jA base)) 0 0 (jA base) := by
  refine Met.ofW (cc := cX10_scanName) (maxL := 6) (ret := (some .int)) (by decide) rfl ?_
  intro p e s m args below meth c s₁ Bd hml hv
  obtain ⟨rfl, hH0, hX, hG, hg_r0, hg_r1, hP0, hp0, hp1, hp2, hp3⟩ := hv
  have hK := hG.1
  have hx := Bd.exec
  have hb := Bd.bytes
  have hr := Bd.returns
  have hts := atoms_spec (ws := (jw yX10_scanName cX10_scanName 6 (some .int))) Bd.pre
  have htw : ∀ w ∈ jWl, w.before _ s = true := fun w h => hts w (List.mem_cons_of_mem _ h)
  have hown : s.vm.findClass RX10 = some m.cls := findClass_of_methodNamed Bd.named
  have hlocks := Bd.notSynchronized
  obtain ⟨Q, hQ⟩ : ∃ Q, Q = MQ below (va_Qi (S := Unit) (fun r u => (a2.toInt < r.toInt ∧ r.toInt ≤ a3.toInt)) (fun u t => jRt (dC, dI) B base G0 EX10_scanNameBt9 H0 [] t.heap) (jA base)) ([.ref r0, .ref r1, .int a2, .int a3] : List Value).toArray s 0 0 (jA base) := ⟨_, rfl⟩
  rw [← hQ]
  have hl := lv_entry ([.ref r0, .ref r1, .int a2, .int a3]) (n := 6) (Nat.le_of_ble_eq_true rfl)
  rw [lg_entry_eq]
  generalize (lg_sl ([.ref r0, .ref r1, .int a2, .int a3]) ++ List.replicate (6 - (lg_sl ([.ref r0, .ref r1, .int a2, .int a3])).length) Slot.unset).toArray = ls at hl ⊢
  have hl : lv_has ls 6 [(0, .ref r0), (1, .ref r1), (2, .int a2), (3, .int a3)] := hl
  generalize hR : (headSpec (jw yX10_scanName cX10_scanName 6 (some .int)) ({ frames := 2, cells := 0, slots := 0, locals := 57 })).room = R
  subst hH0
  have hh : jSt (dC, dI) B base G0 G0 EX10_scanNameBt9 s.heap 0 0 [] [] [] s.heap [] := jSt.start hX hP0 jMc.nil jIs.nil
  clear hX hP0
  have hk0 : (0 : Int32).toInt = 0 := by decide
  have hk1 : (1 : Int32).toInt = 1 := by decide
  have hk10 : (10 : Int32).toInt = 10 := by decide
  have hk110 : (110 : Int32).toInt = 110 := by decide
  have hly_12_0 := htw (u_lay RX10 TX10 0) (jWc_wsX100 _ (u_in_lay (by decide)))
  have hlk_24 := (htw (.fieldLink RX10 24 "ProofServer$Syntax" "names" "LProofServer$Names;") (jWr_8 _ (List.mem_of_getElem? (i := 12) rfl)))
  have hrg_a2 := jb_rng a2
  have hrg_a3 := jb_rng a3
  refine lv_iload_n hx hb dX10_scanName_0 rfl (lv_at hl 2 rfl) ?_
  refine lv_iconst (v := 1) hx hb dX10_scanName_1 (by decide) ?_
  refine lv_iadd hx hb dX10_scanName_2 ?_
  refine lv_topi (fun z_1 ez_1 => ?_)
  have hz_1 : z_1.toInt = a2.toInt + 1 := by rw [ez_1]; exact jb_iadd2 (rfl) ((by decide)) (by omega)
  refine lv_istore (lv' := [(4, .int z_1), (0, .ref r0), (1, .ref r1), (2, .int a2), (3, .int a3)]) hx hb dX10_scanName_3 hl (by decide) rfl (fun ls hl => ?_)
  have L5 : ∀ (N : Nat) (v4_2 : Int32) (H_2 : Heap) (locs_2 : List Loc), jSt (dC, dI) B base G0 G0 EX10_scanNameBt9 s.heap 0 0 [] [] [] H_2 locs_2 → (a2.toInt < v4_2.toInt ∧ v4_2.toInt ≤ a3.toInt) → (a3.toInt - v4_2.toInt : Int) < N → ∀ ls : Array Slot, lv_has ls 6 [(0, .ref r0), (1, .ref r1), (2, .int a2), (3, .int a3), (4, .int v4_2)] → W p l e R s m ([.ref r0, .ref r1, .int a2, .int a3] : List Value).toArray below meth c H_2 locs_2 0 0 Q (F0 m 5 ls []) := by
    intro N
    induction N with
    | zero => intro v4_2 H_2 locs_2 hh_2  hi_2 hm; exact absurd hm (by omega)
    | succ N L5 =>
      intro v4_2 H_2 locs_2 hh_2  hi_2 hm_2 ls hl
      obtain ⟨hi_2_0, hi_2_1⟩ := hi_2
      refine lv_iload hx hb dX10_scanName_5 (lv_at hl 4 rfl) ?_
      refine lv_iload_n hx hb dX10_scanName_7 rfl (lv_at hl 3 rfl) ?_
      refine lv_icmp_ge (tgt := 27) hx hb dX10_scanName_8 (by decide) (fun c_3 => ?_) (fun c_3 => ?_)
      · skip
        have c_3' : v4_2.toInt ≥ a3.toInt := jb_ge (rfl) (rfl) c_3
        refine lv_iload hx hb dX10_scanName_27 (lv_at hl 4 rfl) ?_
        refine lv_iload_n hx hb dX10_scanName_29 rfl (lv_at hl 2 rfl) ?_
        refine lv_isub hx hb dX10_scanName_30 ?_
        refine lv_topi (fun z_4 ez_4 => ?_)
        have hz_4 : z_4.toInt = v4_2.toInt - a2.toInt := by rw [ez_4]; exact jb_isub2 (rfl) (rfl) (by omega)
        refine lv_bipush (v := 10) hx hb dX10_scanName_31 (by decide) ?_
        refine lv_icmp_gt (tgt := 70) hx hb dX10_scanName_33 (by decide) (fun c_5 => ?_) (fun c_5 => ?_)
        · skip
          have c_5' : z_4.toInt > 10 := jb_gt (rfl) ((by decide)) c_5
          refine lv_iload_n hx hb dX10_scanName_70 rfl (lv_at hl 2 rfl) ?_
          refine lv_istore (lv' := [(5, .int a2), (0, .ref r0), (1, .ref r1), (2, .int a2), (3, .int a3), (4, .int v4_2)]) hx hb dX10_scanName_71 hl (by decide) rfl (fun ls hl => ?_)
          have L73 : ∀ (N : Nat) (v5_6 : Int32) (H_6 : Heap) (locs_6 : List Loc), jSt (dC, dI) B base G0 G0 EX10_scanNameBt9 s.heap 0 0 [] [] [] H_6 locs_6 → (a2.toInt ≤ v5_6.toInt ∧ v5_6.toInt ≤ v4_2.toInt) → (v4_2.toInt - v5_6.toInt : Int) < N → ∀ ls : Array Slot, lv_has ls 6 [(0, .ref r0), (1, .ref r1), (2, .int a2), (3, .int a3), (4, .int v4_2), (5, .int v5_6)] → W p l e R s m ([.ref r0, .ref r1, .int a2, .int a3] : List Value).toArray below meth c H_6 locs_6 0 0 Q (F0 m 73 ls []) := by
            intro N
            induction N with
            | zero => intro v5_6 H_6 locs_6 hh_6  hi_6 hm; exact absurd hm (by omega)
            | succ N L73 =>
              intro v5_6 H_6 locs_6 hh_6  hi_6 hm_6 ls hl
              obtain ⟨hi_6_0, hi_6_1⟩ := hi_6
              refine lv_iload hx hb dX10_scanName_73 (lv_at hl 5 rfl) ?_
              refine lv_iload hx hb dX10_scanName_75 (lv_at hl 4 rfl) ?_
              refine lv_icmp_ge (tgt := 92) hx hb dX10_scanName_77 (by decide) (fun c_7 => ?_) (fun c_7 => ?_)
              · skip
                have c_7' : v5_6.toInt ≥ v4_2.toInt := jb_ge (rfl) (rfl) c_7
                refine lv_iload hx hb dX10_scanName_92 (lv_at hl 4 rfl) ?_
                rw [hQ]
                exact W.iret (v := v4_2) hx hb hr (fun t ht hW => ⟨⟨v4_2, (), rfl, by first | omega | (refine ⟨?_, ?_⟩ <;> (first | omega | rfl | assumption | decide | exact Or.inl rfl | exact Or.inr rfl | (simp only; omega))), hh_6.rt (M1 := []) [] rfl ht⟩, by rw [ht]; try exact hh_6.1.1, fun q h9 hq => by rw [ht]; try exact hh_6.1.2.1 q h9 hq⟩) hh_6.1.2.2 dX10_scanName_94
              · skip
                have c_7' : v5_6.toInt < v4_2.toInt := jb_ge_n (rfl) (rfl) c_7
                refine lv_aload_n hx hb dX10_scanName_80 rfl (lv_at hl 0 rfl) ?_
                refine lv_iconst (v := 0) hx hb dX10_scanName_81 (by decide) ?_
                refine lv_iconst (v := 0) hx hb dX10_scanName_82 (by decide) ?_
                obtain ⟨v_10, hv_10, hh_11⟩ := hh_6.pin (C := RX10) (T := TX10) (N := 11) hB12 rfl (by decide) hg_r0 (i := 3) (by decide) rfl
                obtain ⟨tokens_12, rfl, hlotokens_12, hhitokens_12⟩ := hv_10
                refine va_callv (A0 := jA base) (H0 := s.heap) (va_runV (As := [.int 0, .int 0]) (rest := []) ⟨hx, hb, hml, hown, hts⟩ (uX10_addB l dC dI ca base B hB hAp hB12 hB101 hB293 G0 H_6 r0 0 0 tokens_12) (cwV 2 hts (jgV (jWr_37 _ (List.mem_of_getElem? (i := 7) rfl)) (jWr_37 _ (List.mem_of_getElem? (i := 8) rfl)) (jWr_37 _ (List.mem_of_getElem? (i := 9) rfl)) (jWr_4 _ (List.mem_of_getElem? (i := 14) rfl)) (jWr_37 _ (List.mem_of_getElem? (i := 10) rfl))) rfl rfl rfl (by decide +kernel) ⟨by rw [← hR]; exact Nat.le_of_ble_eq_true rfl, by rw [← hR]; exact Nat.le_of_ble_eq_true rfl⟩) ⟨fun a U g mk q => by obtain ⟨q0, q1, q2, qK, q10, q11, q12⟩ := q; exact ⟨q0, q1, q2, jG.calling g mk a qK, q10, q11, q12⟩, hh_11.recv (C := RX10) (T := TX10) (N := 11) hB12 rfl (by decide) hg_r0 hK, fun U hU hW => ⟨rfl, hU, hh_11.2.1, hG.step hW hU hh_11.1, hg_r0, (hh_11.2.2.1.sub (L1 := [(r0, 12, 3, .int tokens_12)]) [0] rfl), by first | omega | (refine ⟨?_, ?_, ?_, ?_⟩ <;> (first | omega | rfl | assumption | decide | exact Or.inl rfl | exact Or.inr rfl | (simp only; omega)))⟩⟩ rfl rfl hl.1 rfl (lv_room (Nat.le_of_ble_eq_true rfl)) dX10_scanName_83 ⟨Nat.zero_le _, Nat.zero_le _⟩) hh_11.1 (fun q _ h => h) (fun q h => h) (fun u_8 t_8 H_8 locs_8 ht_8 hvm_8 hr_9 hb_8 hz_8 hk_8 hS_8 => ?_)
                obtain ⟨qk_8, rfl⟩ : ∃ z, z = u_8 := ⟨_, rfl⟩
                rw [ht_8] at hb_8
                obtain ⟨hb_81, hb_82, hb_83, hb_84, hb_85⟩ := hb_8
                have hh_8 : jSt (dC, dI) B base G0 G0 EX10_scanNameBt9 s.heap 0 0 [(r0, 12, 3, .int qk_8)] [] [] H_8 locs_8 := ((hh_11.call hb_81 hb_82 hb_83 hb_84 hS_8 rfl (L1 := []) [] rfl rfl (M1 := []) [] rfl rfl (I1 := []) [] rfl rfl).more hb_85)
                clear hh_11 ht_8 hvm_8 hz_8 hk_8 hS_8 hb_81 hb_82 hb_83 hb_84 hb_85
                obtain ⟨hr_9_0, hr_9_1, hr_9_2⟩ := hr_9
                obtain ⟨z_13, ez_13⟩ : ∃ y : Int32, y = v5_6 + 1 := ⟨_, rfl⟩
                refine lv_iinc (v := z_13) (lv' := [(5, .int z_13), (0, .ref r0), (1, .ref r1), (2, .int a2), (3, .int a3), (4, .int v4_2)]) hx hb dX10_scanName_86 hl (k := 5) rfl (by rw [ez_13]; rfl) (by decide) rfl (fun ls hl => ?_)
                have hz_13 : z_13.toInt = v5_6.toInt + 1 := by rw [ez_13]; exact jb_iadd2 (rfl) (by decide) (by omega)
                refine lv_goto (tgt := 73) hx hb dX10_scanName_89 (by decide) ?_
                exact L73 z_13 _ _ (hh_8.sub (L1 := []) [] rfl (M1 := []) [] rfl (I1 := []) [] rfl) (by first | omega | (refine ⟨?_, ?_⟩ <;> (first | omega | rfl | assumption | decide | exact Or.inl rfl | exact Or.inr rfl | (simp only; omega)))) (by omega) _ (lv_sub hl [1, 2, 3, 4, 5, 0] rfl)
          exact L73 (v4_2.toInt - (a2 : Int32).toInt : Int).toNat.succ a2 _ _ hh_2 (by first | omega | (refine ⟨?_, ?_⟩ <;> (first | omega | rfl | assumption | decide | exact Or.inl rfl | exact Or.inr rfl | (simp only; omega)))) (by omega) _ (lv_sub hl [1, 2, 3, 4, 5, 0] rfl)
        · skip
          have c_5' : z_4.toInt ≤ 10 := jb_gt_n (rfl) ((by decide)) c_5
          refine lv_aload_n hx hb dX10_scanName_36 rfl (lv_at hl 0 rfl) ?_
          obtain ⟨v_14, hv_14, hh_15⟩ := hh_2.pin (C := RX10) (T := TX10) (N := 11) hB12 rfl (by decide) hg_r0 (i := 0) (by decide) rfl
          clear hh_2
          obtain ⟨names_16, rfl, hg_names_16⟩ := hv_14
          refine j7_read hx hb hown hK (C := RX10) (T := TX10) (N := 11) rfl hly_12_0 hlk_24 (hh_15.at 0 rfl) dX10_scanName_37 ?_
          refine lv_aload_n hx hb dX10_scanName_40 rfl (lv_at hl 1 rfl) ?_
          refine lv_iload_n hx hb dX10_scanName_41 rfl (lv_at hl 2 rfl) ?_
          refine lv_iload hx hb dX10_scanName_42 (lv_at hl 4 rfl) ?_
          refine lv_iconst (v := 1) hx hb dX10_scanName_44 (by decide) ?_
          obtain ⟨v_19, hv_19, hh_20⟩ := hh_15.pin (C := RX6) (T := TX6) (N := 4) hB8 rfl (by decide) hg_names_16 (i := 0) (by decide) rfl
          obtain ⟨stems_21, rfl, hg_stems_21⟩ := hv_19
          obtain ⟨v_22, hv_22, hh_23⟩ := hh_20.pin (C := RX6) (T := TX6) (N := 4) hB8 rfl (by decide) hg_names_16 (i := 1) (by decide) rfl
          obtain ⟨primes_24, rfl, hg_primes_24⟩ := hv_22
          obtain ⟨v_25, hv_25, hh_26⟩ := hh_23.pin (C := RX6) (T := TX6) (N := 4) hB8 rfl (by decide) hg_names_16 (i := 2) (by decide) rfl
          obtain ⟨slots_27, rfl, hg_slots_27⟩ := hv_25
          refine va_calli (A0 := jA base) (H0 := s.heap) (va_runV (As := [.ref r1, .int a2, .int v4_2, .int 1]) (rest := []) ⟨hx, hb, hml, hown, hts⟩ (uX6_numberOfBt9 l dC dI ca base B hB hAp hB8 hB102 hB132 hB133 hB173 G0 H_2 names_16 r1 a2 v4_2 1 n1 stems_21 primes_24 slots_27) (cwV 4 hts (jgV (jWr_37 _ (List.mem_of_getElem? (i := 6) rfl)) (jWr_7 _ (List.mem_of_getElem? (i := 14) rfl)) (jWr_7 _ (List.mem_of_getElem? (i := 15) rfl)) (jWr_4 _ (List.mem_of_getElem? (i := 10) rfl)) (jWr_7 _ (List.mem_of_getElem? (i := 16) rfl))) rfl rfl rfl (by decide +kernel) ⟨by rw [← hR]; exact Nat.le_of_ble_eq_true rfl, by rw [← hR]; exact Nat.le_of_ble_eq_true rfl⟩) ⟨fun a U g mk q => by obtain ⟨q0, q1, q2, qK, q10, q11, q12, q13, q14, q15, q16⟩ := q; exact ⟨q0, q1, q2, jG.calling g mk a qK, q10, q11, q12, q13, q14, q15, q16⟩, hh_26.recv (C := RX6) (T := TX6) (N := 4) hB8 rfl (by decide) hg_names_16 hK, fun U hU hW => ⟨rfl, hU, hh_26.2.1, hG.step hW hU hh_26.1, hg_names_16, hg_r1, hg_stems_21, hg_primes_24, hg_slots_27, (hh_26.2.2.1.sub (L1 := [(names_16, 8, 0, .ref stems_21), (names_16, 8, 1, .ref primes_24), (names_16, 8, 2, .ref slots_27)]) [2, 1, 0] rfl), by first | omega | rfl | assumption | decide | exact Or.inl rfl | exact Or.inr rfl | (simp only; omega)⟩⟩ rfl rfl hl.1 rfl (lv_room (Nat.le_of_ble_eq_true rfl)) dX10_scanName_45 ⟨Nat.zero_le _, Nat.zero_le _⟩) hh_26.1 (fun q _ h => h) (fun q h => h) (fun r_18 u_17 t_17 H_17 locs_17 ht_17 hvm_17 hr_18 hb_17 hz_17 hk_17 hS_17 => ?_)
          rw [ht_17] at hb_17
          obtain ⟨hb_17, hbF_17⟩ := hb_17
          obtain ⟨hb_171, hb_172, hb_173, hb_174, hb_175⟩ := hb_17
          have hh_17 : jSt (dC, dI) B base G0 G0 EX10_scanNameBt9 s.heap 0 0 [(names_16, 8, 2, .ref slots_27), (names_16, 8, 1, .ref primes_24), (names_16, 8, 0, .ref stems_21), (r0, 12, 0, .ref names_16)] [] [] H_17 locs_17 := ((hh_26.call hb_171 hb_172 hb_173 hb_174 hS_17 rfl (L1 := [(names_16, 8, 2, .ref slots_27), (names_16, 8, 1, .ref primes_24), (names_16, 8, 0, .ref stems_21), (r0, 12, 0, .ref names_16)]) [0, 1, 2, 3] rfl rfl (M1 := []) [] rfl rfl (I1 := []) [] rfl rfl).more hb_175)
          clear hh_26 ht_17 hvm_17 hz_17 hk_17 hS_17 hb_171 hb_172 hb_173 hb_174 hb_175
          obtain ⟨hr_18_0, hr_18_1⟩ := hr_18
          refine lv_istore (lv' := [(5, .int r_18), (0, .ref r0), (1, .ref r1), (2, .int a2), (3, .int a3), (4, .int v4_2)]) hx hb dX10_scanName_48 hl (by decide) rfl (fun ls hl => ?_)
          refine lv_aload_n hx hb dX10_scanName_50 rfl (lv_at hl 1 rfl) ?_
          refine lv_iload hx hb dX10_scanName_51 (lv_at hl 0 rfl) ?_
          refine lv_if_ge (tgt := 60) hx hb dX10_scanName_53 (by decide) (fun c_28 => ?_) (fun c_28 => ?_)
          · skip
            have c_28' : r_18.toInt ≥ 0 := jb_ge (rfl) ((by decide)) c_28
            refine lv_bipush (v := 110) hx hb dX10_scanName_60 (by decide) ?_
            refine lv_iload hx hb dX10_scanName_62 (lv_at hl 0 rfl) ?_
            obtain ⟨v_31, hv_31, hh_32⟩ := hh_17.pin (C := RX10) (T := TX10) (N := 11) hB12 rfl (by decide) hg_r0 (i := 3) (by decide) rfl
            obtain ⟨tokens_33, rfl, hlotokens_33, hhitokens_33⟩ := hv_31
            refine va_callv (A0 := jA base) (H0 := s.heap) (va_runV (As := [.int 110, .int r_18]) (rest := []) ⟨hx, hb, hml, hown, hts⟩ (uX10_addB l dC dI ca base B hB hAp hB12 hB101 hB293 G0 H_17 r0 110 r_18 tokens_33) (cwV 2 hts (jgV (jWr_37 _ (List.mem_of_getElem? (i := 7) rfl)) (jWr_37 _ (List.mem_of_getElem? (i := 8) rfl)) (jWr_37 _ (List.mem_of_getElem? (i := 9) rfl)) (jWr_4 _ (List.mem_of_getElem? (i := 14) rfl)) (jWr_37 _ (List.mem_of_getElem? (i := 10) rfl))) rfl rfl rfl (by decide +kernel) ⟨by rw [← hR]; exact Nat.le_of_ble_eq_true rfl, by rw [← hR]; exact Nat.le_of_ble_eq_true rfl⟩) ⟨fun a U g mk q => by obtain ⟨q0, q1, q2, qK, q10, q11, q12⟩ := q; exact ⟨q0, q1, q2, jG.calling g mk a qK, q10, q11, q12⟩, hh_32.recv (C := RX10) (T := TX10) (N := 11) hB12 rfl (by decide) hg_r0 hK, fun U hU hW => ⟨rfl, hU, hh_32.2.1, hG.step hW hU hh_32.1, hg_r0, (hh_32.2.2.1.sub (L1 := [(r0, 12, 3, .int tokens_33)]) [0] rfl), by first | omega | (refine ⟨?_, ?_, ?_, ?_⟩ <;> (first | omega | rfl | assumption | decide | exact Or.inl rfl | exact Or.inr rfl | (simp only; omega)))⟩⟩ rfl rfl hl.1 rfl (lv_room (Nat.le_of_ble_eq_true rfl)) dX10_scanName_64 ⟨Nat.zero_le _, Nat.zero_le _⟩) hh_32.1 (fun q _ h => h) (fun q h => h) (fun u_29 t_29 H_29 locs_29 ht_29 hvm_29 hr_30 hb_29 hz_29 hk_29 hS_29 => ?_)
            obtain ⟨qk_29, rfl⟩ : ∃ z, z = u_29 := ⟨_, rfl⟩
            rw [ht_29] at hb_29
            obtain ⟨hb_291, hb_292, hb_293, hb_294, hb_295⟩ := hb_29
            have hh_29 : jSt (dC, dI) B base G0 G0 EX10_scanNameBt9 s.heap 0 0 [(r0, 12, 3, .int qk_29), (names_16, 8, 2, .ref slots_27), (names_16, 8, 1, .ref primes_24), (names_16, 8, 0, .ref stems_21), (r0, 12, 0, .ref names_16)] [] [] H_29 locs_29 := ((hh_32.call hb_291 hb_292 hb_293 hb_294 hS_29 rfl (L1 := [(names_16, 8, 2, .ref slots_27), (names_16, 8, 1, .ref primes_24), (names_16, 8, 0, .ref stems_21), (r0, 12, 0, .ref names_16)]) [1, 2, 3, 4] rfl rfl (M1 := []) [] rfl rfl (I1 := []) [] rfl rfl).more hb_295)
            clear hh_32 ht_29 hvm_29 hz_29 hk_29 hS_29 hb_291 hb_292 hb_293 hb_294 hb_295
            obtain ⟨hr_30_0, hr_30_1, hr_30_2⟩ := hr_30
            refine lv_goto (tgt := 92) hx hb dX10_scanName_67 (by decide) ?_
            refine lv_iload hx hb dX10_scanName_92 (lv_at hl 5 rfl) ?_
            rw [hQ]
            exact W.iret (v := v4_2) hx hb hr (fun t ht hW => ⟨⟨v4_2, (), rfl, by first | omega | (refine ⟨?_, ?_⟩ <;> (first | omega | rfl | assumption | decide | exact Or.inl rfl | exact Or.inr rfl | (simp only; omega))), hh_29.rt (M1 := []) [] rfl ht⟩, by rw [ht]; try exact hh_29.1.1, fun q h9 hq => by rw [ht]; try exact hh_29.1.2.1 q h9 hq⟩) hh_29.1.2.2 dX10_scanName_94
          · skip
            have c_28' : r_18.toInt < 0 := jb_ge_n (rfl) ((by decide)) c_28
            refine lv_iconst (v := 0) hx hb dX10_scanName_56 (by decide) ?_
            refine lv_goto (tgt := 62) hx hb dX10_scanName_57 (by decide) ?_
            refine lv_iload hx hb dX10_scanName_62 (lv_at hl 0 rfl) ?_
            obtain ⟨v_36, hv_36, hh_37⟩ := hh_17.pin (C := RX10) (T := TX10) (N := 11) hB12 rfl (by decide) hg_r0 (i := 3) (by decide) rfl
            obtain ⟨tokens_38, rfl, hlotokens_38, hhitokens_38⟩ := hv_36
            refine va_callv (A0 := jA base) (H0 := s.heap) (va_runV (As := [.int 0, .int r_18]) (rest := []) ⟨hx, hb, hml, hown, hts⟩ (uX10_addB l dC dI ca base B hB hAp hB12 hB101 hB293 G0 H_17 r0 0 r_18 tokens_38) (cwV 2 hts (jgV (jWr_37 _ (List.mem_of_getElem? (i := 7) rfl)) (jWr_37 _ (List.mem_of_getElem? (i := 8) rfl)) (jWr_37 _ (List.mem_of_getElem? (i := 9) rfl)) (jWr_4 _ (List.mem_of_getElem? (i := 14) rfl)) (jWr_37 _ (List.mem_of_getElem? (i := 10) rfl))) rfl rfl rfl (by decide +kernel) ⟨by rw [← hR]; exact Nat.le_of_ble_eq_true rfl, by rw [← hR]; exact Nat.le_of_ble_eq_true rfl⟩) ⟨fun a U g mk q => by obtain ⟨q0, q1, q2, qK, q10, q11, q12⟩ := q; exact ⟨q0, q1, q2, jG.calling g mk a qK, q10, q11, q12⟩, hh_37.recv (C := RX10) (T := TX10) (N := 11) hB12 rfl (by decide) hg_r0 hK, fun U hU hW => ⟨rfl, hU, hh_37.2.1, hG.step hW hU hh_37.1, hg_r0, (hh_37.2.2.1.sub (L1 := [(r0, 12, 3, .int tokens_38)]) [0] rfl), by first | omega | (refine ⟨?_, ?_, ?_, ?_⟩ <;> (first | omega | rfl | assumption | decide | exact Or.inl rfl | exact Or.inr rfl | (simp only; omega)))⟩⟩ rfl rfl hl.1 rfl (lv_room (Nat.le_of_ble_eq_true rfl)) dX10_scanName_64 ⟨Nat.zero_le _, Nat.zero_le _⟩) hh_37.1 (fun q _ h => h) (fun q h => h) (fun u_34 t_34 H_34 locs_34 ht_34 hvm_34 hr_35 hb_34 hz_34 hk_34 hS_34 => ?_)
            obtain ⟨qk_34, rfl⟩ : ∃ z, z = u_34 := ⟨_, rfl⟩
            rw [ht_34] at hb_34
            obtain ⟨hb_341, hb_342, hb_343, hb_344, hb_345⟩ := hb_34
            have hh_34 : jSt (dC, dI) B base G0 G0 EX10_scanNameBt9 s.heap 0 0 [(r0, 12, 3, .int qk_34), (names_16, 8, 2, .ref slots_27), (names_16, 8, 1, .ref primes_24), (names_16, 8, 0, .ref stems_21), (r0, 12, 0, .ref names_16)] [] [] H_34 locs_34 := ((hh_37.call hb_341 hb_342 hb_343 hb_344 hS_34 rfl (L1 := [(names_16, 8, 2, .ref slots_27), (names_16, 8, 1, .ref primes_24), (names_16, 8, 0, .ref stems_21), (r0, 12, 0, .ref names_16)]) [1, 2, 3, 4] rfl rfl (M1 := []) [] rfl rfl (I1 := []) [] rfl rfl).more hb_345)
            clear hh_37 ht_34 hvm_34 hz_34 hk_34 hS_34 hb_341 hb_342 hb_343 hb_344 hb_345
            obtain ⟨hr_35_0, hr_35_1, hr_35_2⟩ := hr_35
            refine lv_goto (tgt := 92) hx hb dX10_scanName_67 (by decide) ?_
            refine lv_iload hx hb dX10_scanName_92 (lv_at hl 5 rfl) ?_
            rw [hQ]
            exact W.iret (v := v4_2) hx hb hr (fun t ht hW => ⟨⟨v4_2, (), rfl, by first | omega | (refine ⟨?_, ?_⟩ <;> (first | omega | rfl | assumption | decide | exact Or.inl rfl | exact Or.inr rfl | (simp only; omega))), hh_34.rt (M1 := []) [] rfl ht⟩, by rw [ht]; try exact hh_34.1.1, fun q h9 hq => by rw [ht]; try exact hh_34.1.2.1 q h9 hq⟩) hh_34.1.2.2 dX10_scanName_94
      · skip
        have c_3' : v4_2.toInt < a3.toInt := jb_ge_n (rfl) (rfl) c_3
        refine lv_aload_n hx hb dX10_scanName_11 rfl (lv_at hl 1 rfl) ?_
        refine lv_iload hx hb dX10_scanName_12 (lv_at hl 4 rfl) ?_
        refine j7_iald hx hb hK hh_2 hB173 1 rfl (by decide) hg_r1 (x := v4_2.toInt) (rfl) (by omega) dX10_scanName_14 (fun z_39 (hz_39 : True) => ?_)
        refine vp_callSi (va_Run.run (va_runSN (As := [.int z_39]) (rest := []) ⟨hx, hb, hml, hown, hts⟩ (wX6_signOf l dC dI ca base H_2 z_39) ⟨va_cnB 1 hts (jgW (jWr_7 _ (List.mem_of_getElem? (i := 21) rfl))) rfl rfl rfl (hG.2.2.1 RX10 74 yX6_signOf "ProofServer" (List.mem_of_getElem? (i := 1144) (by decide +kernel))) (htw (.initialized RX6) (jWr_4 _ (List.mem_of_getElem? (i := 10) rfl))) (by decide +kernel) ⟨by rw [← hR]; exact Nat.le_of_ble_eq_true rfl, by rw [← hR]; exact Nat.le_of_ble_eq_true rfl⟩, htw (.static yX6_signOf) (jWr_7 _ (List.mem_of_getElem? (i := 20) rfl)), trivial⟩ ⟨fun a U g mk q => by obtain ⟨q0, q1, qK, q9⟩ := q; exact ⟨q0, q1, jG.calling g mk a qK, q9⟩, fun U hU hW => ⟨rfl, hU, hG.step hW hU hh_2.1, by first | trivial | omega | (constructor <;> omega)⟩⟩ rfl rfl hl.1 rfl (lv_room (Nat.le_of_ble_eq_true rfl)) dX10_scanName_15 ⟨Nat.zero_le _, Nat.zero_le _⟩)) (fun r_40 hr_40 => ?_)
        refine lv_if_lt (tgt := 27) hx hb dX10_scanName_18 (by decide) (fun c_41 => ?_) (fun c_41 => ?_)
        · skip
          have c_41' : r_40.toInt < 0 := jb_lt (rfl) ((by decide)) c_41
          refine lv_iload hx hb dX10_scanName_27 (lv_at hl 4 rfl) ?_
          refine lv_iload_n hx hb dX10_scanName_29 rfl (lv_at hl 2 rfl) ?_
          refine lv_isub hx hb dX10_scanName_30 ?_
          refine lv_topi (fun z_42 ez_42 => ?_)
          have hz_42 : z_42.toInt = v4_2.toInt - a2.toInt := by rw [ez_42]; exact jb_isub2 (rfl) (rfl) (by omega)
          refine lv_bipush (v := 10) hx hb dX10_scanName_31 (by decide) ?_
          refine lv_icmp_gt (tgt := 70) hx hb dX10_scanName_33 (by decide) (fun c_43 => ?_) (fun c_43 => ?_)
          · skip
            have c_43' : z_42.toInt > 10 := jb_gt (rfl) ((by decide)) c_43
            refine lv_iload_n hx hb dX10_scanName_70 rfl (lv_at hl 2 rfl) ?_
            refine lv_istore (lv' := [(5, .int a2), (0, .ref r0), (1, .ref r1), (2, .int a2), (3, .int a3), (4, .int v4_2)]) hx hb dX10_scanName_71 hl (by decide) rfl (fun ls hl => ?_)
            have L73 : ∀ (N : Nat) (v5_44 : Int32) (H_44 : Heap) (locs_44 : List Loc), jSt (dC, dI) B base G0 G0 EX10_scanNameBt9 s.heap 0 0 [] [] [] H_44 locs_44 → (a2.toInt ≤ v5_44.toInt ∧ v5_44.toInt ≤ v4_2.toInt) → (v4_2.toInt - v5_44.toInt : Int) < N → ∀ ls : Array Slot, lv_has ls 6 [(0, .ref r0), (1, .ref r1), (2, .int a2), (3, .int a3), (4, .int v4_2), (5, .int v5_44)] → W p l e R s m ([.ref r0, .ref r1, .int a2, .int a3] : List Value).toArray below meth c H_44 locs_44 0 0 Q (F0 m 73 ls []) := by
              intro N
              induction N with
              | zero => intro v5_44 H_44 locs_44 hh_44  hi_44 hm; exact absurd hm (by omega)
              | succ N L73 =>
                intro v5_44 H_44 locs_44 hh_44  hi_44 hm_44 ls hl
                obtain ⟨hi_44_0, hi_44_1⟩ := hi_44
                refine lv_iload hx hb dX10_scanName_73 (lv_at hl 5 rfl) ?_
                refine lv_iload hx hb dX10_scanName_75 (lv_at hl 4 rfl) ?_
                refine lv_icmp_ge (tgt := 92) hx hb dX10_scanName_77 (by decide) (fun c_45 => ?_) (fun c_45 => ?_)
                · skip
                  have c_45' : v5_44.toInt ≥ v4_2.toInt := jb_ge (rfl) (rfl) c_45
                  refine lv_iload hx hb dX10_scanName_92 (lv_at hl 4 rfl) ?_
                  rw [hQ]
                  exact W.iret (v := v4_2) hx hb hr (fun t ht hW => ⟨⟨v4_2, (), rfl, by first | omega | (refine ⟨?_, ?_⟩ <;> (first | omega | rfl | assumption | decide | exact Or.inl rfl | exact Or.inr rfl | (simp only; omega))), hh_44.rt (M1 := []) [] rfl ht⟩, by rw [ht]; try exact hh_44.1.1, fun q h9 hq => by rw [ht]; try exact hh_44.1.2.1 q h9 hq⟩) hh_44.1.2.2 dX10_scanName_94
                · skip
                  have c_45' : v5_44.toInt < v4_2.toInt := jb_ge_n (rfl) (rfl) c_45
                  refine lv_aload_n hx hb dX10_scanName_80 rfl (lv_at hl 0 rfl) ?_
                  refine lv_iconst (v := 0) hx hb dX10_scanName_81 (by decide) ?_
                  refine lv_iconst (v := 0) hx hb dX10_scanName_82 (by decide) ?_
                  obtain ⟨v_48, hv_48, hh_49⟩ := hh_44.pin (C := RX10) (T := TX10) (N := 11) hB12 rfl (by decide) hg_r0 (i := 3) (by decide) rfl
                  obtain ⟨tokens_50, rfl, hlotokens_50, hhitokens_50⟩ := hv_48
                  refine va_callv (A0 := jA base) (H0 := s.heap) (va_runV (As := [.int 0, .int 0]) (rest := []) ⟨hx, hb, hml, hown, hts⟩ (uX10_addB l dC dI ca base B hB hAp hB12 hB101 hB293 G0 H_44 r0 0 0 tokens_50) (cwV 2 hts (jgV (jWr_37 _ (List.mem_of_getElem? (i := 7) rfl)) (jWr_37 _ (List.mem_of_getElem? (i := 8) rfl)) (jWr_37 _ (List.mem_of_getElem? (i := 9) rfl)) (jWr_4 _ (List.mem_of_getElem? (i := 14) rfl)) (jWr_37 _ (List.mem_of_getElem? (i := 10) rfl))) rfl rfl rfl (by decide +kernel) ⟨by rw [← hR]; exact Nat.le_of_ble_eq_true rfl, by rw [← hR]; exact Nat.le_of_ble_eq_true rfl⟩) ⟨fun a U g mk q => by obtain ⟨q0, q1, q2, qK, q10, q11, q12⟩ := q; exact ⟨q0, q1, q2, jG.calling g mk a qK, q10, q11, q12⟩, hh_49.recv (C := RX10) (T := TX10) (N := 11) hB12 rfl (by decide) hg_r0 hK, fun U hU hW => ⟨rfl, hU, hh_49.2.1, hG.step hW hU hh_49.1, hg_r0, (hh_49.2.2.1.sub (L1 := [(r0, 12, 3, .int tokens_50)]) [0] rfl), by first | omega | (refine ⟨?_, ?_, ?_, ?_⟩ <;> (first | omega | rfl | assumption | decide | exact Or.inl rfl | exact Or.inr rfl | (simp only; omega)))⟩⟩ rfl rfl hl.1 rfl (lv_room (Nat.le_of_ble_eq_true rfl)) dX10_scanName_83 ⟨Nat.zero_le _, Nat.zero_le _⟩) hh_49.1 (fun q _ h => h) (fun q h => h) (fun u_46 t_46 H_46 locs_46 ht_46 hvm_46 hr_47 hb_46 hz_46 hk_46 hS_46 => ?_)
                  obtain ⟨qk_46, rfl⟩ : ∃ z, z = u_46 := ⟨_, rfl⟩
                  rw [ht_46] at hb_46
                  obtain ⟨hb_461, hb_462, hb_463, hb_464, hb_465⟩ := hb_46
                  have hh_46 : jSt (dC, dI) B base G0 G0 EX10_scanNameBt9 s.heap 0 0 [(r0, 12, 3, .int qk_46)] [] [] H_46 locs_46 := ((hh_49.call hb_461 hb_462 hb_463 hb_464 hS_46 rfl (L1 := []) [] rfl rfl (M1 := []) [] rfl rfl (I1 := []) [] rfl rfl).more hb_465)
                  clear hh_49 ht_46 hvm_46 hz_46 hk_46 hS_46 hb_461 hb_462 hb_463 hb_464 hb_465
                  obtain ⟨hr_47_0, hr_47_1, hr_47_2⟩ := hr_47
                  obtain ⟨z_51, ez_51⟩ : ∃ y : Int32, y = v5_44 + 1 := ⟨_, rfl⟩
                  refine lv_iinc (v := z_51) (lv' := [(5, .int z_51), (0, .ref r0), (1, .ref r1), (2, .int a2), (3, .int a3), (4, .int v4_2)]) hx hb dX10_scanName_86 hl (k := 5) rfl (by rw [ez_51]; rfl) (by decide) rfl (fun ls hl => ?_)
                  have hz_51 : z_51.toInt = v5_44.toInt + 1 := by rw [ez_51]; exact jb_iadd2 (rfl) (by decide) (by omega)
                  refine lv_goto (tgt := 73) hx hb dX10_scanName_89 (by decide) ?_
                  exact L73 z_51 _ _ (hh_46.sub (L1 := []) [] rfl (M1 := []) [] rfl (I1 := []) [] rfl) (by first | omega | (refine ⟨?_, ?_⟩ <;> (first | omega | rfl | assumption | decide | exact Or.inl rfl | exact Or.inr rfl | (simp only; omega)))) (by omega) _ (lv_sub hl [1, 2, 3, 4, 5, 0] rfl)
            exact L73 (v4_2.toInt - (a2 : Int32).toInt : Int).toNat.succ a2 _ _ hh_2 (by first | omega | (refine ⟨?_, ?_⟩ <;> (first | omega | rfl | assumption | decide | exact Or.inl rfl | exact Or.inr rfl | (simp only; omega)))) (by omega) _ (lv_sub hl [1, 2, 3, 4, 5, 0] rfl)
          · skip
            have c_43' : z_42.toInt ≤ 10 := jb_gt_n (rfl) ((by decide)) c_43
            refine lv_aload_n hx hb dX10_scanName_36 rfl (lv_at hl 0 rfl) ?_
            obtain ⟨v_52, hv_52, hh_53⟩ := hh_2.pin (C := RX10) (T := TX10) (N := 11) hB12 rfl (by decide) hg_r0 (i := 0) (by decide) rfl
            clear hh_2
            obtain ⟨names_54, rfl, hg_names_54⟩ := hv_52
            refine j7_read hx hb hown hK (C := RX10) (T := TX10) (N := 11) rfl hly_12_0 hlk_24 (hh_53.at 0 rfl) dX10_scanName_37 ?_
            refine lv_aload_n hx hb dX10_scanName_40 rfl (lv_at hl 1 rfl) ?_
            refine lv_iload_n hx hb dX10_scanName_41 rfl (lv_at hl 2 rfl) ?_
            refine lv_iload hx hb dX10_scanName_42 (lv_at hl 4 rfl) ?_
            refine lv_iconst (v := 1) hx hb dX10_scanName_44 (by decide) ?_
            obtain ⟨v_57, hv_57, hh_58⟩ := hh_53.pin (C := RX6) (T := TX6) (N := 4) hB8 rfl (by decide) hg_names_54 (i := 0) (by decide) rfl
            obtain ⟨stems_59, rfl, hg_stems_59⟩ := hv_57
            obtain ⟨v_60, hv_60, hh_61⟩ := hh_58.pin (C := RX6) (T := TX6) (N := 4) hB8 rfl (by decide) hg_names_54 (i := 1) (by decide) rfl
            obtain ⟨primes_62, rfl, hg_primes_62⟩ := hv_60
            obtain ⟨v_63, hv_63, hh_64⟩ := hh_61.pin (C := RX6) (T := TX6) (N := 4) hB8 rfl (by decide) hg_names_54 (i := 2) (by decide) rfl
            obtain ⟨slots_65, rfl, hg_slots_65⟩ := hv_63
            refine va_calli (A0 := jA base) (H0 := s.heap) (va_runV (As := [.ref r1, .int a2, .int v4_2, .int 1]) (rest := []) ⟨hx, hb, hml, hown, hts⟩ (uX6_numberOfBt9 l dC dI ca base B hB hAp hB8 hB102 hB132 hB133 hB173 G0 H_2 names_54 r1 a2 v4_2 1 n1 stems_59 primes_62 slots_65) (cwV 4 hts (jgV (jWr_37 _ (List.mem_of_getElem? (i := 6) rfl)) (jWr_7 _ (List.mem_of_getElem? (i := 14) rfl)) (jWr_7 _ (List.mem_of_getElem? (i := 15) rfl)) (jWr_4 _ (List.mem_of_getElem? (i := 10) rfl)) (jWr_7 _ (List.mem_of_getElem? (i := 16) rfl))) rfl rfl rfl (by decide +kernel) ⟨by rw [← hR]; exact Nat.le_of_ble_eq_true rfl, by rw [← hR]; exact Nat.le_of_ble_eq_true rfl⟩) ⟨fun a U g mk q => by obtain ⟨q0, q1, q2, qK, q10, q11, q12, q13, q14, q15, q16⟩ := q; exact ⟨q0, q1, q2, jG.calling g mk a qK, q10, q11, q12, q13, q14, q15, q16⟩, hh_64.recv (C := RX6) (T := TX6) (N := 4) hB8 rfl (by decide) hg_names_54 hK, fun U hU hW => ⟨rfl, hU, hh_64.2.1, hG.step hW hU hh_64.1, hg_names_54, hg_r1, hg_stems_59, hg_primes_62, hg_slots_65, (hh_64.2.2.1.sub (L1 := [(names_54, 8, 0, .ref stems_59), (names_54, 8, 1, .ref primes_62), (names_54, 8, 2, .ref slots_65)]) [2, 1, 0] rfl), by first | omega | rfl | assumption | decide | exact Or.inl rfl | exact Or.inr rfl | (simp only; omega)⟩⟩ rfl rfl hl.1 rfl (lv_room (Nat.le_of_ble_eq_true rfl)) dX10_scanName_45 ⟨Nat.zero_le _, Nat.zero_le _⟩) hh_64.1 (fun q _ h => h) (fun q h => h) (fun r_56 u_55 t_55 H_55 locs_55 ht_55 hvm_55 hr_56 hb_55 hz_55 hk_55 hS_55 => ?_)
            rw [ht_55] at hb_55
            obtain ⟨hb_55, hbF_55⟩ := hb_55
            obtain ⟨hb_551, hb_552, hb_553, hb_554, hb_555⟩ := hb_55
            have hh_55 : jSt (dC, dI) B base G0 G0 EX10_scanNameBt9 s.heap 0 0 [(names_54, 8, 2, .ref slots_65), (names_54, 8, 1, .ref primes_62), (names_54, 8, 0, .ref stems_59), (r0, 12, 0, .ref names_54)] [] [] H_55 locs_55 := ((hh_64.call hb_551 hb_552 hb_553 hb_554 hS_55 rfl (L1 := [(names_54, 8, 2, .ref slots_65), (names_54, 8, 1, .ref primes_62), (names_54, 8, 0, .ref stems_59), (r0, 12, 0, .ref names_54)]) [0, 1, 2, 3] rfl rfl (M1 := []) [] rfl rfl (I1 := []) [] rfl rfl).more hb_555)
            clear hh_64 ht_55 hvm_55 hz_55 hk_55 hS_55 hb_551 hb_552 hb_553 hb_554 hb_555
            obtain ⟨hr_56_0, hr_56_1⟩ := hr_56
            refine lv_istore (lv' := [(5, .int r_56), (0, .ref r0), (1, .ref r1), (2, .int a2), (3, .int a3), (4, .int v4_2)]) hx hb dX10_scanName_48 hl (by decide) rfl (fun ls hl => ?_)
            refine lv_aload_n hx hb dX10_scanName_50 rfl (lv_at hl 1 rfl) ?_
            refine lv_iload hx hb dX10_scanName_51 (lv_at hl 0 rfl) ?_
            refine lv_if_ge (tgt := 60) hx hb dX10_scanName_53 (by decide) (fun c_66 => ?_) (fun c_66 => ?_)
            · skip
              have c_66' : r_56.toInt ≥ 0 := jb_ge (rfl) ((by decide)) c_66
              refine lv_bipush (v := 110) hx hb dX10_scanName_60 (by decide) ?_
              refine lv_iload hx hb dX10_scanName_62 (lv_at hl 0 rfl) ?_
              obtain ⟨v_69, hv_69, hh_70⟩ := hh_55.pin (C := RX10) (T := TX10) (N := 11) hB12 rfl (by decide) hg_r0 (i := 3) (by decide) rfl
              obtain ⟨tokens_71, rfl, hlotokens_71, hhitokens_71⟩ := hv_69
              refine va_callv (A0 := jA base) (H0 := s.heap) (va_runV (As := [.int 110, .int r_56]) (rest := []) ⟨hx, hb, hml, hown, hts⟩ (uX10_addB l dC dI ca base B hB hAp hB12 hB101 hB293 G0 H_55 r0 110 r_56 tokens_71) (cwV 2 hts (jgV (jWr_37 _ (List.mem_of_getElem? (i := 7) rfl)) (jWr_37 _ (List.mem_of_getElem? (i := 8) rfl)) (jWr_37 _ (List.mem_of_getElem? (i := 9) rfl)) (jWr_4 _ (List.mem_of_getElem? (i := 14) rfl)) (jWr_37 _ (List.mem_of_getElem? (i := 10) rfl))) rfl rfl rfl (by decide +kernel) ⟨by rw [← hR]; exact Nat.le_of_ble_eq_true rfl, by rw [← hR]; exact Nat.le_of_ble_eq_true rfl⟩) ⟨fun a U g mk q => by obtain ⟨q0, q1, q2, qK, q10, q11, q12⟩ := q; exact ⟨q0, q1, q2, jG.calling g mk a qK, q10, q11, q12⟩, hh_70.recv (C := RX10) (T := TX10) (N := 11) hB12 rfl (by decide) hg_r0 hK, fun U hU hW => ⟨rfl, hU, hh_70.2.1, hG.step hW hU hh_70.1, hg_r0, (hh_70.2.2.1.sub (L1 := [(r0, 12, 3, .int tokens_71)]) [0] rfl), by first | omega | (refine ⟨?_, ?_, ?_, ?_⟩ <;> (first | omega | rfl | assumption | decide | exact Or.inl rfl | exact Or.inr rfl | (simp only; omega)))⟩⟩ rfl rfl hl.1 rfl (lv_room (Nat.le_of_ble_eq_true rfl)) dX10_scanName_64 ⟨Nat.zero_le _, Nat.zero_le _⟩) hh_70.1 (fun q _ h => h) (fun q h => h) (fun u_67 t_67 H_67 locs_67 ht_67 hvm_67 hr_68 hb_67 hz_67 hk_67 hS_67 => ?_)
              obtain ⟨qk_67, rfl⟩ : ∃ z, z = u_67 := ⟨_, rfl⟩
              rw [ht_67] at hb_67
              obtain ⟨hb_671, hb_672, hb_673, hb_674, hb_675⟩ := hb_67
              have hh_67 : jSt (dC, dI) B base G0 G0 EX10_scanNameBt9 s.heap 0 0 [(r0, 12, 3, .int qk_67), (names_54, 8, 2, .ref slots_65), (names_54, 8, 1, .ref primes_62), (names_54, 8, 0, .ref stems_59), (r0, 12, 0, .ref names_54)] [] [] H_67 locs_67 := ((hh_70.call hb_671 hb_672 hb_673 hb_674 hS_67 rfl (L1 := [(names_54, 8, 2, .ref slots_65), (names_54, 8, 1, .ref primes_62), (names_54, 8, 0, .ref stems_59), (r0, 12, 0, .ref names_54)]) [1, 2, 3, 4] rfl rfl (M1 := []) [] rfl rfl (I1 := []) [] rfl rfl).more hb_675)
              clear hh_70 ht_67 hvm_67 hz_67 hk_67 hS_67 hb_671 hb_672 hb_673 hb_674 hb_675
              obtain ⟨hr_68_0, hr_68_1, hr_68_2⟩ := hr_68
              refine lv_goto (tgt := 92) hx hb dX10_scanName_67 (by decide) ?_
              refine lv_iload hx hb dX10_scanName_92 (lv_at hl 5 rfl) ?_
              rw [hQ]
              exact W.iret (v := v4_2) hx hb hr (fun t ht hW => ⟨⟨v4_2, (), rfl, by first | omega | (refine ⟨?_, ?_⟩ <;> (first | omega | rfl | assumption | decide | exact Or.inl rfl | exact Or.inr rfl | (simp only; omega))), hh_67.rt (M1 := []) [] rfl ht⟩, by rw [ht]; try exact hh_67.1.1, fun q h9 hq => by rw [ht]; try exact hh_67.1.2.1 q h9 hq⟩) hh_67.1.2.2 dX10_scanName_94
            · skip
              have c_66' : r_56.toInt < 0 := jb_ge_n (rfl) ((by decide)) c_66
              refine lv_iconst (v := 0) hx hb dX10_scanName_56 (by decide) ?_
              refine lv_goto (tgt := 62) hx hb dX10_scanName_57 (by decide) ?_
              refine lv_iload hx hb dX10_scanName_62 (lv_at hl 0 rfl) ?_
              obtain ⟨v_74, hv_74, hh_75⟩ := hh_55.pin (C := RX10) (T := TX10) (N := 11) hB12 rfl (by decide) hg_r0 (i := 3) (by decide) rfl
              obtain ⟨tokens_76, rfl, hlotokens_76, hhitokens_76⟩ := hv_74
              refine va_callv (A0 := jA base) (H0 := s.heap) (va_runV (As := [.int 0, .int r_56]) (rest := []) ⟨hx, hb, hml, hown, hts⟩ (uX10_addB l dC dI ca base B hB hAp hB12 hB101 hB293 G0 H_55 r0 0 r_56 tokens_76) (cwV 2 hts (jgV (jWr_37 _ (List.mem_of_getElem? (i := 7) rfl)) (jWr_37 _ (List.mem_of_getElem? (i := 8) rfl)) (jWr_37 _ (List.mem_of_getElem? (i := 9) rfl)) (jWr_4 _ (List.mem_of_getElem? (i := 14) rfl)) (jWr_37 _ (List.mem_of_getElem? (i := 10) rfl))) rfl rfl rfl (by decide +kernel) ⟨by rw [← hR]; exact Nat.le_of_ble_eq_true rfl, by rw [← hR]; exact Nat.le_of_ble_eq_true rfl⟩) ⟨fun a U g mk q => by obtain ⟨q0, q1, q2, qK, q10, q11, q12⟩ := q; exact ⟨q0, q1, q2, jG.calling g mk a qK, q10, q11, q12⟩, hh_75.recv (C := RX10) (T := TX10) (N := 11) hB12 rfl (by decide) hg_r0 hK, fun U hU hW => ⟨rfl, hU, hh_75.2.1, hG.step hW hU hh_75.1, hg_r0, (hh_75.2.2.1.sub (L1 := [(r0, 12, 3, .int tokens_76)]) [0] rfl), by first | omega | (refine ⟨?_, ?_, ?_, ?_⟩ <;> (first | omega | rfl | assumption | decide | exact Or.inl rfl | exact Or.inr rfl | (simp only; omega)))⟩⟩ rfl rfl hl.1 rfl (lv_room (Nat.le_of_ble_eq_true rfl)) dX10_scanName_64 ⟨Nat.zero_le _, Nat.zero_le _⟩) hh_75.1 (fun q _ h => h) (fun q h => h) (fun u_72 t_72 H_72 locs_72 ht_72 hvm_72 hr_73 hb_72 hz_72 hk_72 hS_72 => ?_)
              obtain ⟨qk_72, rfl⟩ : ∃ z, z = u_72 := ⟨_, rfl⟩
              rw [ht_72] at hb_72
              obtain ⟨hb_721, hb_722, hb_723, hb_724, hb_725⟩ := hb_72
              have hh_72 : jSt (dC, dI) B base G0 G0 EX10_scanNameBt9 s.heap 0 0 [(r0, 12, 3, .int qk_72), (names_54, 8, 2, .ref slots_65), (names_54, 8, 1, .ref primes_62), (names_54, 8, 0, .ref stems_59), (r0, 12, 0, .ref names_54)] [] [] H_72 locs_72 := ((hh_75.call hb_721 hb_722 hb_723 hb_724 hS_72 rfl (L1 := [(names_54, 8, 2, .ref slots_65), (names_54, 8, 1, .ref primes_62), (names_54, 8, 0, .ref stems_59), (r0, 12, 0, .ref names_54)]) [1, 2, 3, 4] rfl rfl (M1 := []) [] rfl rfl (I1 := []) [] rfl rfl).more hb_725)
              clear hh_75 ht_72 hvm_72 hz_72 hk_72 hS_72 hb_721 hb_722 hb_723 hb_724 hb_725
              obtain ⟨hr_73_0, hr_73_1, hr_73_2⟩ := hr_73
              refine lv_goto (tgt := 92) hx hb dX10_scanName_67 (by decide) ?_
              refine lv_iload hx hb dX10_scanName_92 (lv_at hl 5 rfl) ?_
              rw [hQ]
              exact W.iret (v := v4_2) hx hb hr (fun t ht hW => ⟨⟨v4_2, (), rfl, by first | omega | (refine ⟨?_, ?_⟩ <;> (first | omega | rfl | assumption | decide | exact Or.inl rfl | exact Or.inr rfl | (simp only; omega))), hh_72.rt (M1 := []) [] rfl ht⟩, by rw [ht]; try exact hh_72.1.1, fun q h9 hq => by rw [ht]; try exact hh_72.1.2.1 q h9 hq⟩) hh_72.1.2.2 dX10_scanName_94
        · skip
          have c_41' : r_40.toInt ≥ 0 := jb_lt_n (rfl) ((by decide)) c_41
          obtain ⟨z_77, ez_77⟩ : ∃ y : Int32, y = v4_2 + 1 := ⟨_, rfl⟩
          refine lv_iinc (v := z_77) (lv' := [(4, .int z_77), (0, .ref r0), (1, .ref r1), (2, .int a2), (3, .int a3)]) hx hb dX10_scanName_21 hl (k := 4) rfl (by rw [ez_77]; rfl) (by decide) rfl (fun ls hl => ?_)
          have hz_77 : z_77.toInt = v4_2.toInt + 1 := by rw [ez_77]; exact jb_iadd2 (rfl) (by decide) (by omega)
          refine lv_goto (tgt := 5) hx hb dX10_scanName_24 (by decide) ?_
          exact L5 z_77 _ _ hh_2 (by first | omega | (refine ⟨?_, ?_⟩ <;> (first | omega | rfl | assumption | decide | exact Or.inl rfl | exact Or.inr rfl | (simp only; omega)))) (by omega) _ (lv_sub hl [1, 2, 3, 4, 0] rfl)
  exact L5 (a3.toInt - (z_1 : Int32).toInt : Int).toNat.succ z_1 _ _ hh (by first | omega | (refine ⟨?_, ?_⟩ <;> (first | omega | rfl | assumption | decide | exact Or.inl rfl | exact Or.inr rfl | (simp only; omega)))) (by omega) _ (lv_sub hl [1, 2, 3, 4, 0] rfl)
set_option maxHeartbeats 4000000 in
set_option maxRecDepth 20000 in
theorem uX10_scanBt9 (l : Launch) (dC : Nat → ClassId) (dI : Nat → Nat → Nat) (ca : Nat → ClassId) (base : Nat) (B : jF) (hB : jBok B) (hAp : jAp (dC, dI)) (hB8 : ∀ n G a H, B 8 n G a H ↔ jOb (dC, dI) 8 4 (F8 n G) a H) (hB12 : ∀ n G a H, B 12 n G a H ↔ jOb (dC, dI) 12 11 (F12b n G) a H) (hB101 : ∀ n G a H, B 101 n G a H ↔ jAr (dC, dI) (ca 1) (fun j z => True) n a H) (hB102 : ∀ n G a H, B 102 n G a H ↔ jAl (dC, dI) (ca 2) n a H) (hB132 : ∀ n G a H, B 132 n G a H ↔ jAr (dC, dI) (ca 1) (fun j z => 0 ≤ z.toInt ∧ z.toInt ≤ 10) n a H) (hB133 : ∀ n G a H, B 133 n G a H ↔ jAr (dC, dI) (ca 1) (fun j z => 0 ≤ z.toInt ∧ z.toInt ≤ 8192) n a H) (hB173 : ∀ n G a H, B 173 n G a H ↔ jAr (dC, dI) (ca 1) (fun j z => True) n a H) (hB293 : ∀ n G a H, B 293 n G a H ↔ jAr (dC, dI) (ca 1) (fun j z => -1 ≤ z.toInt ∧ z.toInt ≤ 8191) n a H) (G0 : jT) (H0 : Heap) (r0 : Nat) (r1 : Nat) (a2 : Int32) (a3 : Int32) (n1 : Nat) : Met l yX10_scan (jw yX10_scan cX10_scan 8 (some .int)) ({ frames := 5, cells := 0, slots := 0, locals := 181 }) (va_Pc [.ref r0, .ref r1, .int a2, .int a3] (fun U => U.heap = H0 ∧ jX B base G0 [] H0 ∧ jG dC dI ca base U ∧ G0 r0 = some (12, 0) ∧ G0 r1 = some (173, n1) ∧ jP (dC, dI) G0 H0 [] ∧ n1 < 1000000 ∧ a2.toInt ≤ 1000000)) (va_Qi (S := Unit) (fun r u => (0 ≤ r.toInt ∧ r.toInt ≤ 1500)) (fun u t => jRt (dC, dI) B base G0 EX10_scanBt9 H0 [] t.heap) (jA base)) 0 0 (jA base) := by
  refine Met.ofW (cc := cX10_scan) (maxL := 8) (ret := (some .int)) (by decide) rfl ?_
  intro p e s m args below meth c s₁ Bd hml hv
  obtain ⟨rfl, hH0, hX, hG, hg_r0, hg_r1, hP0, hp0, hp1⟩ := hv
  have hK := hG.1
  have hx := Bd.exec
  have hb := Bd.bytes
  have hr := Bd.returns
  have hts := atoms_spec (ws := (jw yX10_scan cX10_scan 8 (some .int))) Bd.pre
  have htw : ∀ w ∈ jWl, w.before _ s = true := fun w h => hts w (List.mem_cons_of_mem _ h)
  have hown : s.vm.findClass RX10 = some m.cls := findClass_of_methodNamed Bd.named
  have hlocks := Bd.notSynchronized
  obtain ⟨Q, hQ⟩ : ∃ Q, Q = MQ below (va_Qi (S := Unit) (fun r u => (0 ≤ r.toInt ∧ r.toInt ≤ 1500)) (fun u t => jRt (dC, dI) B base G0 EX10_scanBt9 H0 [] t.heap) (jA base)) ([.ref r0, .ref r1, .int a2, .int a3] : List Value).toArray s 0 0 (jA base) := ⟨_, rfl⟩
  rw [← hQ]
  have hl := lv_entry ([.ref r0, .ref r1, .int a2, .int a3]) (n := 8) (Nat.le_of_ble_eq_true rfl)
  rw [lg_entry_eq]
  generalize (lg_sl ([.ref r0, .ref r1, .int a2, .int a3]) ++ List.replicate (8 - (lg_sl ([.ref r0, .ref r1, .int a2, .int a3])).length) Slot.unset).toArray = ls at hl ⊢
  have hl : lv_has ls 8 [(0, .ref r0), (1, .ref r1), (2, .int a2), (3, .int a3)] := hl
  generalize hR : (headSpec (jw yX10_scan cX10_scan 8 (some .int)) ({ frames := 5, cells := 0, slots := 0, locals := 181 })).room = R
  subst hH0
  have hh : jSt (dC, dI) B base G0 G0 EX10_scanBt9 s.heap 0 0 [] [] [] s.heap [] := jSt.start hX hP0 jMc.nil jIs.nil
  clear hX hP0
  have hk0 : (0 : Int32).toInt = 0 := by decide
  have hk1 : (1 : Int32).toInt = 1 := by decide
  have hk2 : (2 : Int32).toInt = 2 := by decide
  have hk45 : (45 : Int32).toInt = 45 := by decide
  have hk46 : (46 : Int32).toInt = 46 := by decide
  have hk48 : (48 : Int32).toInt = 48 := by decide
  have hk62 : (62 : Int32).toInt = 62 := by decide
  have hk100 : (100 : Int32).toInt = 100 := by decide
  have hk128 : (128 : Int32).toInt = 128 := by decide
  have hly_12_3 := htw (u_lay RX10 TX10 3) (jWc_wsX100 _ (u_in_lay (by decide)))
  have hlk_28 := (htw (.fieldLink RX10 28 "ProofServer$Syntax" "tokens" "I") (jWr_36 _ (List.mem_of_getElem? (i := 23) rfl)))
  obtain ⟨str66, rstr66, hstr660⟩ := hG.str (o := RX10) (k := 66) (tx := "*+~=:,()") (List.mem_of_getElem? (i := 1152) (by decide +kernel))
  have hstr66 : jStr base str66 8 s s.heap := hstr660
  have hrg_a2 := jb_rng a2
  have hrg_a3 := jb_rng a3
  refine lv_aload_n hx hb dX10_scan_0 rfl (lv_at hl 0 rfl) ?_
  refine lv_iconst (v := 0) hx hb dX10_scan_1 (by decide) ?_
  refine j7_put hx hb hown hK hh hB hAp hB12 (C := RX10) (T := TX10) (N := 11) rfl (by decide) hg_r0 (i := 3) (by decide) hly_12_3 rfl hlk_28 rfl (ty := .int) (v := .int 0) (by decide +kernel) rfl rfl (⟨_, rfl, by omega, by omega⟩) rfl (L1 := []) [] rfl rfl rfl dX10_scan_2 (fun H_1 locs_1 hh_1 => ?_)
  clear hh
  refine lv_iload_n hx hb dX10_scan_5 rfl (lv_at hl 3 rfl) ?_
  refine lv_aload_n hx hb dX10_scan_6 rfl (lv_at hl 1 rfl) ?_
  refine j7_len hx hb hK hh_1 hB173 1 rfl (by decide) hg_r1 (by omega) dX10_scan_7 (fun z_2 hz_2 => ?_)
  refine va_mmin hx hb (by rw [hml]; exact hl.1.symm) hown (htw (.methodLink RX10 32 Lib.Math.min.name) (jWr_37 _ (List.mem_of_getElem? (i := 0) rfl))) (htw (.static Lib.Math.min.name) (jWr_16 _ (List.mem_of_getElem? (i := 16) rfl))) (htw (.initialized "java/lang/Math") (jWr_3 _ (List.mem_of_getElem? (i := 7) rfl))) (htw (.code Lib.Math.min.name Lib.Math.min.code 2 (some .int)) (jWr_16 _ (List.mem_of_getElem? (i := 17) rfl))) (by rw [← hR]; exact Nat.le_of_ble_eq_true rfl) (by rw [← hR]; exact Nat.le_of_ble_eq_true rfl) (Nat.zero_le _) (Nat.zero_le _) dX10_scan_8 ?_
  refine lv_topi (fun z_3 ez_3 => ?_)
  have hz_3 := jb_min ez_3
  refine lv_istore (lv' := [(4, .int z_3), (0, .ref r0), (1, .ref r1), (2, .int a2), (3, .int a3)]) hx hb dX10_scan_11 hl (by decide) rfl (fun ls hl => ?_)
  refine lv_iload_n hx hb dX10_scan_13 rfl (lv_at hl 3 rfl) ?_
  refine lv_iconst (v := 0) hx hb dX10_scan_14 (by decide) ?_
  refine va_mmax hx hb (by rw [hml]; exact hl.1.symm) hown (htw (.methodLink RX10 38 Lib.Math.max.name) (jWr_37 _ (List.mem_of_getElem? (i := 1) rfl))) (htw (.static Lib.Math.max.name) (jWr_3 _ (List.mem_of_getElem? (i := 6) rfl))) (htw (.initialized "java/lang/Math") (jWr_3 _ (List.mem_of_getElem? (i := 7) rfl))) (htw (.code Lib.Math.max.name Lib.Math.max.code 2 (some .int)) (jWr_3 _ (List.mem_of_getElem? (i := 8) rfl))) (by rw [← hR]; exact Nat.le_of_ble_eq_true rfl) (by rw [← hR]; exact Nat.le_of_ble_eq_true rfl) (Nat.zero_le _) (Nat.zero_le _) dX10_scan_15 ?_
  refine lv_topi (fun z_4 ez_4 => ?_)
  have hz_4 := jb_max ez_4
  refine lv_istore (lv' := [(5, .int z_4), (4, .int z_3), (0, .ref r0), (1, .ref r1), (2, .int a2), (3, .int a3)]) hx hb dX10_scan_18 hl (by decide) rfl (fun ls hl => ?_)
  have L20 : ∀ (N : Nat) (v5_5 : Int32) (H_5 : Heap) (locs_5 : List Loc), jSt (dC, dI) B base G0 G0 EX10_scanBt9 s.heap 0 0 [] [] [] H_5 locs_5 → (0 ≤ v5_5.toInt) → (((z_3.toInt - v5_5.toInt).toNat : Int) : Int) < N → ∀ ls : Array Slot, lv_has ls 8 [(0, .ref r0), (1, .ref r1), (2, .int a2), (3, .int a3), (4, .int z_3), (5, .int v5_5)] → W p l e R s m ([.ref r0, .ref r1, .int a2, .int a3] : List Value).toArray below meth c H_5 locs_5 0 0 Q (F0 m 20 ls []) := by
    intro N
    induction N with
    | zero => intro v5_5 H_5 locs_5 hh_5  hi_5 hm; exact absurd hm (by omega)
    | succ N L20 =>
      intro v5_5 H_5 locs_5 hh_5  hi_5 hm_5 ls hl
      refine lv_iload hx hb dX10_scan_20 (lv_at hl 5 rfl) ?_
      refine lv_iload hx hb dX10_scan_22 (lv_at hl 4 rfl) ?_
      refine lv_icmp_ge (tgt := 240) hx hb dX10_scan_24 (by decide) (fun c_6 => ?_) (fun c_6 => ?_)
      · skip
        have c_6' : v5_5.toInt ≥ z_3.toInt := jb_ge (rfl) (rfl) c_6
        refine lv_aload_n hx hb dX10_scan_240 rfl (lv_at hl 0 rfl) ?_
        obtain ⟨v_7, hv_7, hh_8⟩ := hh_5.pin (C := RX10) (T := TX10) (N := 11) hB12 rfl (by decide) hg_r0 (i := 3) (by decide) rfl
        clear hh_5
        obtain ⟨tokens_9, rfl, hlotokens_9, hhitokens_9⟩ := hv_7
        refine j7_read hx hb hown hK (C := RX10) (T := TX10) (N := 11) rfl hly_12_3 hlk_28 (hh_8.at 0 rfl) dX10_scan_241 ?_
        rw [hQ]
        exact W.iret (v := tokens_9) hx hb hr (fun t ht hW => ⟨⟨tokens_9, (), rfl, by first | omega | (refine ⟨?_, ?_⟩ <;> (first | omega | rfl | assumption | decide | exact Or.inl rfl | exact Or.inr rfl | (simp only; omega))), hh_8.rt (M1 := []) [] rfl ht⟩, by rw [ht]; try exact hh_8.1.1, fun q h9 hq => by rw [ht]; try exact hh_8.1.2.1 q h9 hq⟩) hh_8.1.2.2 dX10_scan_244
      · skip
        have c_6' : v5_5.toInt < z_3.toInt := jb_ge_n (rfl) (rfl) c_6
        refine lv_iload hx hb dX10_scan_27 (lv_at hl 5 rfl) ?_
        refine lv_iconst (v := 1) hx hb dX10_scan_29 (by decide) ?_
        refine lv_iadd hx hb dX10_scan_30 ?_
        refine lv_topi (fun z_10 ez_10 => ?_)
        have hz_10 : z_10.toInt = v5_5.toInt + 1 := by rw [ez_10]; exact jb_iadd2 (rfl) ((by decide)) (by omega)
        refine lv_istore (lv' := [(6, .int z_10), (0, .ref r0), (1, .ref r1), (2, .int a2), (3, .int a3), (4, .int z_3), (5, .int v5_5)]) hx hb dX10_scan_31 hl (by decide) rfl (fun ls hl => ?_)
        refine lv_aload_n hx hb dX10_scan_33 rfl (lv_at hl 2 rfl) ?_
        refine lv_iload hx hb dX10_scan_34 (lv_at hl 6 rfl) ?_
        refine lv_iload hx hb dX10_scan_36 (lv_at hl 5 rfl) ?_
        refine va_calli (A0 := jA base) (H0 := s.heap) (va_runSN (As := [.ref r1, .int v5_5, .int z_3]) (rest := []) ⟨hx, hb, hml, hown, hts⟩ (uX11_opensCommentt9 l dC dI ca base B hB hAp hB173 G0 H_5 r1 v5_5 z_3 n1) ⟨va_cnB 3 hts (jgW (jWr_36 _ (List.mem_of_getElem? (i := 14) rfl))) rfl rfl rfl (hG.2.2.1 RX10 41 yX11_opensComment "ProofServer" (List.mem_of_getElem? (i := 1137) (by decide +kernel))) (htw (.initialized RX11) (jWr_1 _ (List.mem_of_getElem? (i := 2) rfl))) (by decide +kernel) ⟨by rw [← hR]; exact Nat.le_of_ble_eq_true rfl, by rw [← hR]; exact Nat.le_of_ble_eq_true rfl⟩, htw (.static yX11_opensComment) (jWr_36 _ (List.mem_of_getElem? (i := 13) rfl)), trivial⟩ ⟨fun a U g mk q => by obtain ⟨q0, q1, q2, qK, q10, q11, q12⟩ := q; exact ⟨q0, q1, q2, jG.calling g mk a qK, q10, q11, q12⟩, fun U hU hW => ⟨rfl, hU, hh_5.2.1, hG.step hW hU hh_5.1, hg_r1, jP.nil, by first | omega | (refine ⟨?_, ?_⟩ <;> (first | omega | rfl | assumption | decide | exact Or.inl rfl | exact Or.inr rfl | (simp only; omega)))⟩⟩ rfl rfl hl.1 rfl (lv_room (Nat.le_of_ble_eq_true rfl)) dX10_scan_38 ⟨Nat.zero_le _, Nat.zero_le _⟩) hh_5.1 (fun q _ h => h) (fun q h => h) (fun r_12 u_11 t_11 H_11 locs_11 ht_11 hvm_11 hr_12 hb_11 hz_11 hk_11 hS_11 => ?_)
        rw [ht_11] at hb_11
        obtain ⟨hb_111, hb_112, hb_113, hb_114, hb_115⟩ := hb_11
        have hh_11 : jSt (dC, dI) B base G0 G0 EX10_scanBt9 s.heap 0 0 [] [] [] H_11 locs_11 := ((hh_5.call hb_111 hb_112 hb_113 hb_114 hS_11 rfl (L1 := []) [] rfl rfl (M1 := []) [] rfl rfl (I1 := []) [] rfl rfl).more hb_115)
        clear hh_5 ht_11 hvm_11 hz_11 hk_11 hS_11 hb_111 hb_112 hb_113 hb_114 hb_115
        obtain ⟨hr_12b, hr_12p⟩ := hr_12
        have hr_12' := jb_01 hr_12b
        have C226 : ∀ (v6_13 : Int32) (v6_13 : Int32) (H_13 : Heap) (locs_13 : List Loc), jSt (dC, dI) B base G0 G0 EX10_scanBt9 s.heap 0 0 [] [] [] H_13 locs_13 → (0 ≤ v5_5.toInt ∧ v6_13.toInt ≤ 1000000) → ∀ ls : Array Slot, lv_has ls 8 [(0, .ref r0), (1, .ref r1), (2, .int a2), (3, .int a3), (4, .int z_3), (5, .int v5_5), (6, .int v6_13), (6, .int v6_13)] → W p l e R s m ([.ref r0, .ref r1, .int a2, .int a3] : List Value).toArray below meth c H_13 locs_13 0 0 Q (F0 m 226 ls []) := by
          intro v6_13 v6_13 H_13 locs_13 hh_13  hi_13 ls hl
          obtain ⟨hi_13_0, hi_13_1⟩ := hi_13
          try clear hr_12p
          refine lv_iload hx hb dX10_scan_226 (lv_at hl 5 rfl) ?_
          refine lv_iconst (v := 1) hx hb dX10_scan_228 (by decide) ?_
          refine lv_iadd hx hb dX10_scan_229 ?_
          refine lv_topi (fun z_14 ez_14 => ?_)
          have hz_14 : z_14.toInt = v5_5.toInt + 1 := by rw [ez_14]; exact jb_iadd2 (rfl) ((by decide)) (by omega)
          refine lv_iload hx hb dX10_scan_230 (lv_at hl 6 rfl) ?_
          refine va_mmax hx hb (by rw [hml]; exact hl.1.symm) hown (htw (.methodLink RX10 38 Lib.Math.max.name) (jWr_37 _ (List.mem_of_getElem? (i := 1) rfl))) (htw (.static Lib.Math.max.name) (jWr_3 _ (List.mem_of_getElem? (i := 6) rfl))) (htw (.initialized "java/lang/Math") (jWr_3 _ (List.mem_of_getElem? (i := 7) rfl))) (htw (.code Lib.Math.max.name Lib.Math.max.code 2 (some .int)) (jWr_3 _ (List.mem_of_getElem? (i := 8) rfl))) (by rw [← hR]; exact Nat.le_of_ble_eq_true rfl) (by rw [← hR]; exact Nat.le_of_ble_eq_true rfl) (Nat.zero_le _) (Nat.zero_le _) dX10_scan_232 ?_
          refine lv_topi (fun z_15 ez_15 => ?_)
          have hz_15 := jb_max ez_15
          refine lv_istore (lv' := [(5, .int z_15), (0, .ref r0), (1, .ref r1), (2, .int a2), (3, .int a3), (4, .int z_3), (6, .int v6_13), (6, .int v6_13)]) hx hb dX10_scan_235 hl (by decide) rfl (fun ls hl => ?_)
          refine lv_goto (tgt := 20) hx hb dX10_scan_237 (by decide) ?_
          exact L20 z_15 _ _ hh_13 (by first | omega | rfl | assumption | decide | exact Or.inl rfl | exact Or.inr rfl | (simp only; omega)) (by omega) _ (lv_sub hl [1, 2, 3, 4, 5, 0] rfl)
        refine lv_if_eq (tgt := 57) hx hb dX10_scan_41 (by decide) (fun c_16 => ?_) (fun c_16 => ?_)
        · skip
          have c_16' : r_12.toInt = 0 := jb_eq (rfl) ((by decide)) c_16
          first | (have hr_12pq := hr_12p.resolve_left (by omega); clear hr_12p) | (have hr_12pq := hr_12p.resolve_right (by omega); clear hr_12p) | try clear hr_12p
          refine lv_aload_n hx hb dX10_scan_57 rfl (lv_at hl 2 rfl) ?_
          refine lv_iload hx hb dX10_scan_58 (lv_at hl 6 rfl) ?_
          refine j7_iald hx hb hK hh_11 hB173 1 rfl (by decide) hg_r1 (x := v5_5.toInt) (rfl) (by omega) dX10_scan_60 (fun z_17 (hz_17 : True) => ?_)
          refine vp_callSi (va_Run.run (va_runSN (As := [.int z_17]) (rest := []) ⟨hx, hb, hml, hown, hts⟩ (wX11_isLetter l dC dI ca base H_11 z_17) ⟨va_cnB 1 hts (jgW (jWr_7 _ (List.mem_of_getElem? (i := 18) rfl))) rfl rfl rfl (hG.2.2.1 RX10 49 yX11_isLetter "ProofServer" (List.mem_of_getElem? (i := 1139) (by decide +kernel))) (htw (.initialized RX11) (jWr_1 _ (List.mem_of_getElem? (i := 2) rfl))) (by decide +kernel) ⟨by rw [← hR]; exact Nat.le_of_ble_eq_true rfl, by rw [← hR]; exact Nat.le_of_ble_eq_true rfl⟩, htw (.static yX11_isLetter) (jWr_7 _ (List.mem_of_getElem? (i := 17) rfl)), trivial⟩ ⟨fun a U g mk q => by obtain ⟨q0, q1, qK, q9⟩ := q; exact ⟨q0, q1, jG.calling g mk a qK, q9⟩, fun U hU hW => ⟨rfl, hU, hG.step hW hU hh_11.1, by first | trivial | omega | (constructor <;> omega)⟩⟩ rfl rfl hl.1 rfl (lv_room (Nat.le_of_ble_eq_true rfl)) dX10_scan_61 ⟨Nat.zero_le _, Nat.zero_le _⟩)) (fun r_18 hr_18 => ?_)
          have hr_18' : r_18.toInt = 0 ∨ r_18.toInt = 1 := jb_01 hr_18
          refine lv_if_eq (tgt := 81) hx hb dX10_scan_64 (by decide) (fun c_19 => ?_) (fun c_19 => ?_)
          · skip
            have c_19' : r_18.toInt = 0 := jb_eq (rfl) ((by decide)) c_19
            refine lv_aload_n hx hb dX10_scan_81 rfl (lv_at hl 2 rfl) ?_
            refine lv_iload hx hb dX10_scan_82 (lv_at hl 6 rfl) ?_
            refine j7_iald hx hb hK hh_11 hB173 1 rfl (by decide) hg_r1 (x := v5_5.toInt) (rfl) (by omega) dX10_scan_84 (fun z_20 (hz_20 : True) => ?_)
            refine lv_bipush (v := 45) hx hb dX10_scan_85 (by decide) ?_
            refine lv_icmp_ne (tgt := 126) hx hb dX10_scan_87 (by decide) (fun c_21 => ?_) (fun c_21 => ?_)
            · skip
              have c_21' : z_20.toInt ≠ 45 := jb_ne (rfl) ((by decide)) c_21
              obtain ⟨f_l1_22, hh_22⟩ := hh_11.cpin hB173 (by decide) (by decide) hg_r1
              clear hh_11
              refine lv_aload_n hx hb dX10_scan_126 rfl (lv_at hl 2 rfl) ?_
              refine lv_iload hx hb dX10_scan_127 (lv_at hl 6 rfl) ?_
              refine j7_ialdM hx hb hK hh_22 hB173 1 rfl (by decide) hg_r1 (x := v5_5.toInt) (rfl) (by omega) (j := 0) rfl dX10_scan_129 (fun z_23 ez_23 (hz_23 : True) => ?_)
              have hqz_23 : z_23.toInt = (f_l1_22 (v5_5.toInt).toNat).toInt := by rw [ez_23]
              refine va_calli (A0 := jA base) (H0 := s.heap) (va_runSN (As := [.int z_23]) (rest := []) ⟨hx, hb, hml, hown, hts⟩ (uX11_isDigitB l dC dI ca base B hB hAp G0 H_11 z_23) ⟨va_cnB 1 hts (jgW (jWr_22 _ (List.mem_of_getElem? (i := 15) rfl))) rfl rfl rfl (hG.2.2.1 RX10 60 yX11_isDigit "ProofServer" (List.mem_of_getElem? (i := 1150) (by decide +kernel))) (htw (.initialized RX11) (jWr_1 _ (List.mem_of_getElem? (i := 2) rfl))) (by decide +kernel) ⟨by rw [← hR]; exact Nat.le_of_ble_eq_true rfl, by rw [← hR]; exact Nat.le_of_ble_eq_true rfl⟩, htw (.static yX11_isDigit) (jWr_22 _ (List.mem_of_getElem? (i := 14) rfl)), trivial⟩ ⟨fun a U g mk q => by obtain ⟨q0, q1, q2, qK, q10, q11⟩ := q; exact ⟨q0, q1, q2, jG.calling g mk a qK, q10, q11⟩, fun U hU hW => ⟨rfl, hU, hh_22.2.1, hG.step hW hU hh_22.1, jP.nil, trivial⟩⟩ rfl rfl hl.1 rfl (lv_room (Nat.le_of_ble_eq_true rfl)) dX10_scan_130 ⟨Nat.zero_le _, Nat.zero_le _⟩) hh_22.1 (fun q _ h => h) (fun q h => h) (fun r_25 u_24 t_24 H_24 locs_24 ht_24 hvm_24 hr_25 hb_24 hz_24 hk_24 hS_24 => ?_)
              rw [ht_24] at hb_24
              obtain ⟨hb_241, hb_242, hb_243, hb_244, hb_245⟩ := hb_24
              have hh_24 : jSt (dC, dI) B base G0 G0 EX10_scanBt9 s.heap 0 0 [] [(r1, 173, n1, ca 1, f_l1_22)] [] H_24 locs_24 := ((hh_22.call hb_241 hb_242 hb_243 hb_244 hS_24 rfl (L1 := []) [] rfl rfl (M1 := [(r1, 173, n1, ca 1, f_l1_22)]) [0] rfl rfl (I1 := []) [] rfl rfl).more hb_245)
              clear hh_22 ht_24 hvm_24 hz_24 hk_24 hS_24 hb_241 hb_242 hb_243 hb_244 hb_245
              obtain ⟨hr_25b, hr_25p⟩ := hr_25
              have hr_25' := jb_01 hr_25b
              refine lv_if_eq (tgt := 152) hx hb dX10_scan_133 (by decide) (fun c_26 => ?_) (fun c_26 => ?_)
              · skip
                have c_26' : r_25.toInt = 0 := jb_eq (rfl) ((by decide)) c_26
                first | (have hr_25pq := hr_25p.resolve_left (by omega); clear hr_25p) | (have hr_25pq := hr_25p.resolve_right (by omega); clear hr_25p) | try clear hr_25p
                refine lv_aload_n hx hb dX10_scan_152 rfl (lv_at hl 2 rfl) ?_
                refine lv_iload hx hb dX10_scan_153 (lv_at hl 6 rfl) ?_
                refine j7_ialdM hx hb hK hh_24 hB173 1 rfl (by decide) hg_r1 (x := v5_5.toInt) (rfl) (by omega) (j := 0) rfl dX10_scan_155 (fun z_27 ez_27 (hz_27 : True) => ?_)
                have hqz_27 : z_27.toInt = (f_l1_22 (v5_5.toInt).toNat).toInt := by rw [ez_27]
                refine vp_callSi (va_Run.run (va_runSN (As := [.int z_27]) (rest := []) ⟨hx, hb, hml, hown, hts⟩ (wX11_isBlank l dC dI ca base H_24 z_27) ⟨va_cnB 1 hts (jgW (jWr_20 _ (List.mem_of_getElem? (i := 0) rfl))) rfl rfl rfl (hG.2.2.1 RX10 63 yX11_isBlank "ProofServer" (List.mem_of_getElem? (i := 1151) (by decide +kernel))) (htw (.initialized RX11) (jWr_1 _ (List.mem_of_getElem? (i := 2) rfl))) (by decide +kernel) ⟨by rw [← hR]; exact Nat.le_of_ble_eq_true rfl, by rw [← hR]; exact Nat.le_of_ble_eq_true rfl⟩, htw (.static yX11_isBlank) (jWr_19 _ (List.mem_of_getElem? (i := 23) rfl)), trivial⟩ ⟨fun a U g mk q => by obtain ⟨q0, q1, qK, q9⟩ := q; exact ⟨q0, q1, jG.calling g mk a qK, q9⟩, fun U hU hW => ⟨rfl, hU, hG.step hW hU hh_24.1, by first | trivial | omega | (constructor <;> omega)⟩⟩ rfl rfl hl.1 rfl (lv_room (Nat.le_of_ble_eq_true rfl)) dX10_scan_156 ⟨Nat.zero_le _, Nat.zero_le _⟩)) (fun r_28 hr_28 => ?_)
                have hr_28' : r_28.toInt = 0 ∨ r_28.toInt = 1 := jb_01 hr_28
                refine lv_if_ne (tgt := 226) hx hb dX10_scan_159 (by decide) (fun c_29 => ?_) (fun c_29 => ?_)
                · skip
                  have c_29' : r_28.toInt ≠ 0 := jb_ne (rfl) ((by decide)) c_29
                  exact C226 z_10 z_10 _ _ (hh_24.sub (L1 := []) [] rfl (M1 := []) [] rfl (I1 := []) [] rfl) (by first | omega | (refine ⟨?_, ?_⟩ <;> (first | omega | rfl | assumption | decide | exact Or.inl rfl | exact Or.inr rfl | (simp only; omega)))) _ (lv_sub hl [1, 2, 3, 4, 5, 6, 0, 0] rfl)
                · skip
                  have c_29' : r_28.toInt = 0 := jb_ne_n (rfl) ((by decide)) c_29
                  refine lv_aload_n hx hb dX10_scan_162 rfl (lv_at hl 2 rfl) ?_
                  refine lv_iload hx hb dX10_scan_163 (lv_at hl 6 rfl) ?_
                  refine j7_ialdM hx hb hK hh_24 hB173 1 rfl (by decide) hg_r1 (x := v5_5.toInt) (rfl) (by omega) (j := 0) rfl dX10_scan_165 (fun z_30 ez_30 (hz_30 : True) => ?_)
                  have hqz_30 : z_30.toInt = (f_l1_22 (v5_5.toInt).toNat).toInt := by rw [ez_30]
                  refine lv_bipush (v := 46) hx hb dX10_scan_166 (by decide) ?_
                  refine lv_icmp_ne (tgt := 178) hx hb dX10_scan_168 (by decide) (fun c_31 => ?_) (fun c_31 => ?_)
                  · skip
                    have c_31' : z_30.toInt ≠ 46 := jb_ne (rfl) ((by decide)) c_31
                    refine lv_aload_n hx hb dX10_scan_178 rfl (lv_at hl 2 rfl) ?_
                    refine lv_iload hx hb dX10_scan_179 (lv_at hl 6 rfl) ?_
                    refine j7_ialdM hx hb hK hh_24 hB173 1 rfl (by decide) hg_r1 (x := v5_5.toInt) (rfl) (by omega) (j := 0) rfl dX10_scan_181 (fun z_32 ez_32 (hz_32 : True) => ?_)
                    have hqz_32 : z_32.toInt = (f_l1_22 (v5_5.toInt).toNat).toInt := by rw [ez_32]
                    refine lv_sipush (v := 128) hx hb dX10_scan_182 (by decide) ?_
                    refine lv_icmp_ge (tgt := 205) hx hb dX10_scan_185 (by decide) (fun c_33 => ?_) (fun c_33 => ?_)
                    · skip
                      have c_33' : z_32.toInt ≥ 128 := jb_ge (rfl) ((by decide)) c_33
                      refine lv_iconst (v := 0) hx hb dX10_scan_205 (by decide) ?_
                      refine lv_istore (lv' := [(7, .int 0), (6, .int z_10), (0, .ref r0), (1, .ref r1), (2, .int a2), (3, .int a3), (4, .int z_3), (5, .int v5_5)]) hx hb dX10_scan_206 hl (by decide) rfl (fun ls hl => ?_)
                      refine lv_aload_n hx hb dX10_scan_208 rfl (lv_at hl 2 rfl) ?_
                      refine lv_iload hx hb dX10_scan_209 (lv_at hl 0 rfl) ?_
                      refine lv_if_eq (tgt := 221) hx hb dX10_scan_211 (by decide) (fun c_34 => ?_) (fun c_34 => ?_)
                      · skip
                        refine lv_iconst (v := 0) hx hb dX10_scan_221 (by decide) ?_
                        refine lv_iconst (v := 0) hx hb dX10_scan_222 (by decide) ?_
                        obtain ⟨v_37, hv_37, hh_38⟩ := hh_24.pin (C := RX10) (T := TX10) (N := 11) hB12 rfl (by decide) hg_r0 (i := 3) (by decide) rfl
                        obtain ⟨tokens_39, rfl, hlotokens_39, hhitokens_39⟩ := hv_37
                        refine va_callv (A0 := jA base) (H0 := s.heap) (va_runV (As := [.int 0, .int 0]) (rest := []) ⟨hx, hb, hml, hown, hts⟩ (uX10_addB l dC dI ca base B hB hAp hB12 hB101 hB293 G0 H_24 r0 0 0 tokens_39) (cwV 2 hts (jgV (jWr_37 _ (List.mem_of_getElem? (i := 7) rfl)) (jWr_37 _ (List.mem_of_getElem? (i := 8) rfl)) (jWr_37 _ (List.mem_of_getElem? (i := 9) rfl)) (jWr_4 _ (List.mem_of_getElem? (i := 14) rfl)) (jWr_37 _ (List.mem_of_getElem? (i := 10) rfl))) rfl rfl rfl (by decide +kernel) ⟨by rw [← hR]; exact Nat.le_of_ble_eq_true rfl, by rw [← hR]; exact Nat.le_of_ble_eq_true rfl⟩) ⟨fun a U g mk q => by obtain ⟨q0, q1, q2, qK, q10, q11, q12⟩ := q; exact ⟨q0, q1, q2, jG.calling g mk a qK, q10, q11, q12⟩, hh_38.recv (C := RX10) (T := TX10) (N := 11) hB12 rfl (by decide) hg_r0 hK, fun U hU hW => ⟨rfl, hU, hh_38.2.1, hG.step hW hU hh_38.1, hg_r0, (hh_38.2.2.1.sub (L1 := [(r0, 12, 3, .int tokens_39)]) [0] rfl), by first | omega | (refine ⟨?_, ?_, ?_, ?_⟩ <;> (first | omega | rfl | assumption | decide | exact Or.inl rfl | exact Or.inr rfl | (simp only; omega)))⟩⟩ rfl rfl hl.1 rfl (lv_room (Nat.le_of_ble_eq_true rfl)) dX10_scan_223 ⟨Nat.zero_le _, Nat.zero_le _⟩) hh_38.1 (fun q _ h => h) (fun q h => h) (fun u_35 t_35 H_35 locs_35 ht_35 hvm_35 hr_36 hb_35 hz_35 hk_35 hS_35 => ?_)
                        obtain ⟨qk_35, rfl⟩ : ∃ z, z = u_35 := ⟨_, rfl⟩
                        rw [ht_35] at hb_35
                        obtain ⟨hb_351, hb_352, hb_353, hb_354, hb_355⟩ := hb_35
                        have hh_35 : jSt (dC, dI) B base G0 G0 EX10_scanBt9 s.heap 0 0 [(r0, 12, 3, .int qk_35)] [(r1, 173, n1, ca 1, f_l1_22)] [] H_35 locs_35 := ((hh_38.call hb_351 hb_352 hb_353 hb_354 hS_35 rfl (L1 := []) [] rfl rfl (M1 := [(r1, 173, n1, ca 1, f_l1_22)]) [0] rfl rfl (I1 := []) [] rfl rfl).more hb_355)
                        clear hh_38 ht_35 hvm_35 hz_35 hk_35 hS_35 hb_351 hb_352 hb_353 hb_354 hb_355
                        obtain ⟨hr_36_0, hr_36_1, hr_36_2⟩ := hr_36
                        exact C226 z_10 z_10 _ _ (hh_35.sub (L1 := []) [] rfl (M1 := []) [] rfl (I1 := []) [] rfl) (by first | omega | (refine ⟨?_, ?_⟩ <;> (first | omega | rfl | assumption | decide | exact Or.inl rfl | exact Or.inr rfl | (simp only; omega)))) _ (lv_sub hl [2, 3, 4, 5, 6, 7, 1, 1] rfl)
                      · skip
                        exact absurd c_34 (by decide)
                    · skip
                      have c_33' : z_32.toInt < 128 := jb_ge_n (rfl) ((by decide)) c_33
                      refine va_ldcS hx hb hown rstr66 dX10_scan_188 ?_
                      refine lv_aload_n hx hb dX10_scan_190 rfl (lv_at hl 2 rfl) ?_
                      refine lv_iload hx hb dX10_scan_191 (lv_at hl 6 rfl) ?_
                      refine j7_ialdM hx hb hK hh_24 hB173 1 rfl (by decide) hg_r1 (x := v5_5.toInt) (rfl) (by omega) (j := 0) rfl dX10_scan_193 (fun z_40 ez_40 (hz_40 : True) => ?_)
                      have hqz_40 : z_40.toInt = (f_l1_22 (v5_5.toInt).toNat).toInt := by rw [ez_40]
                      refine lv_i2c hx hb dX10_scan_194 rfl ?_
                      refine lv_topi (fun z_41 ez_41 => ?_)
                      refine vp_callSi (W.runV (As := [.int z_41]) (rest := []) ⟨hx, hb, hml, hown, hts⟩ (wJ0_indexOf_0f7a4 l dC dI ca base H_24 str66 8 z_41) (cwV 1 hts (jgV (jWr_37 _ (List.mem_of_getElem? (i := 11) rfl)) (jWr_37 _ (List.mem_of_getElem? (i := 12) rfl)) (jWr_37 _ (List.mem_of_getElem? (i := 13) rfl)) (jWr_5 _ (List.mem_of_getElem? (i := 15) rfl)) (jWr_37 _ (List.mem_of_getElem? (i := 14) rfl))) rfl rfl rfl (by decide +kernel) ⟨by rw [← hR]; exact Nat.le_of_ble_eq_true rfl, by rw [← hR]; exact Nat.le_of_ble_eq_true rfl⟩) ⟨fun a U g mk q => by obtain ⟨q0, q1, q2, qK, q9⟩ := q; exact ⟨q0, q1, (q2.moved (Vm.Alike.refl U.vm)), jG.calling g mk a qK, q9⟩, jStr_recv hstr66 hh_24.1, fun U hU hW => ⟨rfl, hU, (hstr66.moved hW.alike).kept hh_24.1.2.1, hG.step hW hU hh_24.1, by omega⟩⟩ rfl rfl hl.1 rfl (lv_room (Nat.le_of_ble_eq_true rfl)) dX10_scan_195 ⟨Nat.zero_le _, Nat.zero_le _⟩) (fun r_42 hr_42 => ?_)
                      refine lv_if_lt (tgt := 205) hx hb dX10_scan_198 (by decide) (fun c_43 => ?_) (fun c_43 => ?_)
                      · skip
                        have c_43' : r_42.toInt < 0 := jb_lt (rfl) ((by decide)) c_43
                        refine lv_iconst (v := 0) hx hb dX10_scan_205 (by decide) ?_
                        refine lv_istore (lv' := [(7, .int 0), (6, .int z_10), (0, .ref r0), (1, .ref r1), (2, .int a2), (3, .int a3), (4, .int z_3), (5, .int v5_5)]) hx hb dX10_scan_206 hl (by decide) rfl (fun ls hl => ?_)
                        refine lv_aload_n hx hb dX10_scan_208 rfl (lv_at hl 2 rfl) ?_
                        refine lv_iload hx hb dX10_scan_209 (lv_at hl 0 rfl) ?_
                        refine lv_if_eq (tgt := 221) hx hb dX10_scan_211 (by decide) (fun c_44 => ?_) (fun c_44 => ?_)
                        · skip
                          refine lv_iconst (v := 0) hx hb dX10_scan_221 (by decide) ?_
                          refine lv_iconst (v := 0) hx hb dX10_scan_222 (by decide) ?_
                          obtain ⟨v_47, hv_47, hh_48⟩ := hh_24.pin (C := RX10) (T := TX10) (N := 11) hB12 rfl (by decide) hg_r0 (i := 3) (by decide) rfl
                          obtain ⟨tokens_49, rfl, hlotokens_49, hhitokens_49⟩ := hv_47
                          refine va_callv (A0 := jA base) (H0 := s.heap) (va_runV (As := [.int 0, .int 0]) (rest := []) ⟨hx, hb, hml, hown, hts⟩ (uX10_addB l dC dI ca base B hB hAp hB12 hB101 hB293 G0 H_24 r0 0 0 tokens_49) (cwV 2 hts (jgV (jWr_37 _ (List.mem_of_getElem? (i := 7) rfl)) (jWr_37 _ (List.mem_of_getElem? (i := 8) rfl)) (jWr_37 _ (List.mem_of_getElem? (i := 9) rfl)) (jWr_4 _ (List.mem_of_getElem? (i := 14) rfl)) (jWr_37 _ (List.mem_of_getElem? (i := 10) rfl))) rfl rfl rfl (by decide +kernel) ⟨by rw [← hR]; exact Nat.le_of_ble_eq_true rfl, by rw [← hR]; exact Nat.le_of_ble_eq_true rfl⟩) ⟨fun a U g mk q => by obtain ⟨q0, q1, q2, qK, q10, q11, q12⟩ := q; exact ⟨q0, q1, q2, jG.calling g mk a qK, q10, q11, q12⟩, hh_48.recv (C := RX10) (T := TX10) (N := 11) hB12 rfl (by decide) hg_r0 hK, fun U hU hW => ⟨rfl, hU, hh_48.2.1, hG.step hW hU hh_48.1, hg_r0, (hh_48.2.2.1.sub (L1 := [(r0, 12, 3, .int tokens_49)]) [0] rfl), by first | omega | (refine ⟨?_, ?_, ?_, ?_⟩ <;> (first | omega | rfl | assumption | decide | exact Or.inl rfl | exact Or.inr rfl | (simp only; omega)))⟩⟩ rfl rfl hl.1 rfl (lv_room (Nat.le_of_ble_eq_true rfl)) dX10_scan_223 ⟨Nat.zero_le _, Nat.zero_le _⟩) hh_48.1 (fun q _ h => h) (fun q h => h) (fun u_45 t_45 H_45 locs_45 ht_45 hvm_45 hr_46 hb_45 hz_45 hk_45 hS_45 => ?_)
                          obtain ⟨qk_45, rfl⟩ : ∃ z, z = u_45 := ⟨_, rfl⟩
                          rw [ht_45] at hb_45
                          obtain ⟨hb_451, hb_452, hb_453, hb_454, hb_455⟩ := hb_45
                          have hh_45 : jSt (dC, dI) B base G0 G0 EX10_scanBt9 s.heap 0 0 [(r0, 12, 3, .int qk_45)] [(r1, 173, n1, ca 1, f_l1_22)] [] H_45 locs_45 := ((hh_48.call hb_451 hb_452 hb_453 hb_454 hS_45 rfl (L1 := []) [] rfl rfl (M1 := [(r1, 173, n1, ca 1, f_l1_22)]) [0] rfl rfl (I1 := []) [] rfl rfl).more hb_455)
                          clear hh_48 ht_45 hvm_45 hz_45 hk_45 hS_45 hb_451 hb_452 hb_453 hb_454 hb_455
                          obtain ⟨hr_46_0, hr_46_1, hr_46_2⟩ := hr_46
                          exact C226 z_10 z_10 _ _ (hh_45.sub (L1 := []) [] rfl (M1 := []) [] rfl (I1 := []) [] rfl) (by first | omega | (refine ⟨?_, ?_⟩ <;> (first | omega | rfl | assumption | decide | exact Or.inl rfl | exact Or.inr rfl | (simp only; omega)))) _ (lv_sub hl [2, 3, 4, 5, 6, 7, 1, 1] rfl)
                        · skip
                          exact absurd c_44 (by decide)
                      · skip
                        have c_43' : r_42.toInt ≥ 0 := jb_lt_n (rfl) ((by decide)) c_43
                        refine lv_iconst (v := 1) hx hb dX10_scan_201 (by decide) ?_
                        refine lv_goto (tgt := 206) hx hb dX10_scan_202 (by decide) ?_
                        refine lv_istore (lv' := [(7, .int 1), (6, .int z_10), (0, .ref r0), (1, .ref r1), (2, .int a2), (3, .int a3), (4, .int z_3), (5, .int v5_5)]) hx hb dX10_scan_206 hl (by decide) rfl (fun ls hl => ?_)
                        refine lv_aload_n hx hb dX10_scan_208 rfl (lv_at hl 2 rfl) ?_
                        refine lv_iload hx hb dX10_scan_209 (lv_at hl 0 rfl) ?_
                        refine lv_if_eq (tgt := 221) hx hb dX10_scan_211 (by decide) (fun c_50 => ?_) (fun c_50 => ?_)
                        · skip
                          exact absurd c_50 (by decide)
                        · skip
                          refine lv_aload_n hx hb dX10_scan_214 rfl (lv_at hl 3 rfl) ?_
                          refine lv_iload hx hb dX10_scan_215 (lv_at hl 7 rfl) ?_
                          refine j7_ialdM hx hb hK hh_24 hB173 1 rfl (by decide) hg_r1 (x := v5_5.toInt) (rfl) (by omega) (j := 0) rfl dX10_scan_217 (fun z_51 ez_51 (hz_51 : True) => ?_)
                          have hqz_51 : z_51.toInt = (f_l1_22 (v5_5.toInt).toNat).toInt := by rw [ez_51]
                          refine lv_goto (tgt := 222) hx hb dX10_scan_218 (by decide) ?_
                          refine lv_iconst (v := 0) hx hb dX10_scan_222 (by decide) ?_
                          obtain ⟨v_54, hv_54, hh_55⟩ := hh_24.pin (C := RX10) (T := TX10) (N := 11) hB12 rfl (by decide) hg_r0 (i := 3) (by decide) rfl
                          obtain ⟨tokens_56, rfl, hlotokens_56, hhitokens_56⟩ := hv_54
                          refine va_callv (A0 := jA base) (H0 := s.heap) (va_runV (As := [.int z_51, .int 0]) (rest := []) ⟨hx, hb, hml, hown, hts⟩ (uX10_addB l dC dI ca base B hB hAp hB12 hB101 hB293 G0 H_24 r0 z_51 0 tokens_56) (cwV 2 hts (jgV (jWr_37 _ (List.mem_of_getElem? (i := 7) rfl)) (jWr_37 _ (List.mem_of_getElem? (i := 8) rfl)) (jWr_37 _ (List.mem_of_getElem? (i := 9) rfl)) (jWr_4 _ (List.mem_of_getElem? (i := 14) rfl)) (jWr_37 _ (List.mem_of_getElem? (i := 10) rfl))) rfl rfl rfl (by decide +kernel) ⟨by rw [← hR]; exact Nat.le_of_ble_eq_true rfl, by rw [← hR]; exact Nat.le_of_ble_eq_true rfl⟩) ⟨fun a U g mk q => by obtain ⟨q0, q1, q2, qK, q10, q11, q12⟩ := q; exact ⟨q0, q1, q2, jG.calling g mk a qK, q10, q11, q12⟩, hh_55.recv (C := RX10) (T := TX10) (N := 11) hB12 rfl (by decide) hg_r0 hK, fun U hU hW => ⟨rfl, hU, hh_55.2.1, hG.step hW hU hh_55.1, hg_r0, (hh_55.2.2.1.sub (L1 := [(r0, 12, 3, .int tokens_56)]) [0] rfl), by first | omega | (refine ⟨?_, ?_, ?_, ?_⟩ <;> (first | omega | rfl | assumption | decide | exact Or.inl rfl | exact Or.inr rfl | (simp only; omega)))⟩⟩ rfl rfl hl.1 rfl (lv_room (Nat.le_of_ble_eq_true rfl)) dX10_scan_223 ⟨Nat.zero_le _, Nat.zero_le _⟩) hh_55.1 (fun q _ h => h) (fun q h => h) (fun u_52 t_52 H_52 locs_52 ht_52 hvm_52 hr_53 hb_52 hz_52 hk_52 hS_52 => ?_)
                          obtain ⟨qk_52, rfl⟩ : ∃ z, z = u_52 := ⟨_, rfl⟩
                          rw [ht_52] at hb_52
                          obtain ⟨hb_521, hb_522, hb_523, hb_524, hb_525⟩ := hb_52
                          have hh_52 : jSt (dC, dI) B base G0 G0 EX10_scanBt9 s.heap 0 0 [(r0, 12, 3, .int qk_52)] [(r1, 173, n1, ca 1, f_l1_22)] [] H_52 locs_52 := ((hh_55.call hb_521 hb_522 hb_523 hb_524 hS_52 rfl (L1 := []) [] rfl rfl (M1 := [(r1, 173, n1, ca 1, f_l1_22)]) [0] rfl rfl (I1 := []) [] rfl rfl).more hb_525)
                          clear hh_55 ht_52 hvm_52 hz_52 hk_52 hS_52 hb_521 hb_522 hb_523 hb_524 hb_525
                          obtain ⟨hr_53_0, hr_53_1, hr_53_2⟩ := hr_53
                          exact C226 z_10 z_10 _ _ (hh_52.sub (L1 := []) [] rfl (M1 := []) [] rfl (I1 := []) [] rfl) (by first | omega | (refine ⟨?_, ?_⟩ <;> (first | omega | rfl | assumption | decide | exact Or.inl rfl | exact Or.inr rfl | (simp only; omega)))) _ (lv_sub hl [2, 3, 4, 5, 6, 7, 1, 1] rfl)
                  · skip
                    have c_31' : z_30.toInt = 46 := jb_ne_n (rfl) ((by decide)) c_31
                    refine lv_iload hx hb dX10_scan_171 (lv_at hl 0 rfl) ?_
                    refine lv_iload hx hb dX10_scan_173 (lv_at hl 5 rfl) ?_
                    refine lv_icmp_eq (tgt := 201) hx hb dX10_scan_175 (by decide) (fun c_57 => ?_) (fun c_57 => ?_)
                    · skip
                      have c_57' : z_10.toInt = z_3.toInt := jb_eq (rfl) (rfl) c_57
                      refine lv_iconst (v := 1) hx hb dX10_scan_201 (by decide) ?_
                      refine lv_goto (tgt := 206) hx hb dX10_scan_202 (by decide) ?_
                      refine lv_istore (lv' := [(7, .int 1), (6, .int z_10), (0, .ref r0), (1, .ref r1), (2, .int a2), (3, .int a3), (4, .int z_3), (5, .int v5_5)]) hx hb dX10_scan_206 hl (by decide) rfl (fun ls hl => ?_)
                      refine lv_aload_n hx hb dX10_scan_208 rfl (lv_at hl 2 rfl) ?_
                      refine lv_iload hx hb dX10_scan_209 (lv_at hl 0 rfl) ?_
                      refine lv_if_eq (tgt := 221) hx hb dX10_scan_211 (by decide) (fun c_58 => ?_) (fun c_58 => ?_)
                      · skip
                        exact absurd c_58 (by decide)
                      · skip
                        refine lv_aload_n hx hb dX10_scan_214 rfl (lv_at hl 3 rfl) ?_
                        refine lv_iload hx hb dX10_scan_215 (lv_at hl 7 rfl) ?_
                        refine j7_ialdM hx hb hK hh_24 hB173 1 rfl (by decide) hg_r1 (x := v5_5.toInt) (rfl) (by omega) (j := 0) rfl dX10_scan_217 (fun z_59 ez_59 (hz_59 : True) => ?_)
                        have hqz_59 : z_59.toInt = (f_l1_22 (v5_5.toInt).toNat).toInt := by rw [ez_59]
                        refine lv_goto (tgt := 222) hx hb dX10_scan_218 (by decide) ?_
                        refine lv_iconst (v := 0) hx hb dX10_scan_222 (by decide) ?_
                        obtain ⟨v_62, hv_62, hh_63⟩ := hh_24.pin (C := RX10) (T := TX10) (N := 11) hB12 rfl (by decide) hg_r0 (i := 3) (by decide) rfl
                        obtain ⟨tokens_64, rfl, hlotokens_64, hhitokens_64⟩ := hv_62
                        refine va_callv (A0 := jA base) (H0 := s.heap) (va_runV (As := [.int z_59, .int 0]) (rest := []) ⟨hx, hb, hml, hown, hts⟩ (uX10_addB l dC dI ca base B hB hAp hB12 hB101 hB293 G0 H_24 r0 z_59 0 tokens_64) (cwV 2 hts (jgV (jWr_37 _ (List.mem_of_getElem? (i := 7) rfl)) (jWr_37 _ (List.mem_of_getElem? (i := 8) rfl)) (jWr_37 _ (List.mem_of_getElem? (i := 9) rfl)) (jWr_4 _ (List.mem_of_getElem? (i := 14) rfl)) (jWr_37 _ (List.mem_of_getElem? (i := 10) rfl))) rfl rfl rfl (by decide +kernel) ⟨by rw [← hR]; exact Nat.le_of_ble_eq_true rfl, by rw [← hR]; exact Nat.le_of_ble_eq_true rfl⟩) ⟨fun a U g mk q => by obtain ⟨q0, q1, q2, qK, q10, q11, q12⟩ := q; exact ⟨q0, q1, q2, jG.calling g mk a qK, q10, q11, q12⟩, hh_63.recv (C := RX10) (T := TX10) (N := 11) hB12 rfl (by decide) hg_r0 hK, fun U hU hW => ⟨rfl, hU, hh_63.2.1, hG.step hW hU hh_63.1, hg_r0, (hh_63.2.2.1.sub (L1 := [(r0, 12, 3, .int tokens_64)]) [0] rfl), by first | omega | (refine ⟨?_, ?_, ?_, ?_⟩ <;> (first | omega | rfl | assumption | decide | exact Or.inl rfl | exact Or.inr rfl | (simp only; omega)))⟩⟩ rfl rfl hl.1 rfl (lv_room (Nat.le_of_ble_eq_true rfl)) dX10_scan_223 ⟨Nat.zero_le _, Nat.zero_le _⟩) hh_63.1 (fun q _ h => h) (fun q h => h) (fun u_60 t_60 H_60 locs_60 ht_60 hvm_60 hr_61 hb_60 hz_60 hk_60 hS_60 => ?_)
                        obtain ⟨qk_60, rfl⟩ : ∃ z, z = u_60 := ⟨_, rfl⟩
                        rw [ht_60] at hb_60
                        obtain ⟨hb_601, hb_602, hb_603, hb_604, hb_605⟩ := hb_60
                        have hh_60 : jSt (dC, dI) B base G0 G0 EX10_scanBt9 s.heap 0 0 [(r0, 12, 3, .int qk_60)] [(r1, 173, n1, ca 1, f_l1_22)] [] H_60 locs_60 := ((hh_63.call hb_601 hb_602 hb_603 hb_604 hS_60 rfl (L1 := []) [] rfl rfl (M1 := [(r1, 173, n1, ca 1, f_l1_22)]) [0] rfl rfl (I1 := []) [] rfl rfl).more hb_605)
                        clear hh_63 ht_60 hvm_60 hz_60 hk_60 hS_60 hb_601 hb_602 hb_603 hb_604 hb_605
                        obtain ⟨hr_61_0, hr_61_1, hr_61_2⟩ := hr_61
                        exact C226 z_10 z_10 _ _ (hh_60.sub (L1 := []) [] rfl (M1 := []) [] rfl (I1 := []) [] rfl) (by first | omega | (refine ⟨?_, ?_⟩ <;> (first | omega | rfl | assumption | decide | exact Or.inl rfl | exact Or.inr rfl | (simp only; omega)))) _ (lv_sub hl [2, 3, 4, 5, 6, 7, 1, 1] rfl)
                    · skip
                      have c_57' : z_10.toInt ≠ z_3.toInt := jb_eq_n (rfl) (rfl) c_57
                      refine lv_aload_n hx hb dX10_scan_178 rfl (lv_at hl 2 rfl) ?_
                      refine lv_iload hx hb dX10_scan_179 (lv_at hl 6 rfl) ?_
                      refine j7_ialdM hx hb hK hh_24 hB173 1 rfl (by decide) hg_r1 (x := v5_5.toInt) (rfl) (by omega) (j := 0) rfl dX10_scan_181 (fun z_65 ez_65 (hz_65 : True) => ?_)
                      have hqz_65 : z_65.toInt = (f_l1_22 (v5_5.toInt).toNat).toInt := by rw [ez_65]
                      refine lv_sipush (v := 128) hx hb dX10_scan_182 (by decide) ?_
                      refine lv_icmp_ge (tgt := 205) hx hb dX10_scan_185 (by decide) (fun c_66 => ?_) (fun c_66 => ?_)
                      · skip
                        have c_66' : z_65.toInt ≥ 128 := jb_ge (rfl) ((by decide)) c_66
                        refine lv_iconst (v := 0) hx hb dX10_scan_205 (by decide) ?_
                        refine lv_istore (lv' := [(7, .int 0), (6, .int z_10), (0, .ref r0), (1, .ref r1), (2, .int a2), (3, .int a3), (4, .int z_3), (5, .int v5_5)]) hx hb dX10_scan_206 hl (by decide) rfl (fun ls hl => ?_)
                        refine lv_aload_n hx hb dX10_scan_208 rfl (lv_at hl 2 rfl) ?_
                        refine lv_iload hx hb dX10_scan_209 (lv_at hl 0 rfl) ?_
                        refine lv_if_eq (tgt := 221) hx hb dX10_scan_211 (by decide) (fun c_67 => ?_) (fun c_67 => ?_)
                        · skip
                          refine lv_iconst (v := 0) hx hb dX10_scan_221 (by decide) ?_
                          refine lv_iconst (v := 0) hx hb dX10_scan_222 (by decide) ?_
                          obtain ⟨v_70, hv_70, hh_71⟩ := hh_24.pin (C := RX10) (T := TX10) (N := 11) hB12 rfl (by decide) hg_r0 (i := 3) (by decide) rfl
                          obtain ⟨tokens_72, rfl, hlotokens_72, hhitokens_72⟩ := hv_70
                          refine va_callv (A0 := jA base) (H0 := s.heap) (va_runV (As := [.int 0, .int 0]) (rest := []) ⟨hx, hb, hml, hown, hts⟩ (uX10_addB l dC dI ca base B hB hAp hB12 hB101 hB293 G0 H_24 r0 0 0 tokens_72) (cwV 2 hts (jgV (jWr_37 _ (List.mem_of_getElem? (i := 7) rfl)) (jWr_37 _ (List.mem_of_getElem? (i := 8) rfl)) (jWr_37 _ (List.mem_of_getElem? (i := 9) rfl)) (jWr_4 _ (List.mem_of_getElem? (i := 14) rfl)) (jWr_37 _ (List.mem_of_getElem? (i := 10) rfl))) rfl rfl rfl (by decide +kernel) ⟨by rw [← hR]; exact Nat.le_of_ble_eq_true rfl, by rw [← hR]; exact Nat.le_of_ble_eq_true rfl⟩) ⟨fun a U g mk q => by obtain ⟨q0, q1, q2, qK, q10, q11, q12⟩ := q; exact ⟨q0, q1, q2, jG.calling g mk a qK, q10, q11, q12⟩, hh_71.recv (C := RX10) (T := TX10) (N := 11) hB12 rfl (by decide) hg_r0 hK, fun U hU hW => ⟨rfl, hU, hh_71.2.1, hG.step hW hU hh_71.1, hg_r0, (hh_71.2.2.1.sub (L1 := [(r0, 12, 3, .int tokens_72)]) [0] rfl), by first | omega | (refine ⟨?_, ?_, ?_, ?_⟩ <;> (first | omega | rfl | assumption | decide | exact Or.inl rfl | exact Or.inr rfl | (simp only; omega)))⟩⟩ rfl rfl hl.1 rfl (lv_room (Nat.le_of_ble_eq_true rfl)) dX10_scan_223 ⟨Nat.zero_le _, Nat.zero_le _⟩) hh_71.1 (fun q _ h => h) (fun q h => h) (fun u_68 t_68 H_68 locs_68 ht_68 hvm_68 hr_69 hb_68 hz_68 hk_68 hS_68 => ?_)
                          obtain ⟨qk_68, rfl⟩ : ∃ z, z = u_68 := ⟨_, rfl⟩
                          rw [ht_68] at hb_68
                          obtain ⟨hb_681, hb_682, hb_683, hb_684, hb_685⟩ := hb_68
                          have hh_68 : jSt (dC, dI) B base G0 G0 EX10_scanBt9 s.heap 0 0 [(r0, 12, 3, .int qk_68)] [(r1, 173, n1, ca 1, f_l1_22)] [] H_68 locs_68 := ((hh_71.call hb_681 hb_682 hb_683 hb_684 hS_68 rfl (L1 := []) [] rfl rfl (M1 := [(r1, 173, n1, ca 1, f_l1_22)]) [0] rfl rfl (I1 := []) [] rfl rfl).more hb_685)
                          clear hh_71 ht_68 hvm_68 hz_68 hk_68 hS_68 hb_681 hb_682 hb_683 hb_684 hb_685
                          obtain ⟨hr_69_0, hr_69_1, hr_69_2⟩ := hr_69
                          exact C226 z_10 z_10 _ _ (hh_68.sub (L1 := []) [] rfl (M1 := []) [] rfl (I1 := []) [] rfl) (by first | omega | (refine ⟨?_, ?_⟩ <;> (first | omega | rfl | assumption | decide | exact Or.inl rfl | exact Or.inr rfl | (simp only; omega)))) _ (lv_sub hl [2, 3, 4, 5, 6, 7, 1, 1] rfl)
                        · skip
                          exact absurd c_67 (by decide)
                      · skip
                        have c_66' : z_65.toInt < 128 := jb_ge_n (rfl) ((by decide)) c_66
                        refine va_ldcS hx hb hown rstr66 dX10_scan_188 ?_
                        refine lv_aload_n hx hb dX10_scan_190 rfl (lv_at hl 2 rfl) ?_
                        refine lv_iload hx hb dX10_scan_191 (lv_at hl 6 rfl) ?_
                        refine j7_ialdM hx hb hK hh_24 hB173 1 rfl (by decide) hg_r1 (x := v5_5.toInt) (rfl) (by omega) (j := 0) rfl dX10_scan_193 (fun z_73 ez_73 (hz_73 : True) => ?_)
                        have hqz_73 : z_73.toInt = (f_l1_22 (v5_5.toInt).toNat).toInt := by rw [ez_73]
                        refine lv_i2c hx hb dX10_scan_194 rfl ?_
                        refine lv_topi (fun z_74 ez_74 => ?_)
                        refine vp_callSi (W.runV (As := [.int z_74]) (rest := []) ⟨hx, hb, hml, hown, hts⟩ (wJ0_indexOf_0f7a4 l dC dI ca base H_24 str66 8 z_74) (cwV 1 hts (jgV (jWr_37 _ (List.mem_of_getElem? (i := 11) rfl)) (jWr_37 _ (List.mem_of_getElem? (i := 12) rfl)) (jWr_37 _ (List.mem_of_getElem? (i := 13) rfl)) (jWr_5 _ (List.mem_of_getElem? (i := 15) rfl)) (jWr_37 _ (List.mem_of_getElem? (i := 14) rfl))) rfl rfl rfl (by decide +kernel) ⟨by rw [← hR]; exact Nat.le_of_ble_eq_true rfl, by rw [← hR]; exact Nat.le_of_ble_eq_true rfl⟩) ⟨fun a U g mk q => by obtain ⟨q0, q1, q2, qK, q9⟩ := q; exact ⟨q0, q1, (q2.moved (Vm.Alike.refl U.vm)), jG.calling g mk a qK, q9⟩, jStr_recv hstr66 hh_24.1, fun U hU hW => ⟨rfl, hU, (hstr66.moved hW.alike).kept hh_24.1.2.1, hG.step hW hU hh_24.1, by omega⟩⟩ rfl rfl hl.1 rfl (lv_room (Nat.le_of_ble_eq_true rfl)) dX10_scan_195 ⟨Nat.zero_le _, Nat.zero_le _⟩) (fun r_75 hr_75 => ?_)
                        refine lv_if_lt (tgt := 205) hx hb dX10_scan_198 (by decide) (fun c_76 => ?_) (fun c_76 => ?_)
                        · skip
                          have c_76' : r_75.toInt < 0 := jb_lt (rfl) ((by decide)) c_76
                          refine lv_iconst (v := 0) hx hb dX10_scan_205 (by decide) ?_
                          refine lv_istore (lv' := [(7, .int 0), (6, .int z_10), (0, .ref r0), (1, .ref r1), (2, .int a2), (3, .int a3), (4, .int z_3), (5, .int v5_5)]) hx hb dX10_scan_206 hl (by decide) rfl (fun ls hl => ?_)
                          refine lv_aload_n hx hb dX10_scan_208 rfl (lv_at hl 2 rfl) ?_
                          refine lv_iload hx hb dX10_scan_209 (lv_at hl 0 rfl) ?_
                          refine lv_if_eq (tgt := 221) hx hb dX10_scan_211 (by decide) (fun c_77 => ?_) (fun c_77 => ?_)
                          · skip
                            refine lv_iconst (v := 0) hx hb dX10_scan_221 (by decide) ?_
                            refine lv_iconst (v := 0) hx hb dX10_scan_222 (by decide) ?_
                            obtain ⟨v_80, hv_80, hh_81⟩ := hh_24.pin (C := RX10) (T := TX10) (N := 11) hB12 rfl (by decide) hg_r0 (i := 3) (by decide) rfl
                            obtain ⟨tokens_82, rfl, hlotokens_82, hhitokens_82⟩ := hv_80
                            refine va_callv (A0 := jA base) (H0 := s.heap) (va_runV (As := [.int 0, .int 0]) (rest := []) ⟨hx, hb, hml, hown, hts⟩ (uX10_addB l dC dI ca base B hB hAp hB12 hB101 hB293 G0 H_24 r0 0 0 tokens_82) (cwV 2 hts (jgV (jWr_37 _ (List.mem_of_getElem? (i := 7) rfl)) (jWr_37 _ (List.mem_of_getElem? (i := 8) rfl)) (jWr_37 _ (List.mem_of_getElem? (i := 9) rfl)) (jWr_4 _ (List.mem_of_getElem? (i := 14) rfl)) (jWr_37 _ (List.mem_of_getElem? (i := 10) rfl))) rfl rfl rfl (by decide +kernel) ⟨by rw [← hR]; exact Nat.le_of_ble_eq_true rfl, by rw [← hR]; exact Nat.le_of_ble_eq_true rfl⟩) ⟨fun a U g mk q => by obtain ⟨q0, q1, q2, qK, q10, q11, q12⟩ := q; exact ⟨q0, q1, q2, jG.calling g mk a qK, q10, q11, q12⟩, hh_81.recv (C := RX10) (T := TX10) (N := 11) hB12 rfl (by decide) hg_r0 hK, fun U hU hW => ⟨rfl, hU, hh_81.2.1, hG.step hW hU hh_81.1, hg_r0, (hh_81.2.2.1.sub (L1 := [(r0, 12, 3, .int tokens_82)]) [0] rfl), by first | omega | (refine ⟨?_, ?_, ?_, ?_⟩ <;> (first | omega | rfl | assumption | decide | exact Or.inl rfl | exact Or.inr rfl | (simp only; omega)))⟩⟩ rfl rfl hl.1 rfl (lv_room (Nat.le_of_ble_eq_true rfl)) dX10_scan_223 ⟨Nat.zero_le _, Nat.zero_le _⟩) hh_81.1 (fun q _ h => h) (fun q h => h) (fun u_78 t_78 H_78 locs_78 ht_78 hvm_78 hr_79 hb_78 hz_78 hk_78 hS_78 => ?_)
                            obtain ⟨qk_78, rfl⟩ : ∃ z, z = u_78 := ⟨_, rfl⟩
                            rw [ht_78] at hb_78
                            obtain ⟨hb_781, hb_782, hb_783, hb_784, hb_785⟩ := hb_78
                            have hh_78 : jSt (dC, dI) B base G0 G0 EX10_scanBt9 s.heap 0 0 [(r0, 12, 3, .int qk_78)] [(r1, 173, n1, ca 1, f_l1_22)] [] H_78 locs_78 := ((hh_81.call hb_781 hb_782 hb_783 hb_784 hS_78 rfl (L1 := []) [] rfl rfl (M1 := [(r1, 173, n1, ca 1, f_l1_22)]) [0] rfl rfl (I1 := []) [] rfl rfl).more hb_785)
                            clear hh_81 ht_78 hvm_78 hz_78 hk_78 hS_78 hb_781 hb_782 hb_783 hb_784 hb_785
                            obtain ⟨hr_79_0, hr_79_1, hr_79_2⟩ := hr_79
                            exact C226 z_10 z_10 _ _ (hh_78.sub (L1 := []) [] rfl (M1 := []) [] rfl (I1 := []) [] rfl) (by first | omega | (refine ⟨?_, ?_⟩ <;> (first | omega | rfl | assumption | decide | exact Or.inl rfl | exact Or.inr rfl | (simp only; omega)))) _ (lv_sub hl [2, 3, 4, 5, 6, 7, 1, 1] rfl)
                          · skip
                            exact absurd c_77 (by decide)
                        · skip
                          have c_76' : r_75.toInt ≥ 0 := jb_lt_n (rfl) ((by decide)) c_76
                          refine lv_iconst (v := 1) hx hb dX10_scan_201 (by decide) ?_
                          refine lv_goto (tgt := 206) hx hb dX10_scan_202 (by decide) ?_
                          refine lv_istore (lv' := [(7, .int 1), (6, .int z_10), (0, .ref r0), (1, .ref r1), (2, .int a2), (3, .int a3), (4, .int z_3), (5, .int v5_5)]) hx hb dX10_scan_206 hl (by decide) rfl (fun ls hl => ?_)
                          refine lv_aload_n hx hb dX10_scan_208 rfl (lv_at hl 2 rfl) ?_
                          refine lv_iload hx hb dX10_scan_209 (lv_at hl 0 rfl) ?_
                          refine lv_if_eq (tgt := 221) hx hb dX10_scan_211 (by decide) (fun c_83 => ?_) (fun c_83 => ?_)
                          · skip
                            exact absurd c_83 (by decide)
                          · skip
                            refine lv_aload_n hx hb dX10_scan_214 rfl (lv_at hl 3 rfl) ?_
                            refine lv_iload hx hb dX10_scan_215 (lv_at hl 7 rfl) ?_
                            refine j7_ialdM hx hb hK hh_24 hB173 1 rfl (by decide) hg_r1 (x := v5_5.toInt) (rfl) (by omega) (j := 0) rfl dX10_scan_217 (fun z_84 ez_84 (hz_84 : True) => ?_)
                            have hqz_84 : z_84.toInt = (f_l1_22 (v5_5.toInt).toNat).toInt := by rw [ez_84]
                            refine lv_goto (tgt := 222) hx hb dX10_scan_218 (by decide) ?_
                            refine lv_iconst (v := 0) hx hb dX10_scan_222 (by decide) ?_
                            obtain ⟨v_87, hv_87, hh_88⟩ := hh_24.pin (C := RX10) (T := TX10) (N := 11) hB12 rfl (by decide) hg_r0 (i := 3) (by decide) rfl
                            obtain ⟨tokens_89, rfl, hlotokens_89, hhitokens_89⟩ := hv_87
                            refine va_callv (A0 := jA base) (H0 := s.heap) (va_runV (As := [.int z_84, .int 0]) (rest := []) ⟨hx, hb, hml, hown, hts⟩ (uX10_addB l dC dI ca base B hB hAp hB12 hB101 hB293 G0 H_24 r0 z_84 0 tokens_89) (cwV 2 hts (jgV (jWr_37 _ (List.mem_of_getElem? (i := 7) rfl)) (jWr_37 _ (List.mem_of_getElem? (i := 8) rfl)) (jWr_37 _ (List.mem_of_getElem? (i := 9) rfl)) (jWr_4 _ (List.mem_of_getElem? (i := 14) rfl)) (jWr_37 _ (List.mem_of_getElem? (i := 10) rfl))) rfl rfl rfl (by decide +kernel) ⟨by rw [← hR]; exact Nat.le_of_ble_eq_true rfl, by rw [← hR]; exact Nat.le_of_ble_eq_true rfl⟩) ⟨fun a U g mk q => by obtain ⟨q0, q1, q2, qK, q10, q11, q12⟩ := q; exact ⟨q0, q1, q2, jG.calling g mk a qK, q10, q11, q12⟩, hh_88.recv (C := RX10) (T := TX10) (N := 11) hB12 rfl (by decide) hg_r0 hK, fun U hU hW => ⟨rfl, hU, hh_88.2.1, hG.step hW hU hh_88.1, hg_r0, (hh_88.2.2.1.sub (L1 := [(r0, 12, 3, .int tokens_89)]) [0] rfl), by first | omega | (refine ⟨?_, ?_, ?_, ?_⟩ <;> (first | omega | rfl | assumption | decide | exact Or.inl rfl | exact Or.inr rfl | (simp only; omega)))⟩⟩ rfl rfl hl.1 rfl (lv_room (Nat.le_of_ble_eq_true rfl)) dX10_scan_223 ⟨Nat.zero_le _, Nat.zero_le _⟩) hh_88.1 (fun q _ h => h) (fun q h => h) (fun u_85 t_85 H_85 locs_85 ht_85 hvm_85 hr_86 hb_85 hz_85 hk_85 hS_85 => ?_)
                            obtain ⟨qk_85, rfl⟩ : ∃ z, z = u_85 := ⟨_, rfl⟩
                            rw [ht_85] at hb_85
                            obtain ⟨hb_851, hb_852, hb_853, hb_854, hb_855⟩ := hb_85
                            have hh_85 : jSt (dC, dI) B base G0 G0 EX10_scanBt9 s.heap 0 0 [(r0, 12, 3, .int qk_85)] [(r1, 173, n1, ca 1, f_l1_22)] [] H_85 locs_85 := ((hh_88.call hb_851 hb_852 hb_853 hb_854 hS_85 rfl (L1 := []) [] rfl rfl (M1 := [(r1, 173, n1, ca 1, f_l1_22)]) [0] rfl rfl (I1 := []) [] rfl rfl).more hb_855)
                            clear hh_88 ht_85 hvm_85 hz_85 hk_85 hS_85 hb_851 hb_852 hb_853 hb_854 hb_855
                            obtain ⟨hr_86_0, hr_86_1, hr_86_2⟩ := hr_86
                            exact C226 z_10 z_10 _ _ (hh_85.sub (L1 := []) [] rfl (M1 := []) [] rfl (I1 := []) [] rfl) (by first | omega | (refine ⟨?_, ?_⟩ <;> (first | omega | rfl | assumption | decide | exact Or.inl rfl | exact Or.inr rfl | (simp only; omega)))) _ (lv_sub hl [2, 3, 4, 5, 6, 7, 1, 1] rfl)
              · skip
                have c_26' : r_25.toInt ≠ 0 := jb_eq_n (rfl) ((by decide)) c_26
                first | (have hr_25pq := hr_25p.resolve_left (by omega); clear hr_25p) | (have hr_25pq := hr_25p.resolve_right (by omega); clear hr_25p) | try clear hr_25p
                refine lv_aload_n hx hb dX10_scan_136 rfl (lv_at hl 1 rfl) ?_
                refine lv_bipush (v := 100) hx hb dX10_scan_137 (by decide) ?_
                refine lv_aload_n hx hb dX10_scan_139 rfl (lv_at hl 2 rfl) ?_
                refine lv_iload hx hb dX10_scan_140 (lv_at hl 6 rfl) ?_
                refine j7_ialdM hx hb hK hh_24 hB173 1 rfl (by decide) hg_r1 (x := v5_5.toInt) (rfl) (by omega) (j := 0) rfl dX10_scan_142 (fun z_90 ez_90 (hz_90 : True) => ?_)
                have hqz_90 : z_90.toInt = (f_l1_22 (v5_5.toInt).toNat).toInt := by rw [ez_90]
                refine lv_bipush (v := 48) hx hb dX10_scan_143 (by decide) ?_
                refine lv_isub hx hb dX10_scan_145 ?_
                refine lv_topi (fun z_91 ez_91 => ?_)
                have hz_91 : z_91.toInt = z_90.toInt - 48 := by rw [ez_91]; exact jb_isub2 (rfl) ((by decide)) (by omega)
                obtain ⟨v_94, hv_94, hh_95⟩ := hh_24.pin (C := RX10) (T := TX10) (N := 11) hB12 rfl (by decide) hg_r0 (i := 3) (by decide) rfl
                obtain ⟨tokens_96, rfl, hlotokens_96, hhitokens_96⟩ := hv_94
                refine va_callv (A0 := jA base) (H0 := s.heap) (va_runV (As := [.int 100, .int z_91]) (rest := []) ⟨hx, hb, hml, hown, hts⟩ (uX10_addB l dC dI ca base B hB hAp hB12 hB101 hB293 G0 H_24 r0 100 z_91 tokens_96) (cwV 2 hts (jgV (jWr_37 _ (List.mem_of_getElem? (i := 7) rfl)) (jWr_37 _ (List.mem_of_getElem? (i := 8) rfl)) (jWr_37 _ (List.mem_of_getElem? (i := 9) rfl)) (jWr_4 _ (List.mem_of_getElem? (i := 14) rfl)) (jWr_37 _ (List.mem_of_getElem? (i := 10) rfl))) rfl rfl rfl (by decide +kernel) ⟨by rw [← hR]; exact Nat.le_of_ble_eq_true rfl, by rw [← hR]; exact Nat.le_of_ble_eq_true rfl⟩) ⟨fun a U g mk q => by obtain ⟨q0, q1, q2, qK, q10, q11, q12⟩ := q; exact ⟨q0, q1, q2, jG.calling g mk a qK, q10, q11, q12⟩, hh_95.recv (C := RX10) (T := TX10) (N := 11) hB12 rfl (by decide) hg_r0 hK, fun U hU hW => ⟨rfl, hU, hh_95.2.1, hG.step hW hU hh_95.1, hg_r0, (hh_95.2.2.1.sub (L1 := [(r0, 12, 3, .int tokens_96)]) [0] rfl), by first | omega | (refine ⟨?_, ?_, ?_, ?_⟩ <;> (first | omega | rfl | assumption | decide | exact Or.inl rfl | exact Or.inr rfl | (simp only; omega)))⟩⟩ rfl rfl hl.1 rfl (lv_room (Nat.le_of_ble_eq_true rfl)) dX10_scan_146 ⟨Nat.zero_le _, Nat.zero_le _⟩) hh_95.1 (fun q _ h => h) (fun q h => h) (fun u_92 t_92 H_92 locs_92 ht_92 hvm_92 hr_93 hb_92 hz_92 hk_92 hS_92 => ?_)
                obtain ⟨qk_92, rfl⟩ : ∃ z, z = u_92 := ⟨_, rfl⟩
                rw [ht_92] at hb_92
                obtain ⟨hb_921, hb_922, hb_923, hb_924, hb_925⟩ := hb_92
                have hh_92 : jSt (dC, dI) B base G0 G0 EX10_scanBt9 s.heap 0 0 [(r0, 12, 3, .int qk_92)] [(r1, 173, n1, ca 1, f_l1_22)] [] H_92 locs_92 := ((hh_95.call hb_921 hb_922 hb_923 hb_924 hS_92 rfl (L1 := []) [] rfl rfl (M1 := [(r1, 173, n1, ca 1, f_l1_22)]) [0] rfl rfl (I1 := []) [] rfl rfl).more hb_925)
                clear hh_95 ht_92 hvm_92 hz_92 hk_92 hS_92 hb_921 hb_922 hb_923 hb_924 hb_925
                obtain ⟨hr_93_0, hr_93_1, hr_93_2⟩ := hr_93
                refine lv_goto (tgt := 226) hx hb dX10_scan_149 (by decide) ?_
                exact C226 z_10 z_10 _ _ (hh_92.sub (L1 := []) [] rfl (M1 := []) [] rfl (I1 := []) [] rfl) (by first | omega | (refine ⟨?_, ?_⟩ <;> (first | omega | rfl | assumption | decide | exact Or.inl rfl | exact Or.inr rfl | (simp only; omega)))) _ (lv_sub hl [1, 2, 3, 4, 5, 6, 0, 0] rfl)
            · skip
              have c_21' : z_20.toInt = 45 := jb_ne_n (rfl) ((by decide)) c_21
              refine lv_iload hx hb dX10_scan_90 (lv_at hl 6 rfl) ?_
              refine lv_iconst (v := 1) hx hb dX10_scan_92 (by decide) ?_
              refine lv_iadd hx hb dX10_scan_93 ?_
              refine lv_topi (fun z_97 ez_97 => ?_)
              have hz_97 : z_97.toInt = v5_5.toInt + 1 := by rw [ez_97]; exact jb_iadd2 (rfl) ((by decide)) (by omega)
              refine lv_iload hx hb dX10_scan_94 (lv_at hl 5 rfl) ?_
              refine lv_icmp_ge (tgt := 126) hx hb dX10_scan_96 (by decide) (fun c_98 => ?_) (fun c_98 => ?_)
              · skip
                have c_98' : z_97.toInt ≥ z_3.toInt := jb_ge (rfl) (rfl) c_98
                obtain ⟨f_l1_99, hh_99⟩ := hh_11.cpin hB173 (by decide) (by decide) hg_r1
                clear hh_11
                refine lv_aload_n hx hb dX10_scan_126 rfl (lv_at hl 2 rfl) ?_
                refine lv_iload hx hb dX10_scan_127 (lv_at hl 6 rfl) ?_
                refine j7_ialdM hx hb hK hh_99 hB173 1 rfl (by decide) hg_r1 (x := v5_5.toInt) (rfl) (by omega) (j := 0) rfl dX10_scan_129 (fun z_100 ez_100 (hz_100 : True) => ?_)
                have hqz_100 : z_100.toInt = (f_l1_99 (v5_5.toInt).toNat).toInt := by rw [ez_100]
                refine va_calli (A0 := jA base) (H0 := s.heap) (va_runSN (As := [.int z_100]) (rest := []) ⟨hx, hb, hml, hown, hts⟩ (uX11_isDigitB l dC dI ca base B hB hAp G0 H_11 z_100) ⟨va_cnB 1 hts (jgW (jWr_22 _ (List.mem_of_getElem? (i := 15) rfl))) rfl rfl rfl (hG.2.2.1 RX10 60 yX11_isDigit "ProofServer" (List.mem_of_getElem? (i := 1150) (by decide +kernel))) (htw (.initialized RX11) (jWr_1 _ (List.mem_of_getElem? (i := 2) rfl))) (by decide +kernel) ⟨by rw [← hR]; exact Nat.le_of_ble_eq_true rfl, by rw [← hR]; exact Nat.le_of_ble_eq_true rfl⟩, htw (.static yX11_isDigit) (jWr_22 _ (List.mem_of_getElem? (i := 14) rfl)), trivial⟩ ⟨fun a U g mk q => by obtain ⟨q0, q1, q2, qK, q10, q11⟩ := q; exact ⟨q0, q1, q2, jG.calling g mk a qK, q10, q11⟩, fun U hU hW => ⟨rfl, hU, hh_99.2.1, hG.step hW hU hh_99.1, jP.nil, trivial⟩⟩ rfl rfl hl.1 rfl (lv_room (Nat.le_of_ble_eq_true rfl)) dX10_scan_130 ⟨Nat.zero_le _, Nat.zero_le _⟩) hh_99.1 (fun q _ h => h) (fun q h => h) (fun r_102 u_101 t_101 H_101 locs_101 ht_101 hvm_101 hr_102 hb_101 hz_101 hk_101 hS_101 => ?_)
                rw [ht_101] at hb_101
                obtain ⟨hb_1011, hb_1012, hb_1013, hb_1014, hb_1015⟩ := hb_101
                have hh_101 : jSt (dC, dI) B base G0 G0 EX10_scanBt9 s.heap 0 0 [] [(r1, 173, n1, ca 1, f_l1_99)] [] H_101 locs_101 := ((hh_99.call hb_1011 hb_1012 hb_1013 hb_1014 hS_101 rfl (L1 := []) [] rfl rfl (M1 := [(r1, 173, n1, ca 1, f_l1_99)]) [0] rfl rfl (I1 := []) [] rfl rfl).more hb_1015)
                clear hh_99 ht_101 hvm_101 hz_101 hk_101 hS_101 hb_1011 hb_1012 hb_1013 hb_1014 hb_1015
                obtain ⟨hr_102b, hr_102p⟩ := hr_102
                have hr_102' := jb_01 hr_102b
                refine lv_if_eq (tgt := 152) hx hb dX10_scan_133 (by decide) (fun c_103 => ?_) (fun c_103 => ?_)
                · skip
                  have c_103' : r_102.toInt = 0 := jb_eq (rfl) ((by decide)) c_103
                  first | (have hr_102pq := hr_102p.resolve_left (by omega); clear hr_102p) | (have hr_102pq := hr_102p.resolve_right (by omega); clear hr_102p) | try clear hr_102p
                  refine lv_aload_n hx hb dX10_scan_152 rfl (lv_at hl 2 rfl) ?_
                  refine lv_iload hx hb dX10_scan_153 (lv_at hl 6 rfl) ?_
                  refine j7_ialdM hx hb hK hh_101 hB173 1 rfl (by decide) hg_r1 (x := v5_5.toInt) (rfl) (by omega) (j := 0) rfl dX10_scan_155 (fun z_104 ez_104 (hz_104 : True) => ?_)
                  have hqz_104 : z_104.toInt = (f_l1_99 (v5_5.toInt).toNat).toInt := by rw [ez_104]
                  refine vp_callSi (va_Run.run (va_runSN (As := [.int z_104]) (rest := []) ⟨hx, hb, hml, hown, hts⟩ (wX11_isBlank l dC dI ca base H_101 z_104) ⟨va_cnB 1 hts (jgW (jWr_20 _ (List.mem_of_getElem? (i := 0) rfl))) rfl rfl rfl (hG.2.2.1 RX10 63 yX11_isBlank "ProofServer" (List.mem_of_getElem? (i := 1151) (by decide +kernel))) (htw (.initialized RX11) (jWr_1 _ (List.mem_of_getElem? (i := 2) rfl))) (by decide +kernel) ⟨by rw [← hR]; exact Nat.le_of_ble_eq_true rfl, by rw [← hR]; exact Nat.le_of_ble_eq_true rfl⟩, htw (.static yX11_isBlank) (jWr_19 _ (List.mem_of_getElem? (i := 23) rfl)), trivial⟩ ⟨fun a U g mk q => by obtain ⟨q0, q1, qK, q9⟩ := q; exact ⟨q0, q1, jG.calling g mk a qK, q9⟩, fun U hU hW => ⟨rfl, hU, hG.step hW hU hh_101.1, by first | trivial | omega | (constructor <;> omega)⟩⟩ rfl rfl hl.1 rfl (lv_room (Nat.le_of_ble_eq_true rfl)) dX10_scan_156 ⟨Nat.zero_le _, Nat.zero_le _⟩)) (fun r_105 hr_105 => ?_)
                  have hr_105' : r_105.toInt = 0 ∨ r_105.toInt = 1 := jb_01 hr_105
                  refine lv_if_ne (tgt := 226) hx hb dX10_scan_159 (by decide) (fun c_106 => ?_) (fun c_106 => ?_)
                  · skip
                    have c_106' : r_105.toInt ≠ 0 := jb_ne (rfl) ((by decide)) c_106
                    exact C226 z_10 z_10 _ _ (hh_101.sub (L1 := []) [] rfl (M1 := []) [] rfl (I1 := []) [] rfl) (by first | omega | (refine ⟨?_, ?_⟩ <;> (first | omega | rfl | assumption | decide | exact Or.inl rfl | exact Or.inr rfl | (simp only; omega)))) _ (lv_sub hl [1, 2, 3, 4, 5, 6, 0, 0] rfl)
                  · skip
                    have c_106' : r_105.toInt = 0 := jb_ne_n (rfl) ((by decide)) c_106
                    refine lv_aload_n hx hb dX10_scan_162 rfl (lv_at hl 2 rfl) ?_
                    refine lv_iload hx hb dX10_scan_163 (lv_at hl 6 rfl) ?_
                    refine j7_ialdM hx hb hK hh_101 hB173 1 rfl (by decide) hg_r1 (x := v5_5.toInt) (rfl) (by omega) (j := 0) rfl dX10_scan_165 (fun z_107 ez_107 (hz_107 : True) => ?_)
                    have hqz_107 : z_107.toInt = (f_l1_99 (v5_5.toInt).toNat).toInt := by rw [ez_107]
                    refine lv_bipush (v := 46) hx hb dX10_scan_166 (by decide) ?_
                    refine lv_icmp_ne (tgt := 178) hx hb dX10_scan_168 (by decide) (fun c_108 => ?_) (fun c_108 => ?_)
                    · skip
                      have c_108' : z_107.toInt ≠ 46 := jb_ne (rfl) ((by decide)) c_108
                      refine lv_aload_n hx hb dX10_scan_178 rfl (lv_at hl 2 rfl) ?_
                      refine lv_iload hx hb dX10_scan_179 (lv_at hl 6 rfl) ?_
                      refine j7_ialdM hx hb hK hh_101 hB173 1 rfl (by decide) hg_r1 (x := v5_5.toInt) (rfl) (by omega) (j := 0) rfl dX10_scan_181 (fun z_109 ez_109 (hz_109 : True) => ?_)
                      have hqz_109 : z_109.toInt = (f_l1_99 (v5_5.toInt).toNat).toInt := by rw [ez_109]
                      refine lv_sipush (v := 128) hx hb dX10_scan_182 (by decide) ?_
                      refine lv_icmp_ge (tgt := 205) hx hb dX10_scan_185 (by decide) (fun c_110 => ?_) (fun c_110 => ?_)
                      · skip
                        have c_110' : z_109.toInt ≥ 128 := jb_ge (rfl) ((by decide)) c_110
                        refine lv_iconst (v := 0) hx hb dX10_scan_205 (by decide) ?_
                        refine lv_istore (lv' := [(7, .int 0), (6, .int z_10), (0, .ref r0), (1, .ref r1), (2, .int a2), (3, .int a3), (4, .int z_3), (5, .int v5_5)]) hx hb dX10_scan_206 hl (by decide) rfl (fun ls hl => ?_)
                        refine lv_aload_n hx hb dX10_scan_208 rfl (lv_at hl 2 rfl) ?_
                        refine lv_iload hx hb dX10_scan_209 (lv_at hl 0 rfl) ?_
                        refine lv_if_eq (tgt := 221) hx hb dX10_scan_211 (by decide) (fun c_111 => ?_) (fun c_111 => ?_)
                        · skip
                          refine lv_iconst (v := 0) hx hb dX10_scan_221 (by decide) ?_
                          refine lv_iconst (v := 0) hx hb dX10_scan_222 (by decide) ?_
                          obtain ⟨v_114, hv_114, hh_115⟩ := hh_101.pin (C := RX10) (T := TX10) (N := 11) hB12 rfl (by decide) hg_r0 (i := 3) (by decide) rfl
                          obtain ⟨tokens_116, rfl, hlotokens_116, hhitokens_116⟩ := hv_114
                          refine va_callv (A0 := jA base) (H0 := s.heap) (va_runV (As := [.int 0, .int 0]) (rest := []) ⟨hx, hb, hml, hown, hts⟩ (uX10_addB l dC dI ca base B hB hAp hB12 hB101 hB293 G0 H_101 r0 0 0 tokens_116) (cwV 2 hts (jgV (jWr_37 _ (List.mem_of_getElem? (i := 7) rfl)) (jWr_37 _ (List.mem_of_getElem? (i := 8) rfl)) (jWr_37 _ (List.mem_of_getElem? (i := 9) rfl)) (jWr_4 _ (List.mem_of_getElem? (i := 14) rfl)) (jWr_37 _ (List.mem_of_getElem? (i := 10) rfl))) rfl rfl rfl (by decide +kernel) ⟨by rw [← hR]; exact Nat.le_of_ble_eq_true rfl, by rw [← hR]; exact Nat.le_of_ble_eq_true rfl⟩) ⟨fun a U g mk q => by obtain ⟨q0, q1, q2, qK, q10, q11, q12⟩ := q; exact ⟨q0, q1, q2, jG.calling g mk a qK, q10, q11, q12⟩, hh_115.recv (C := RX10) (T := TX10) (N := 11) hB12 rfl (by decide) hg_r0 hK, fun U hU hW => ⟨rfl, hU, hh_115.2.1, hG.step hW hU hh_115.1, hg_r0, (hh_115.2.2.1.sub (L1 := [(r0, 12, 3, .int tokens_116)]) [0] rfl), by first | omega | (refine ⟨?_, ?_, ?_, ?_⟩ <;> (first | omega | rfl | assumption | decide | exact Or.inl rfl | exact Or.inr rfl | (simp only; omega)))⟩⟩ rfl rfl hl.1 rfl (lv_room (Nat.le_of_ble_eq_true rfl)) dX10_scan_223 ⟨Nat.zero_le _, Nat.zero_le _⟩) hh_115.1 (fun q _ h => h) (fun q h => h) (fun u_112 t_112 H_112 locs_112 ht_112 hvm_112 hr_113 hb_112 hz_112 hk_112 hS_112 => ?_)
                          obtain ⟨qk_112, rfl⟩ : ∃ z, z = u_112 := ⟨_, rfl⟩
                          rw [ht_112] at hb_112
                          obtain ⟨hb_1121, hb_1122, hb_1123, hb_1124, hb_1125⟩ := hb_112
                          have hh_112 : jSt (dC, dI) B base G0 G0 EX10_scanBt9 s.heap 0 0 [(r0, 12, 3, .int qk_112)] [(r1, 173, n1, ca 1, f_l1_99)] [] H_112 locs_112 := ((hh_115.call hb_1121 hb_1122 hb_1123 hb_1124 hS_112 rfl (L1 := []) [] rfl rfl (M1 := [(r1, 173, n1, ca 1, f_l1_99)]) [0] rfl rfl (I1 := []) [] rfl rfl).more hb_1125)
                          clear hh_115 ht_112 hvm_112 hz_112 hk_112 hS_112 hb_1121 hb_1122 hb_1123 hb_1124 hb_1125
                          obtain ⟨hr_113_0, hr_113_1, hr_113_2⟩ := hr_113
                          exact C226 z_10 z_10 _ _ (hh_112.sub (L1 := []) [] rfl (M1 := []) [] rfl (I1 := []) [] rfl) (by first | omega | (refine ⟨?_, ?_⟩ <;> (first | omega | rfl | assumption | decide | exact Or.inl rfl | exact Or.inr rfl | (simp only; omega)))) _ (lv_sub hl [2, 3, 4, 5, 6, 7, 1, 1] rfl)
                        · skip
                          exact absurd c_111 (by decide)
                      · skip
                        have c_110' : z_109.toInt < 128 := jb_ge_n (rfl) ((by decide)) c_110
                        refine va_ldcS hx hb hown rstr66 dX10_scan_188 ?_
                        refine lv_aload_n hx hb dX10_scan_190 rfl (lv_at hl 2 rfl) ?_
                        refine lv_iload hx hb dX10_scan_191 (lv_at hl 6 rfl) ?_
                        refine j7_ialdM hx hb hK hh_101 hB173 1 rfl (by decide) hg_r1 (x := v5_5.toInt) (rfl) (by omega) (j := 0) rfl dX10_scan_193 (fun z_117 ez_117 (hz_117 : True) => ?_)
                        have hqz_117 : z_117.toInt = (f_l1_99 (v5_5.toInt).toNat).toInt := by rw [ez_117]
                        refine lv_i2c hx hb dX10_scan_194 rfl ?_
                        refine lv_topi (fun z_118 ez_118 => ?_)
                        refine vp_callSi (W.runV (As := [.int z_118]) (rest := []) ⟨hx, hb, hml, hown, hts⟩ (wJ0_indexOf_0f7a4 l dC dI ca base H_101 str66 8 z_118) (cwV 1 hts (jgV (jWr_37 _ (List.mem_of_getElem? (i := 11) rfl)) (jWr_37 _ (List.mem_of_getElem? (i := 12) rfl)) (jWr_37 _ (List.mem_of_getElem? (i := 13) rfl)) (jWr_5 _ (List.mem_of_getElem? (i := 15) rfl)) (jWr_37 _ (List.mem_of_getElem? (i := 14) rfl))) rfl rfl rfl (by decide +kernel) ⟨by rw [← hR]; exact Nat.le_of_ble_eq_true rfl, by rw [← hR]; exact Nat.le_of_ble_eq_true rfl⟩) ⟨fun a U g mk q => by obtain ⟨q0, q1, q2, qK, q9⟩ := q; exact ⟨q0, q1, (q2.moved (Vm.Alike.refl U.vm)), jG.calling g mk a qK, q9⟩, jStr_recv hstr66 hh_101.1, fun U hU hW => ⟨rfl, hU, (hstr66.moved hW.alike).kept hh_101.1.2.1, hG.step hW hU hh_101.1, by omega⟩⟩ rfl rfl hl.1 rfl (lv_room (Nat.le_of_ble_eq_true rfl)) dX10_scan_195 ⟨Nat.zero_le _, Nat.zero_le _⟩) (fun r_119 hr_119 => ?_)
                        refine lv_if_lt (tgt := 205) hx hb dX10_scan_198 (by decide) (fun c_120 => ?_) (fun c_120 => ?_)
                        · skip
                          have c_120' : r_119.toInt < 0 := jb_lt (rfl) ((by decide)) c_120
                          refine lv_iconst (v := 0) hx hb dX10_scan_205 (by decide) ?_
                          refine lv_istore (lv' := [(7, .int 0), (6, .int z_10), (0, .ref r0), (1, .ref r1), (2, .int a2), (3, .int a3), (4, .int z_3), (5, .int v5_5)]) hx hb dX10_scan_206 hl (by decide) rfl (fun ls hl => ?_)
                          refine lv_aload_n hx hb dX10_scan_208 rfl (lv_at hl 2 rfl) ?_
                          refine lv_iload hx hb dX10_scan_209 (lv_at hl 0 rfl) ?_
                          refine lv_if_eq (tgt := 221) hx hb dX10_scan_211 (by decide) (fun c_121 => ?_) (fun c_121 => ?_)
                          · skip
                            refine lv_iconst (v := 0) hx hb dX10_scan_221 (by decide) ?_
                            refine lv_iconst (v := 0) hx hb dX10_scan_222 (by decide) ?_
                            obtain ⟨v_124, hv_124, hh_125⟩ := hh_101.pin (C := RX10) (T := TX10) (N := 11) hB12 rfl (by decide) hg_r0 (i := 3) (by decide) rfl
                            obtain ⟨tokens_126, rfl, hlotokens_126, hhitokens_126⟩ := hv_124
                            refine va_callv (A0 := jA base) (H0 := s.heap) (va_runV (As := [.int 0, .int 0]) (rest := []) ⟨hx, hb, hml, hown, hts⟩ (uX10_addB l dC dI ca base B hB hAp hB12 hB101 hB293 G0 H_101 r0 0 0 tokens_126) (cwV 2 hts (jgV (jWr_37 _ (List.mem_of_getElem? (i := 7) rfl)) (jWr_37 _ (List.mem_of_getElem? (i := 8) rfl)) (jWr_37 _ (List.mem_of_getElem? (i := 9) rfl)) (jWr_4 _ (List.mem_of_getElem? (i := 14) rfl)) (jWr_37 _ (List.mem_of_getElem? (i := 10) rfl))) rfl rfl rfl (by decide +kernel) ⟨by rw [← hR]; exact Nat.le_of_ble_eq_true rfl, by rw [← hR]; exact Nat.le_of_ble_eq_true rfl⟩) ⟨fun a U g mk q => by obtain ⟨q0, q1, q2, qK, q10, q11, q12⟩ := q; exact ⟨q0, q1, q2, jG.calling g mk a qK, q10, q11, q12⟩, hh_125.recv (C := RX10) (T := TX10) (N := 11) hB12 rfl (by decide) hg_r0 hK, fun U hU hW => ⟨rfl, hU, hh_125.2.1, hG.step hW hU hh_125.1, hg_r0, (hh_125.2.2.1.sub (L1 := [(r0, 12, 3, .int tokens_126)]) [0] rfl), by first | omega | (refine ⟨?_, ?_, ?_, ?_⟩ <;> (first | omega | rfl | assumption | decide | exact Or.inl rfl | exact Or.inr rfl | (simp only; omega)))⟩⟩ rfl rfl hl.1 rfl (lv_room (Nat.le_of_ble_eq_true rfl)) dX10_scan_223 ⟨Nat.zero_le _, Nat.zero_le _⟩) hh_125.1 (fun q _ h => h) (fun q h => h) (fun u_122 t_122 H_122 locs_122 ht_122 hvm_122 hr_123 hb_122 hz_122 hk_122 hS_122 => ?_)
                            obtain ⟨qk_122, rfl⟩ : ∃ z, z = u_122 := ⟨_, rfl⟩
                            rw [ht_122] at hb_122
                            obtain ⟨hb_1221, hb_1222, hb_1223, hb_1224, hb_1225⟩ := hb_122
                            have hh_122 : jSt (dC, dI) B base G0 G0 EX10_scanBt9 s.heap 0 0 [(r0, 12, 3, .int qk_122)] [(r1, 173, n1, ca 1, f_l1_99)] [] H_122 locs_122 := ((hh_125.call hb_1221 hb_1222 hb_1223 hb_1224 hS_122 rfl (L1 := []) [] rfl rfl (M1 := [(r1, 173, n1, ca 1, f_l1_99)]) [0] rfl rfl (I1 := []) [] rfl rfl).more hb_1225)
                            clear hh_125 ht_122 hvm_122 hz_122 hk_122 hS_122 hb_1221 hb_1222 hb_1223 hb_1224 hb_1225
                            obtain ⟨hr_123_0, hr_123_1, hr_123_2⟩ := hr_123
                            exact C226 z_10 z_10 _ _ (hh_122.sub (L1 := []) [] rfl (M1 := []) [] rfl (I1 := []) [] rfl) (by first | omega | (refine ⟨?_, ?_⟩ <;> (first | omega | rfl | assumption | decide | exact Or.inl rfl | exact Or.inr rfl | (simp only; omega)))) _ (lv_sub hl [2, 3, 4, 5, 6, 7, 1, 1] rfl)
                          · skip
                            exact absurd c_121 (by decide)
                        · skip
                          have c_120' : r_119.toInt ≥ 0 := jb_lt_n (rfl) ((by decide)) c_120
                          refine lv_iconst (v := 1) hx hb dX10_scan_201 (by decide) ?_
                          refine lv_goto (tgt := 206) hx hb dX10_scan_202 (by decide) ?_
                          refine lv_istore (lv' := [(7, .int 1), (6, .int z_10), (0, .ref r0), (1, .ref r1), (2, .int a2), (3, .int a3), (4, .int z_3), (5, .int v5_5)]) hx hb dX10_scan_206 hl (by decide) rfl (fun ls hl => ?_)
                          refine lv_aload_n hx hb dX10_scan_208 rfl (lv_at hl 2 rfl) ?_
                          refine lv_iload hx hb dX10_scan_209 (lv_at hl 0 rfl) ?_
                          refine lv_if_eq (tgt := 221) hx hb dX10_scan_211 (by decide) (fun c_127 => ?_) (fun c_127 => ?_)
                          · skip
                            exact absurd c_127 (by decide)
                          · skip
                            refine lv_aload_n hx hb dX10_scan_214 rfl (lv_at hl 3 rfl) ?_
                            refine lv_iload hx hb dX10_scan_215 (lv_at hl 7 rfl) ?_
                            refine j7_ialdM hx hb hK hh_101 hB173 1 rfl (by decide) hg_r1 (x := v5_5.toInt) (rfl) (by omega) (j := 0) rfl dX10_scan_217 (fun z_128 ez_128 (hz_128 : True) => ?_)
                            have hqz_128 : z_128.toInt = (f_l1_99 (v5_5.toInt).toNat).toInt := by rw [ez_128]
                            refine lv_goto (tgt := 222) hx hb dX10_scan_218 (by decide) ?_
                            refine lv_iconst (v := 0) hx hb dX10_scan_222 (by decide) ?_
                            obtain ⟨v_131, hv_131, hh_132⟩ := hh_101.pin (C := RX10) (T := TX10) (N := 11) hB12 rfl (by decide) hg_r0 (i := 3) (by decide) rfl
                            obtain ⟨tokens_133, rfl, hlotokens_133, hhitokens_133⟩ := hv_131
                            refine va_callv (A0 := jA base) (H0 := s.heap) (va_runV (As := [.int z_128, .int 0]) (rest := []) ⟨hx, hb, hml, hown, hts⟩ (uX10_addB l dC dI ca base B hB hAp hB12 hB101 hB293 G0 H_101 r0 z_128 0 tokens_133) (cwV 2 hts (jgV (jWr_37 _ (List.mem_of_getElem? (i := 7) rfl)) (jWr_37 _ (List.mem_of_getElem? (i := 8) rfl)) (jWr_37 _ (List.mem_of_getElem? (i := 9) rfl)) (jWr_4 _ (List.mem_of_getElem? (i := 14) rfl)) (jWr_37 _ (List.mem_of_getElem? (i := 10) rfl))) rfl rfl rfl (by decide +kernel) ⟨by rw [← hR]; exact Nat.le_of_ble_eq_true rfl, by rw [← hR]; exact Nat.le_of_ble_eq_true rfl⟩) ⟨fun a U g mk q => by obtain ⟨q0, q1, q2, qK, q10, q11, q12⟩ := q; exact ⟨q0, q1, q2, jG.calling g mk a qK, q10, q11, q12⟩, hh_132.recv (C := RX10) (T := TX10) (N := 11) hB12 rfl (by decide) hg_r0 hK, fun U hU hW => ⟨rfl, hU, hh_132.2.1, hG.step hW hU hh_132.1, hg_r0, (hh_132.2.2.1.sub (L1 := [(r0, 12, 3, .int tokens_133)]) [0] rfl), by first | omega | (refine ⟨?_, ?_, ?_, ?_⟩ <;> (first | omega | rfl | assumption | decide | exact Or.inl rfl | exact Or.inr rfl | (simp only; omega)))⟩⟩ rfl rfl hl.1 rfl (lv_room (Nat.le_of_ble_eq_true rfl)) dX10_scan_223 ⟨Nat.zero_le _, Nat.zero_le _⟩) hh_132.1 (fun q _ h => h) (fun q h => h) (fun u_129 t_129 H_129 locs_129 ht_129 hvm_129 hr_130 hb_129 hz_129 hk_129 hS_129 => ?_)
                            obtain ⟨qk_129, rfl⟩ : ∃ z, z = u_129 := ⟨_, rfl⟩
                            rw [ht_129] at hb_129
                            obtain ⟨hb_1291, hb_1292, hb_1293, hb_1294, hb_1295⟩ := hb_129
                            have hh_129 : jSt (dC, dI) B base G0 G0 EX10_scanBt9 s.heap 0 0 [(r0, 12, 3, .int qk_129)] [(r1, 173, n1, ca 1, f_l1_99)] [] H_129 locs_129 := ((hh_132.call hb_1291 hb_1292 hb_1293 hb_1294 hS_129 rfl (L1 := []) [] rfl rfl (M1 := [(r1, 173, n1, ca 1, f_l1_99)]) [0] rfl rfl (I1 := []) [] rfl rfl).more hb_1295)
                            clear hh_132 ht_129 hvm_129 hz_129 hk_129 hS_129 hb_1291 hb_1292 hb_1293 hb_1294 hb_1295
                            obtain ⟨hr_130_0, hr_130_1, hr_130_2⟩ := hr_130
                            exact C226 z_10 z_10 _ _ (hh_129.sub (L1 := []) [] rfl (M1 := []) [] rfl (I1 := []) [] rfl) (by first | omega | (refine ⟨?_, ?_⟩ <;> (first | omega | rfl | assumption | decide | exact Or.inl rfl | exact Or.inr rfl | (simp only; omega)))) _ (lv_sub hl [2, 3, 4, 5, 6, 7, 1, 1] rfl)
                    · skip
                      have c_108' : z_107.toInt = 46 := jb_ne_n (rfl) ((by decide)) c_108
                      refine lv_iload hx hb dX10_scan_171 (lv_at hl 0 rfl) ?_
                      refine lv_iload hx hb dX10_scan_173 (lv_at hl 5 rfl) ?_
                      refine lv_icmp_eq (tgt := 201) hx hb dX10_scan_175 (by decide) (fun c_134 => ?_) (fun c_134 => ?_)
                      · skip
                        have c_134' : z_10.toInt = z_3.toInt := jb_eq (rfl) (rfl) c_134
                        refine lv_iconst (v := 1) hx hb dX10_scan_201 (by decide) ?_
                        refine lv_goto (tgt := 206) hx hb dX10_scan_202 (by decide) ?_
                        refine lv_istore (lv' := [(7, .int 1), (6, .int z_10), (0, .ref r0), (1, .ref r1), (2, .int a2), (3, .int a3), (4, .int z_3), (5, .int v5_5)]) hx hb dX10_scan_206 hl (by decide) rfl (fun ls hl => ?_)
                        refine lv_aload_n hx hb dX10_scan_208 rfl (lv_at hl 2 rfl) ?_
                        refine lv_iload hx hb dX10_scan_209 (lv_at hl 0 rfl) ?_
                        refine lv_if_eq (tgt := 221) hx hb dX10_scan_211 (by decide) (fun c_135 => ?_) (fun c_135 => ?_)
                        · skip
                          exact absurd c_135 (by decide)
                        · skip
                          refine lv_aload_n hx hb dX10_scan_214 rfl (lv_at hl 3 rfl) ?_
                          refine lv_iload hx hb dX10_scan_215 (lv_at hl 7 rfl) ?_
                          refine j7_ialdM hx hb hK hh_101 hB173 1 rfl (by decide) hg_r1 (x := v5_5.toInt) (rfl) (by omega) (j := 0) rfl dX10_scan_217 (fun z_136 ez_136 (hz_136 : True) => ?_)
                          have hqz_136 : z_136.toInt = (f_l1_99 (v5_5.toInt).toNat).toInt := by rw [ez_136]
                          refine lv_goto (tgt := 222) hx hb dX10_scan_218 (by decide) ?_
                          refine lv_iconst (v := 0) hx hb dX10_scan_222 (by decide) ?_
                          obtain ⟨v_139, hv_139, hh_140⟩ := hh_101.pin (C := RX10) (T := TX10) (N := 11) hB12 rfl (by decide) hg_r0 (i := 3) (by decide) rfl
                          obtain ⟨tokens_141, rfl, hlotokens_141, hhitokens_141⟩ := hv_139
                          refine va_callv (A0 := jA base) (H0 := s.heap) (va_runV (As := [.int z_136, .int 0]) (rest := []) ⟨hx, hb, hml, hown, hts⟩ (uX10_addB l dC dI ca base B hB hAp hB12 hB101 hB293 G0 H_101 r0 z_136 0 tokens_141) (cwV 2 hts (jgV (jWr_37 _ (List.mem_of_getElem? (i := 7) rfl)) (jWr_37 _ (List.mem_of_getElem? (i := 8) rfl)) (jWr_37 _ (List.mem_of_getElem? (i := 9) rfl)) (jWr_4 _ (List.mem_of_getElem? (i := 14) rfl)) (jWr_37 _ (List.mem_of_getElem? (i := 10) rfl))) rfl rfl rfl (by decide +kernel) ⟨by rw [← hR]; exact Nat.le_of_ble_eq_true rfl, by rw [← hR]; exact Nat.le_of_ble_eq_true rfl⟩) ⟨fun a U g mk q => by obtain ⟨q0, q1, q2, qK, q10, q11, q12⟩ := q; exact ⟨q0, q1, q2, jG.calling g mk a qK, q10, q11, q12⟩, hh_140.recv (C := RX10) (T := TX10) (N := 11) hB12 rfl (by decide) hg_r0 hK, fun U hU hW => ⟨rfl, hU, hh_140.2.1, hG.step hW hU hh_140.1, hg_r0, (hh_140.2.2.1.sub (L1 := [(r0, 12, 3, .int tokens_141)]) [0] rfl), by first | omega | (refine ⟨?_, ?_, ?_, ?_⟩ <;> (first | omega | rfl | assumption | decide | exact Or.inl rfl | exact Or.inr rfl | (simp only; omega)))⟩⟩ rfl rfl hl.1 rfl (lv_room (Nat.le_of_ble_eq_true rfl)) dX10_scan_223 ⟨Nat.zero_le _, Nat.zero_le _⟩) hh_140.1 (fun q _ h => h) (fun q h => h) (fun u_137 t_137 H_137 locs_137 ht_137 hvm_137 hr_138 hb_137 hz_137 hk_137 hS_137 => ?_)
                          obtain ⟨qk_137, rfl⟩ : ∃ z, z = u_137 := ⟨_, rfl⟩
                          rw [ht_137] at hb_137
                          obtain ⟨hb_1371, hb_1372, hb_1373, hb_1374, hb_1375⟩ := hb_137
                          have hh_137 : jSt (dC, dI) B base G0 G0 EX10_scanBt9 s.heap 0 0 [(r0, 12, 3, .int qk_137)] [(r1, 173, n1, ca 1, f_l1_99)] [] H_137 locs_137 := ((hh_140.call hb_1371 hb_1372 hb_1373 hb_1374 hS_137 rfl (L1 := []) [] rfl rfl (M1 := [(r1, 173, n1, ca 1, f_l1_99)]) [0] rfl rfl (I1 := []) [] rfl rfl).more hb_1375)
                          clear hh_140 ht_137 hvm_137 hz_137 hk_137 hS_137 hb_1371 hb_1372 hb_1373 hb_1374 hb_1375
                          obtain ⟨hr_138_0, hr_138_1, hr_138_2⟩ := hr_138
                          exact C226 z_10 z_10 _ _ (hh_137.sub (L1 := []) [] rfl (M1 := []) [] rfl (I1 := []) [] rfl) (by first | omega | (refine ⟨?_, ?_⟩ <;> (first | omega | rfl | assumption | decide | exact Or.inl rfl | exact Or.inr rfl | (simp only; omega)))) _ (lv_sub hl [2, 3, 4, 5, 6, 7, 1, 1] rfl)
                      · skip
                        have c_134' : z_10.toInt ≠ z_3.toInt := jb_eq_n (rfl) (rfl) c_134
                        refine lv_aload_n hx hb dX10_scan_178 rfl (lv_at hl 2 rfl) ?_
                        refine lv_iload hx hb dX10_scan_179 (lv_at hl 6 rfl) ?_
                        refine j7_ialdM hx hb hK hh_101 hB173 1 rfl (by decide) hg_r1 (x := v5_5.toInt) (rfl) (by omega) (j := 0) rfl dX10_scan_181 (fun z_142 ez_142 (hz_142 : True) => ?_)
                        have hqz_142 : z_142.toInt = (f_l1_99 (v5_5.toInt).toNat).toInt := by rw [ez_142]
                        refine lv_sipush (v := 128) hx hb dX10_scan_182 (by decide) ?_
                        refine lv_icmp_ge (tgt := 205) hx hb dX10_scan_185 (by decide) (fun c_143 => ?_) (fun c_143 => ?_)
                        · skip
                          have c_143' : z_142.toInt ≥ 128 := jb_ge (rfl) ((by decide)) c_143
                          refine lv_iconst (v := 0) hx hb dX10_scan_205 (by decide) ?_
                          refine lv_istore (lv' := [(7, .int 0), (6, .int z_10), (0, .ref r0), (1, .ref r1), (2, .int a2), (3, .int a3), (4, .int z_3), (5, .int v5_5)]) hx hb dX10_scan_206 hl (by decide) rfl (fun ls hl => ?_)
                          refine lv_aload_n hx hb dX10_scan_208 rfl (lv_at hl 2 rfl) ?_
                          refine lv_iload hx hb dX10_scan_209 (lv_at hl 0 rfl) ?_
                          refine lv_if_eq (tgt := 221) hx hb dX10_scan_211 (by decide) (fun c_144 => ?_) (fun c_144 => ?_)
                          · skip
                            refine lv_iconst (v := 0) hx hb dX10_scan_221 (by decide) ?_
                            refine lv_iconst (v := 0) hx hb dX10_scan_222 (by decide) ?_
                            obtain ⟨v_147, hv_147, hh_148⟩ := hh_101.pin (C := RX10) (T := TX10) (N := 11) hB12 rfl (by decide) hg_r0 (i := 3) (by decide) rfl
                            obtain ⟨tokens_149, rfl, hlotokens_149, hhitokens_149⟩ := hv_147
                            refine va_callv (A0 := jA base) (H0 := s.heap) (va_runV (As := [.int 0, .int 0]) (rest := []) ⟨hx, hb, hml, hown, hts⟩ (uX10_addB l dC dI ca base B hB hAp hB12 hB101 hB293 G0 H_101 r0 0 0 tokens_149) (cwV 2 hts (jgV (jWr_37 _ (List.mem_of_getElem? (i := 7) rfl)) (jWr_37 _ (List.mem_of_getElem? (i := 8) rfl)) (jWr_37 _ (List.mem_of_getElem? (i := 9) rfl)) (jWr_4 _ (List.mem_of_getElem? (i := 14) rfl)) (jWr_37 _ (List.mem_of_getElem? (i := 10) rfl))) rfl rfl rfl (by decide +kernel) ⟨by rw [← hR]; exact Nat.le_of_ble_eq_true rfl, by rw [← hR]; exact Nat.le_of_ble_eq_true rfl⟩) ⟨fun a U g mk q => by obtain ⟨q0, q1, q2, qK, q10, q11, q12⟩ := q; exact ⟨q0, q1, q2, jG.calling g mk a qK, q10, q11, q12⟩, hh_148.recv (C := RX10) (T := TX10) (N := 11) hB12 rfl (by decide) hg_r0 hK, fun U hU hW => ⟨rfl, hU, hh_148.2.1, hG.step hW hU hh_148.1, hg_r0, (hh_148.2.2.1.sub (L1 := [(r0, 12, 3, .int tokens_149)]) [0] rfl), by first | omega | (refine ⟨?_, ?_, ?_, ?_⟩ <;> (first | omega | rfl | assumption | decide | exact Or.inl rfl | exact Or.inr rfl | (simp only; omega)))⟩⟩ rfl rfl hl.1 rfl (lv_room (Nat.le_of_ble_eq_true rfl)) dX10_scan_223 ⟨Nat.zero_le _, Nat.zero_le _⟩) hh_148.1 (fun q _ h => h) (fun q h => h) (fun u_145 t_145 H_145 locs_145 ht_145 hvm_145 hr_146 hb_145 hz_145 hk_145 hS_145 => ?_)
                            obtain ⟨qk_145, rfl⟩ : ∃ z, z = u_145 := ⟨_, rfl⟩
                            rw [ht_145] at hb_145
                            obtain ⟨hb_1451, hb_1452, hb_1453, hb_1454, hb_1455⟩ := hb_145
                            have hh_145 : jSt (dC, dI) B base G0 G0 EX10_scanBt9 s.heap 0 0 [(r0, 12, 3, .int qk_145)] [(r1, 173, n1, ca 1, f_l1_99)] [] H_145 locs_145 := ((hh_148.call hb_1451 hb_1452 hb_1453 hb_1454 hS_145 rfl (L1 := []) [] rfl rfl (M1 := [(r1, 173, n1, ca 1, f_l1_99)]) [0] rfl rfl (I1 := []) [] rfl rfl).more hb_1455)
                            clear hh_148 ht_145 hvm_145 hz_145 hk_145 hS_145 hb_1451 hb_1452 hb_1453 hb_1454 hb_1455
                            obtain ⟨hr_146_0, hr_146_1, hr_146_2⟩ := hr_146
                            exact C226 z_10 z_10 _ _ (hh_145.sub (L1 := []) [] rfl (M1 := []) [] rfl (I1 := []) [] rfl) (by first | omega | (refine ⟨?_, ?_⟩ <;> (first | omega | rfl | assumption | decide | exact Or.inl rfl | exact Or.inr rfl | (simp only; omega)))) _ (lv_sub hl [2, 3, 4, 5, 6, 7, 1, 1] rfl)
                          · skip
                            exact absurd c_144 (by decide)
                        · skip
                          have c_143' : z_142.toInt < 128 := jb_ge_n (rfl) ((by decide)) c_143
                          refine va_ldcS hx hb hown rstr66 dX10_scan_188 ?_
                          refine lv_aload_n hx hb dX10_scan_190 rfl (lv_at hl 2 rfl) ?_
                          refine lv_iload hx hb dX10_scan_191 (lv_at hl 6 rfl) ?_
                          refine j7_ialdM hx hb hK hh_101 hB173 1 rfl (by decide) hg_r1 (x := v5_5.toInt) (rfl) (by omega) (j := 0) rfl dX10_scan_193 (fun z_150 ez_150 (hz_150 : True) => ?_)
                          have hqz_150 : z_150.toInt = (f_l1_99 (v5_5.toInt).toNat).toInt := by rw [ez_150]
                          refine lv_i2c hx hb dX10_scan_194 rfl ?_
                          refine lv_topi (fun z_151 ez_151 => ?_)
                          refine vp_callSi (W.runV (As := [.int z_151]) (rest := []) ⟨hx, hb, hml, hown, hts⟩ (wJ0_indexOf_0f7a4 l dC dI ca base H_101 str66 8 z_151) (cwV 1 hts (jgV (jWr_37 _ (List.mem_of_getElem? (i := 11) rfl)) (jWr_37 _ (List.mem_of_getElem? (i := 12) rfl)) (jWr_37 _ (List.mem_of_getElem? (i := 13) rfl)) (jWr_5 _ (List.mem_of_getElem? (i := 15) rfl)) (jWr_37 _ (List.mem_of_getElem? (i := 14) rfl))) rfl rfl rfl (by decide +kernel) ⟨by rw [← hR]; exact Nat.le_of_ble_eq_true rfl, by rw [← hR]; exact Nat.le_of_ble_eq_true rfl⟩) ⟨fun a U g mk q => by obtain ⟨q0, q1, q2, qK, q9⟩ := q; exact ⟨q0, q1, (q2.moved (Vm.Alike.refl U.vm)), jG.calling g mk a qK, q9⟩, jStr_recv hstr66 hh_101.1, fun U hU hW => ⟨rfl, hU, (hstr66.moved hW.alike).kept hh_101.1.2.1, hG.step hW hU hh_101.1, by omega⟩⟩ rfl rfl hl.1 rfl (lv_room (Nat.le_of_ble_eq_true rfl)) dX10_scan_195 ⟨Nat.zero_le _, Nat.zero_le _⟩) (fun r_152 hr_152 => ?_)
                          refine lv_if_lt (tgt := 205) hx hb dX10_scan_198 (by decide) (fun c_153 => ?_) (fun c_153 => ?_)
                          · skip
                            have c_153' : r_152.toInt < 0 := jb_lt (rfl) ((by decide)) c_153
                            refine lv_iconst (v := 0) hx hb dX10_scan_205 (by decide) ?_
                            refine lv_istore (lv' := [(7, .int 0), (6, .int z_10), (0, .ref r0), (1, .ref r1), (2, .int a2), (3, .int a3), (4, .int z_3), (5, .int v5_5)]) hx hb dX10_scan_206 hl (by decide) rfl (fun ls hl => ?_)
                            refine lv_aload_n hx hb dX10_scan_208 rfl (lv_at hl 2 rfl) ?_
                            refine lv_iload hx hb dX10_scan_209 (lv_at hl 0 rfl) ?_
                            refine lv_if_eq (tgt := 221) hx hb dX10_scan_211 (by decide) (fun c_154 => ?_) (fun c_154 => ?_)
                            · skip
                              refine lv_iconst (v := 0) hx hb dX10_scan_221 (by decide) ?_
                              refine lv_iconst (v := 0) hx hb dX10_scan_222 (by decide) ?_
                              obtain ⟨v_157, hv_157, hh_158⟩ := hh_101.pin (C := RX10) (T := TX10) (N := 11) hB12 rfl (by decide) hg_r0 (i := 3) (by decide) rfl
                              obtain ⟨tokens_159, rfl, hlotokens_159, hhitokens_159⟩ := hv_157
                              refine va_callv (A0 := jA base) (H0 := s.heap) (va_runV (As := [.int 0, .int 0]) (rest := []) ⟨hx, hb, hml, hown, hts⟩ (uX10_addB l dC dI ca base B hB hAp hB12 hB101 hB293 G0 H_101 r0 0 0 tokens_159) (cwV 2 hts (jgV (jWr_37 _ (List.mem_of_getElem? (i := 7) rfl)) (jWr_37 _ (List.mem_of_getElem? (i := 8) rfl)) (jWr_37 _ (List.mem_of_getElem? (i := 9) rfl)) (jWr_4 _ (List.mem_of_getElem? (i := 14) rfl)) (jWr_37 _ (List.mem_of_getElem? (i := 10) rfl))) rfl rfl rfl (by decide +kernel) ⟨by rw [← hR]; exact Nat.le_of_ble_eq_true rfl, by rw [← hR]; exact Nat.le_of_ble_eq_true rfl⟩) ⟨fun a U g mk q => by obtain ⟨q0, q1, q2, qK, q10, q11, q12⟩ := q; exact ⟨q0, q1, q2, jG.calling g mk a qK, q10, q11, q12⟩, hh_158.recv (C := RX10) (T := TX10) (N := 11) hB12 rfl (by decide) hg_r0 hK, fun U hU hW => ⟨rfl, hU, hh_158.2.1, hG.step hW hU hh_158.1, hg_r0, (hh_158.2.2.1.sub (L1 := [(r0, 12, 3, .int tokens_159)]) [0] rfl), by first | omega | (refine ⟨?_, ?_, ?_, ?_⟩ <;> (first | omega | rfl | assumption | decide | exact Or.inl rfl | exact Or.inr rfl | (simp only; omega)))⟩⟩ rfl rfl hl.1 rfl (lv_room (Nat.le_of_ble_eq_true rfl)) dX10_scan_223 ⟨Nat.zero_le _, Nat.zero_le _⟩) hh_158.1 (fun q _ h => h) (fun q h => h) (fun u_155 t_155 H_155 locs_155 ht_155 hvm_155 hr_156 hb_155 hz_155 hk_155 hS_155 => ?_)
                              obtain ⟨qk_155, rfl⟩ : ∃ z, z = u_155 := ⟨_, rfl⟩
                              rw [ht_155] at hb_155
                              obtain ⟨hb_1551, hb_1552, hb_1553, hb_1554, hb_1555⟩ := hb_155
                              have hh_155 : jSt (dC, dI) B base G0 G0 EX10_scanBt9 s.heap 0 0 [(r0, 12, 3, .int qk_155)] [(r1, 173, n1, ca 1, f_l1_99)] [] H_155 locs_155 := ((hh_158.call hb_1551 hb_1552 hb_1553 hb_1554 hS_155 rfl (L1 := []) [] rfl rfl (M1 := [(r1, 173, n1, ca 1, f_l1_99)]) [0] rfl rfl (I1 := []) [] rfl rfl).more hb_1555)
                              clear hh_158 ht_155 hvm_155 hz_155 hk_155 hS_155 hb_1551 hb_1552 hb_1553 hb_1554 hb_1555
                              obtain ⟨hr_156_0, hr_156_1, hr_156_2⟩ := hr_156
                              exact C226 z_10 z_10 _ _ (hh_155.sub (L1 := []) [] rfl (M1 := []) [] rfl (I1 := []) [] rfl) (by first | omega | (refine ⟨?_, ?_⟩ <;> (first | omega | rfl | assumption | decide | exact Or.inl rfl | exact Or.inr rfl | (simp only; omega)))) _ (lv_sub hl [2, 3, 4, 5, 6, 7, 1, 1] rfl)
                            · skip
                              exact absurd c_154 (by decide)
                          · skip
                            have c_153' : r_152.toInt ≥ 0 := jb_lt_n (rfl) ((by decide)) c_153
                            refine lv_iconst (v := 1) hx hb dX10_scan_201 (by decide) ?_
                            refine lv_goto (tgt := 206) hx hb dX10_scan_202 (by decide) ?_
                            refine lv_istore (lv' := [(7, .int 1), (6, .int z_10), (0, .ref r0), (1, .ref r1), (2, .int a2), (3, .int a3), (4, .int z_3), (5, .int v5_5)]) hx hb dX10_scan_206 hl (by decide) rfl (fun ls hl => ?_)
                            refine lv_aload_n hx hb dX10_scan_208 rfl (lv_at hl 2 rfl) ?_
                            refine lv_iload hx hb dX10_scan_209 (lv_at hl 0 rfl) ?_
                            refine lv_if_eq (tgt := 221) hx hb dX10_scan_211 (by decide) (fun c_160 => ?_) (fun c_160 => ?_)
                            · skip
                              exact absurd c_160 (by decide)
                            · skip
                              refine lv_aload_n hx hb dX10_scan_214 rfl (lv_at hl 3 rfl) ?_
                              refine lv_iload hx hb dX10_scan_215 (lv_at hl 7 rfl) ?_
                              refine j7_ialdM hx hb hK hh_101 hB173 1 rfl (by decide) hg_r1 (x := v5_5.toInt) (rfl) (by omega) (j := 0) rfl dX10_scan_217 (fun z_161 ez_161 (hz_161 : True) => ?_)
                              have hqz_161 : z_161.toInt = (f_l1_99 (v5_5.toInt).toNat).toInt := by rw [ez_161]
                              refine lv_goto (tgt := 222) hx hb dX10_scan_218 (by decide) ?_
                              refine lv_iconst (v := 0) hx hb dX10_scan_222 (by decide) ?_
                              obtain ⟨v_164, hv_164, hh_165⟩ := hh_101.pin (C := RX10) (T := TX10) (N := 11) hB12 rfl (by decide) hg_r0 (i := 3) (by decide) rfl
                              obtain ⟨tokens_166, rfl, hlotokens_166, hhitokens_166⟩ := hv_164
                              refine va_callv (A0 := jA base) (H0 := s.heap) (va_runV (As := [.int z_161, .int 0]) (rest := []) ⟨hx, hb, hml, hown, hts⟩ (uX10_addB l dC dI ca base B hB hAp hB12 hB101 hB293 G0 H_101 r0 z_161 0 tokens_166) (cwV 2 hts (jgV (jWr_37 _ (List.mem_of_getElem? (i := 7) rfl)) (jWr_37 _ (List.mem_of_getElem? (i := 8) rfl)) (jWr_37 _ (List.mem_of_getElem? (i := 9) rfl)) (jWr_4 _ (List.mem_of_getElem? (i := 14) rfl)) (jWr_37 _ (List.mem_of_getElem? (i := 10) rfl))) rfl rfl rfl (by decide +kernel) ⟨by rw [← hR]; exact Nat.le_of_ble_eq_true rfl, by rw [← hR]; exact Nat.le_of_ble_eq_true rfl⟩) ⟨fun a U g mk q => by obtain ⟨q0, q1, q2, qK, q10, q11, q12⟩ := q; exact ⟨q0, q1, q2, jG.calling g mk a qK, q10, q11, q12⟩, hh_165.recv (C := RX10) (T := TX10) (N := 11) hB12 rfl (by decide) hg_r0 hK, fun U hU hW => ⟨rfl, hU, hh_165.2.1, hG.step hW hU hh_165.1, hg_r0, (hh_165.2.2.1.sub (L1 := [(r0, 12, 3, .int tokens_166)]) [0] rfl), by first | omega | (refine ⟨?_, ?_, ?_, ?_⟩ <;> (first | omega | rfl | assumption | decide | exact Or.inl rfl | exact Or.inr rfl | (simp only; omega)))⟩⟩ rfl rfl hl.1 rfl (lv_room (Nat.le_of_ble_eq_true rfl)) dX10_scan_223 ⟨Nat.zero_le _, Nat.zero_le _⟩) hh_165.1 (fun q _ h => h) (fun q h => h) (fun u_162 t_162 H_162 locs_162 ht_162 hvm_162 hr_163 hb_162 hz_162 hk_162 hS_162 => ?_)
                              obtain ⟨qk_162, rfl⟩ : ∃ z, z = u_162 := ⟨_, rfl⟩
                              rw [ht_162] at hb_162
                              obtain ⟨hb_1621, hb_1622, hb_1623, hb_1624, hb_1625⟩ := hb_162
                              have hh_162 : jSt (dC, dI) B base G0 G0 EX10_scanBt9 s.heap 0 0 [(r0, 12, 3, .int qk_162)] [(r1, 173, n1, ca 1, f_l1_99)] [] H_162 locs_162 := ((hh_165.call hb_1621 hb_1622 hb_1623 hb_1624 hS_162 rfl (L1 := []) [] rfl rfl (M1 := [(r1, 173, n1, ca 1, f_l1_99)]) [0] rfl rfl (I1 := []) [] rfl rfl).more hb_1625)
                              clear hh_165 ht_162 hvm_162 hz_162 hk_162 hS_162 hb_1621 hb_1622 hb_1623 hb_1624 hb_1625
                              obtain ⟨hr_163_0, hr_163_1, hr_163_2⟩ := hr_163
                              exact C226 z_10 z_10 _ _ (hh_162.sub (L1 := []) [] rfl (M1 := []) [] rfl (I1 := []) [] rfl) (by first | omega | (refine ⟨?_, ?_⟩ <;> (first | omega | rfl | assumption | decide | exact Or.inl rfl | exact Or.inr rfl | (simp only; omega)))) _ (lv_sub hl [2, 3, 4, 5, 6, 7, 1, 1] rfl)
                · skip
                  have c_103' : r_102.toInt ≠ 0 := jb_eq_n (rfl) ((by decide)) c_103
                  first | (have hr_102pq := hr_102p.resolve_left (by omega); clear hr_102p) | (have hr_102pq := hr_102p.resolve_right (by omega); clear hr_102p) | try clear hr_102p
                  refine lv_aload_n hx hb dX10_scan_136 rfl (lv_at hl 1 rfl) ?_
                  refine lv_bipush (v := 100) hx hb dX10_scan_137 (by decide) ?_
                  refine lv_aload_n hx hb dX10_scan_139 rfl (lv_at hl 2 rfl) ?_
                  refine lv_iload hx hb dX10_scan_140 (lv_at hl 6 rfl) ?_
                  refine j7_ialdM hx hb hK hh_101 hB173 1 rfl (by decide) hg_r1 (x := v5_5.toInt) (rfl) (by omega) (j := 0) rfl dX10_scan_142 (fun z_167 ez_167 (hz_167 : True) => ?_)
                  have hqz_167 : z_167.toInt = (f_l1_99 (v5_5.toInt).toNat).toInt := by rw [ez_167]
                  refine lv_bipush (v := 48) hx hb dX10_scan_143 (by decide) ?_
                  refine lv_isub hx hb dX10_scan_145 ?_
                  refine lv_topi (fun z_168 ez_168 => ?_)
                  have hz_168 : z_168.toInt = z_167.toInt - 48 := by rw [ez_168]; exact jb_isub2 (rfl) ((by decide)) (by omega)
                  obtain ⟨v_171, hv_171, hh_172⟩ := hh_101.pin (C := RX10) (T := TX10) (N := 11) hB12 rfl (by decide) hg_r0 (i := 3) (by decide) rfl
                  obtain ⟨tokens_173, rfl, hlotokens_173, hhitokens_173⟩ := hv_171
                  refine va_callv (A0 := jA base) (H0 := s.heap) (va_runV (As := [.int 100, .int z_168]) (rest := []) ⟨hx, hb, hml, hown, hts⟩ (uX10_addB l dC dI ca base B hB hAp hB12 hB101 hB293 G0 H_101 r0 100 z_168 tokens_173) (cwV 2 hts (jgV (jWr_37 _ (List.mem_of_getElem? (i := 7) rfl)) (jWr_37 _ (List.mem_of_getElem? (i := 8) rfl)) (jWr_37 _ (List.mem_of_getElem? (i := 9) rfl)) (jWr_4 _ (List.mem_of_getElem? (i := 14) rfl)) (jWr_37 _ (List.mem_of_getElem? (i := 10) rfl))) rfl rfl rfl (by decide +kernel) ⟨by rw [← hR]; exact Nat.le_of_ble_eq_true rfl, by rw [← hR]; exact Nat.le_of_ble_eq_true rfl⟩) ⟨fun a U g mk q => by obtain ⟨q0, q1, q2, qK, q10, q11, q12⟩ := q; exact ⟨q0, q1, q2, jG.calling g mk a qK, q10, q11, q12⟩, hh_172.recv (C := RX10) (T := TX10) (N := 11) hB12 rfl (by decide) hg_r0 hK, fun U hU hW => ⟨rfl, hU, hh_172.2.1, hG.step hW hU hh_172.1, hg_r0, (hh_172.2.2.1.sub (L1 := [(r0, 12, 3, .int tokens_173)]) [0] rfl), by first | omega | (refine ⟨?_, ?_, ?_, ?_⟩ <;> (first | omega | rfl | assumption | decide | exact Or.inl rfl | exact Or.inr rfl | (simp only; omega)))⟩⟩ rfl rfl hl.1 rfl (lv_room (Nat.le_of_ble_eq_true rfl)) dX10_scan_146 ⟨Nat.zero_le _, Nat.zero_le _⟩) hh_172.1 (fun q _ h => h) (fun q h => h) (fun u_169 t_169 H_169 locs_169 ht_169 hvm_169 hr_170 hb_169 hz_169 hk_169 hS_169 => ?_)
                  obtain ⟨qk_169, rfl⟩ : ∃ z, z = u_169 := ⟨_, rfl⟩
                  rw [ht_169] at hb_169
                  obtain ⟨hb_1691, hb_1692, hb_1693, hb_1694, hb_1695⟩ := hb_169
                  have hh_169 : jSt (dC, dI) B base G0 G0 EX10_scanBt9 s.heap 0 0 [(r0, 12, 3, .int qk_169)] [(r1, 173, n1, ca 1, f_l1_99)] [] H_169 locs_169 := ((hh_172.call hb_1691 hb_1692 hb_1693 hb_1694 hS_169 rfl (L1 := []) [] rfl rfl (M1 := [(r1, 173, n1, ca 1, f_l1_99)]) [0] rfl rfl (I1 := []) [] rfl rfl).more hb_1695)
                  clear hh_172 ht_169 hvm_169 hz_169 hk_169 hS_169 hb_1691 hb_1692 hb_1693 hb_1694 hb_1695
                  obtain ⟨hr_170_0, hr_170_1, hr_170_2⟩ := hr_170
                  refine lv_goto (tgt := 226) hx hb dX10_scan_149 (by decide) ?_
                  exact C226 z_10 z_10 _ _ (hh_169.sub (L1 := []) [] rfl (M1 := []) [] rfl (I1 := []) [] rfl) (by first | omega | (refine ⟨?_, ?_⟩ <;> (first | omega | rfl | assumption | decide | exact Or.inl rfl | exact Or.inr rfl | (simp only; omega)))) _ (lv_sub hl [1, 2, 3, 4, 5, 6, 0, 0] rfl)
              · skip
                have c_98' : z_97.toInt < z_3.toInt := jb_ge_n (rfl) (rfl) c_98
                refine lv_aload_n hx hb dX10_scan_99 rfl (lv_at hl 2 rfl) ?_
                refine lv_iload hx hb dX10_scan_100 (lv_at hl 6 rfl) ?_
                refine lv_iconst (v := 1) hx hb dX10_scan_102 (by decide) ?_
                refine lv_iadd hx hb dX10_scan_103 ?_
                refine lv_topi (fun z_174 ez_174 => ?_)
                have hz_174 : z_174.toInt = v5_5.toInt + 1 := by rw [ez_174]; exact jb_iadd2 (rfl) ((by decide)) (by omega)
                refine j7_iald hx hb hK hh_11 hB173 1 rfl (by decide) hg_r1 (x := z_174.toInt) (rfl) (by omega) dX10_scan_104 (fun z_175 (hz_175 : True) => ?_)
                refine lv_bipush (v := 62) hx hb dX10_scan_105 (by decide) ?_
                refine lv_icmp_ne (tgt := 126) hx hb dX10_scan_107 (by decide) (fun c_176 => ?_) (fun c_176 => ?_)
                · skip
                  have c_176' : z_175.toInt ≠ 62 := jb_ne (rfl) ((by decide)) c_176
                  obtain ⟨f_l1_177, hh_177⟩ := hh_11.cpin hB173 (by decide) (by decide) hg_r1
                  clear hh_11
                  refine lv_aload_n hx hb dX10_scan_126 rfl (lv_at hl 2 rfl) ?_
                  refine lv_iload hx hb dX10_scan_127 (lv_at hl 6 rfl) ?_
                  refine j7_ialdM hx hb hK hh_177 hB173 1 rfl (by decide) hg_r1 (x := v5_5.toInt) (rfl) (by omega) (j := 0) rfl dX10_scan_129 (fun z_178 ez_178 (hz_178 : True) => ?_)
                  have hqz_178 : z_178.toInt = (f_l1_177 (v5_5.toInt).toNat).toInt := by rw [ez_178]
                  refine va_calli (A0 := jA base) (H0 := s.heap) (va_runSN (As := [.int z_178]) (rest := []) ⟨hx, hb, hml, hown, hts⟩ (uX11_isDigitB l dC dI ca base B hB hAp G0 H_11 z_178) ⟨va_cnB 1 hts (jgW (jWr_22 _ (List.mem_of_getElem? (i := 15) rfl))) rfl rfl rfl (hG.2.2.1 RX10 60 yX11_isDigit "ProofServer" (List.mem_of_getElem? (i := 1150) (by decide +kernel))) (htw (.initialized RX11) (jWr_1 _ (List.mem_of_getElem? (i := 2) rfl))) (by decide +kernel) ⟨by rw [← hR]; exact Nat.le_of_ble_eq_true rfl, by rw [← hR]; exact Nat.le_of_ble_eq_true rfl⟩, htw (.static yX11_isDigit) (jWr_22 _ (List.mem_of_getElem? (i := 14) rfl)), trivial⟩ ⟨fun a U g mk q => by obtain ⟨q0, q1, q2, qK, q10, q11⟩ := q; exact ⟨q0, q1, q2, jG.calling g mk a qK, q10, q11⟩, fun U hU hW => ⟨rfl, hU, hh_177.2.1, hG.step hW hU hh_177.1, jP.nil, trivial⟩⟩ rfl rfl hl.1 rfl (lv_room (Nat.le_of_ble_eq_true rfl)) dX10_scan_130 ⟨Nat.zero_le _, Nat.zero_le _⟩) hh_177.1 (fun q _ h => h) (fun q h => h) (fun r_180 u_179 t_179 H_179 locs_179 ht_179 hvm_179 hr_180 hb_179 hz_179 hk_179 hS_179 => ?_)
                  rw [ht_179] at hb_179
                  obtain ⟨hb_1791, hb_1792, hb_1793, hb_1794, hb_1795⟩ := hb_179
                  have hh_179 : jSt (dC, dI) B base G0 G0 EX10_scanBt9 s.heap 0 0 [] [(r1, 173, n1, ca 1, f_l1_177)] [] H_179 locs_179 := ((hh_177.call hb_1791 hb_1792 hb_1793 hb_1794 hS_179 rfl (L1 := []) [] rfl rfl (M1 := [(r1, 173, n1, ca 1, f_l1_177)]) [0] rfl rfl (I1 := []) [] rfl rfl).more hb_1795)
                  clear hh_177 ht_179 hvm_179 hz_179 hk_179 hS_179 hb_1791 hb_1792 hb_1793 hb_1794 hb_1795
                  obtain ⟨hr_180b, hr_180p⟩ := hr_180
                  have hr_180' := jb_01 hr_180b
                  refine lv_if_eq (tgt := 152) hx hb dX10_scan_133 (by decide) (fun c_181 => ?_) (fun c_181 => ?_)
                  · skip
                    have c_181' : r_180.toInt = 0 := jb_eq (rfl) ((by decide)) c_181
                    first | (have hr_180pq := hr_180p.resolve_left (by omega); clear hr_180p) | (have hr_180pq := hr_180p.resolve_right (by omega); clear hr_180p) | try clear hr_180p
                    refine lv_aload_n hx hb dX10_scan_152 rfl (lv_at hl 2 rfl) ?_
                    refine lv_iload hx hb dX10_scan_153 (lv_at hl 6 rfl) ?_
                    refine j7_ialdM hx hb hK hh_179 hB173 1 rfl (by decide) hg_r1 (x := v5_5.toInt) (rfl) (by omega) (j := 0) rfl dX10_scan_155 (fun z_182 ez_182 (hz_182 : True) => ?_)
                    have hqz_182 : z_182.toInt = (f_l1_177 (v5_5.toInt).toNat).toInt := by rw [ez_182]
                    refine vp_callSi (va_Run.run (va_runSN (As := [.int z_182]) (rest := []) ⟨hx, hb, hml, hown, hts⟩ (wX11_isBlank l dC dI ca base H_179 z_182) ⟨va_cnB 1 hts (jgW (jWr_20 _ (List.mem_of_getElem? (i := 0) rfl))) rfl rfl rfl (hG.2.2.1 RX10 63 yX11_isBlank "ProofServer" (List.mem_of_getElem? (i := 1151) (by decide +kernel))) (htw (.initialized RX11) (jWr_1 _ (List.mem_of_getElem? (i := 2) rfl))) (by decide +kernel) ⟨by rw [← hR]; exact Nat.le_of_ble_eq_true rfl, by rw [← hR]; exact Nat.le_of_ble_eq_true rfl⟩, htw (.static yX11_isBlank) (jWr_19 _ (List.mem_of_getElem? (i := 23) rfl)), trivial⟩ ⟨fun a U g mk q => by obtain ⟨q0, q1, qK, q9⟩ := q; exact ⟨q0, q1, jG.calling g mk a qK, q9⟩, fun U hU hW => ⟨rfl, hU, hG.step hW hU hh_179.1, by first | trivial | omega | (constructor <;> omega)⟩⟩ rfl rfl hl.1 rfl (lv_room (Nat.le_of_ble_eq_true rfl)) dX10_scan_156 ⟨Nat.zero_le _, Nat.zero_le _⟩)) (fun r_183 hr_183 => ?_)
                    have hr_183' : r_183.toInt = 0 ∨ r_183.toInt = 1 := jb_01 hr_183
                    refine lv_if_ne (tgt := 226) hx hb dX10_scan_159 (by decide) (fun c_184 => ?_) (fun c_184 => ?_)
                    · skip
                      have c_184' : r_183.toInt ≠ 0 := jb_ne (rfl) ((by decide)) c_184
                      exact C226 z_10 z_10 _ _ (hh_179.sub (L1 := []) [] rfl (M1 := []) [] rfl (I1 := []) [] rfl) (by first | omega | (refine ⟨?_, ?_⟩ <;> (first | omega | rfl | assumption | decide | exact Or.inl rfl | exact Or.inr rfl | (simp only; omega)))) _ (lv_sub hl [1, 2, 3, 4, 5, 6, 0, 0] rfl)
                    · skip
                      have c_184' : r_183.toInt = 0 := jb_ne_n (rfl) ((by decide)) c_184
                      refine lv_aload_n hx hb dX10_scan_162 rfl (lv_at hl 2 rfl) ?_
                      refine lv_iload hx hb dX10_scan_163 (lv_at hl 6 rfl) ?_
                      refine j7_ialdM hx hb hK hh_179 hB173 1 rfl (by decide) hg_r1 (x := v5_5.toInt) (rfl) (by omega) (j := 0) rfl dX10_scan_165 (fun z_185 ez_185 (hz_185 : True) => ?_)
                      have hqz_185 : z_185.toInt = (f_l1_177 (v5_5.toInt).toNat).toInt := by rw [ez_185]
                      refine lv_bipush (v := 46) hx hb dX10_scan_166 (by decide) ?_
                      refine lv_icmp_ne (tgt := 178) hx hb dX10_scan_168 (by decide) (fun c_186 => ?_) (fun c_186 => ?_)
                      · skip
                        have c_186' : z_185.toInt ≠ 46 := jb_ne (rfl) ((by decide)) c_186
                        refine lv_aload_n hx hb dX10_scan_178 rfl (lv_at hl 2 rfl) ?_
                        refine lv_iload hx hb dX10_scan_179 (lv_at hl 6 rfl) ?_
                        refine j7_ialdM hx hb hK hh_179 hB173 1 rfl (by decide) hg_r1 (x := v5_5.toInt) (rfl) (by omega) (j := 0) rfl dX10_scan_181 (fun z_187 ez_187 (hz_187 : True) => ?_)
                        have hqz_187 : z_187.toInt = (f_l1_177 (v5_5.toInt).toNat).toInt := by rw [ez_187]
                        refine lv_sipush (v := 128) hx hb dX10_scan_182 (by decide) ?_
                        refine lv_icmp_ge (tgt := 205) hx hb dX10_scan_185 (by decide) (fun c_188 => ?_) (fun c_188 => ?_)
                        · skip
                          have c_188' : z_187.toInt ≥ 128 := jb_ge (rfl) ((by decide)) c_188
                          refine lv_iconst (v := 0) hx hb dX10_scan_205 (by decide) ?_
                          refine lv_istore (lv' := [(7, .int 0), (6, .int z_10), (0, .ref r0), (1, .ref r1), (2, .int a2), (3, .int a3), (4, .int z_3), (5, .int v5_5)]) hx hb dX10_scan_206 hl (by decide) rfl (fun ls hl => ?_)
                          refine lv_aload_n hx hb dX10_scan_208 rfl (lv_at hl 2 rfl) ?_
                          refine lv_iload hx hb dX10_scan_209 (lv_at hl 0 rfl) ?_
                          refine lv_if_eq (tgt := 221) hx hb dX10_scan_211 (by decide) (fun c_189 => ?_) (fun c_189 => ?_)
                          · skip
                            refine lv_iconst (v := 0) hx hb dX10_scan_221 (by decide) ?_
                            refine lv_iconst (v := 0) hx hb dX10_scan_222 (by decide) ?_
                            obtain ⟨v_192, hv_192, hh_193⟩ := hh_179.pin (C := RX10) (T := TX10) (N := 11) hB12 rfl (by decide) hg_r0 (i := 3) (by decide) rfl
                            obtain ⟨tokens_194, rfl, hlotokens_194, hhitokens_194⟩ := hv_192
                            refine va_callv (A0 := jA base) (H0 := s.heap) (va_runV (As := [.int 0, .int 0]) (rest := []) ⟨hx, hb, hml, hown, hts⟩ (uX10_addB l dC dI ca base B hB hAp hB12 hB101 hB293 G0 H_179 r0 0 0 tokens_194) (cwV 2 hts (jgV (jWr_37 _ (List.mem_of_getElem? (i := 7) rfl)) (jWr_37 _ (List.mem_of_getElem? (i := 8) rfl)) (jWr_37 _ (List.mem_of_getElem? (i := 9) rfl)) (jWr_4 _ (List.mem_of_getElem? (i := 14) rfl)) (jWr_37 _ (List.mem_of_getElem? (i := 10) rfl))) rfl rfl rfl (by decide +kernel) ⟨by rw [← hR]; exact Nat.le_of_ble_eq_true rfl, by rw [← hR]; exact Nat.le_of_ble_eq_true rfl⟩) ⟨fun a U g mk q => by obtain ⟨q0, q1, q2, qK, q10, q11, q12⟩ := q; exact ⟨q0, q1, q2, jG.calling g mk a qK, q10, q11, q12⟩, hh_193.recv (C := RX10) (T := TX10) (N := 11) hB12 rfl (by decide) hg_r0 hK, fun U hU hW => ⟨rfl, hU, hh_193.2.1, hG.step hW hU hh_193.1, hg_r0, (hh_193.2.2.1.sub (L1 := [(r0, 12, 3, .int tokens_194)]) [0] rfl), by first | omega | (refine ⟨?_, ?_, ?_, ?_⟩ <;> (first | omega | rfl | assumption | decide | exact Or.inl rfl | exact Or.inr rfl | (simp only; omega)))⟩⟩ rfl rfl hl.1 rfl (lv_room (Nat.le_of_ble_eq_true rfl)) dX10_scan_223 ⟨Nat.zero_le _, Nat.zero_le _⟩) hh_193.1 (fun q _ h => h) (fun q h => h) (fun u_190 t_190 H_190 locs_190 ht_190 hvm_190 hr_191 hb_190 hz_190 hk_190 hS_190 => ?_)
                            obtain ⟨qk_190, rfl⟩ : ∃ z, z = u_190 := ⟨_, rfl⟩
                            rw [ht_190] at hb_190
                            obtain ⟨hb_1901, hb_1902, hb_1903, hb_1904, hb_1905⟩ := hb_190
                            have hh_190 : jSt (dC, dI) B base G0 G0 EX10_scanBt9 s.heap 0 0 [(r0, 12, 3, .int qk_190)] [(r1, 173, n1, ca 1, f_l1_177)] [] H_190 locs_190 := ((hh_193.call hb_1901 hb_1902 hb_1903 hb_1904 hS_190 rfl (L1 := []) [] rfl rfl (M1 := [(r1, 173, n1, ca 1, f_l1_177)]) [0] rfl rfl (I1 := []) [] rfl rfl).more hb_1905)
                            clear hh_193 ht_190 hvm_190 hz_190 hk_190 hS_190 hb_1901 hb_1902 hb_1903 hb_1904 hb_1905
                            obtain ⟨hr_191_0, hr_191_1, hr_191_2⟩ := hr_191
                            exact C226 z_10 z_10 _ _ (hh_190.sub (L1 := []) [] rfl (M1 := []) [] rfl (I1 := []) [] rfl) (by first | omega | (refine ⟨?_, ?_⟩ <;> (first | omega | rfl | assumption | decide | exact Or.inl rfl | exact Or.inr rfl | (simp only; omega)))) _ (lv_sub hl [2, 3, 4, 5, 6, 7, 1, 1] rfl)
                          · skip
                            exact absurd c_189 (by decide)
                        · skip
                          have c_188' : z_187.toInt < 128 := jb_ge_n (rfl) ((by decide)) c_188
                          refine va_ldcS hx hb hown rstr66 dX10_scan_188 ?_
                          refine lv_aload_n hx hb dX10_scan_190 rfl (lv_at hl 2 rfl) ?_
                          refine lv_iload hx hb dX10_scan_191 (lv_at hl 6 rfl) ?_
                          refine j7_ialdM hx hb hK hh_179 hB173 1 rfl (by decide) hg_r1 (x := v5_5.toInt) (rfl) (by omega) (j := 0) rfl dX10_scan_193 (fun z_195 ez_195 (hz_195 : True) => ?_)
                          have hqz_195 : z_195.toInt = (f_l1_177 (v5_5.toInt).toNat).toInt := by rw [ez_195]
                          refine lv_i2c hx hb dX10_scan_194 rfl ?_
                          refine lv_topi (fun z_196 ez_196 => ?_)
                          refine vp_callSi (W.runV (As := [.int z_196]) (rest := []) ⟨hx, hb, hml, hown, hts⟩ (wJ0_indexOf_0f7a4 l dC dI ca base H_179 str66 8 z_196) (cwV 1 hts (jgV (jWr_37 _ (List.mem_of_getElem? (i := 11) rfl)) (jWr_37 _ (List.mem_of_getElem? (i := 12) rfl)) (jWr_37 _ (List.mem_of_getElem? (i := 13) rfl)) (jWr_5 _ (List.mem_of_getElem? (i := 15) rfl)) (jWr_37 _ (List.mem_of_getElem? (i := 14) rfl))) rfl rfl rfl (by decide +kernel) ⟨by rw [← hR]; exact Nat.le_of_ble_eq_true rfl, by rw [← hR]; exact Nat.le_of_ble_eq_true rfl⟩) ⟨fun a U g mk q => by obtain ⟨q0, q1, q2, qK, q9⟩ := q; exact ⟨q0, q1, (q2.moved (Vm.Alike.refl U.vm)), jG.calling g mk a qK, q9⟩, jStr_recv hstr66 hh_179.1, fun U hU hW => ⟨rfl, hU, (hstr66.moved hW.alike).kept hh_179.1.2.1, hG.step hW hU hh_179.1, by omega⟩⟩ rfl rfl hl.1 rfl (lv_room (Nat.le_of_ble_eq_true rfl)) dX10_scan_195 ⟨Nat.zero_le _, Nat.zero_le _⟩) (fun r_197 hr_197 => ?_)
                          refine lv_if_lt (tgt := 205) hx hb dX10_scan_198 (by decide) (fun c_198 => ?_) (fun c_198 => ?_)
                          · skip
                            have c_198' : r_197.toInt < 0 := jb_lt (rfl) ((by decide)) c_198
                            refine lv_iconst (v := 0) hx hb dX10_scan_205 (by decide) ?_
                            refine lv_istore (lv' := [(7, .int 0), (6, .int z_10), (0, .ref r0), (1, .ref r1), (2, .int a2), (3, .int a3), (4, .int z_3), (5, .int v5_5)]) hx hb dX10_scan_206 hl (by decide) rfl (fun ls hl => ?_)
                            refine lv_aload_n hx hb dX10_scan_208 rfl (lv_at hl 2 rfl) ?_
                            refine lv_iload hx hb dX10_scan_209 (lv_at hl 0 rfl) ?_
                            refine lv_if_eq (tgt := 221) hx hb dX10_scan_211 (by decide) (fun c_199 => ?_) (fun c_199 => ?_)
                            · skip
                              refine lv_iconst (v := 0) hx hb dX10_scan_221 (by decide) ?_
                              refine lv_iconst (v := 0) hx hb dX10_scan_222 (by decide) ?_
                              obtain ⟨v_202, hv_202, hh_203⟩ := hh_179.pin (C := RX10) (T := TX10) (N := 11) hB12 rfl (by decide) hg_r0 (i := 3) (by decide) rfl
                              obtain ⟨tokens_204, rfl, hlotokens_204, hhitokens_204⟩ := hv_202
                              refine va_callv (A0 := jA base) (H0 := s.heap) (va_runV (As := [.int 0, .int 0]) (rest := []) ⟨hx, hb, hml, hown, hts⟩ (uX10_addB l dC dI ca base B hB hAp hB12 hB101 hB293 G0 H_179 r0 0 0 tokens_204) (cwV 2 hts (jgV (jWr_37 _ (List.mem_of_getElem? (i := 7) rfl)) (jWr_37 _ (List.mem_of_getElem? (i := 8) rfl)) (jWr_37 _ (List.mem_of_getElem? (i := 9) rfl)) (jWr_4 _ (List.mem_of_getElem? (i := 14) rfl)) (jWr_37 _ (List.mem_of_getElem? (i := 10) rfl))) rfl rfl rfl (by decide +kernel) ⟨by rw [← hR]; exact Nat.le_of_ble_eq_true rfl, by rw [← hR]; exact Nat.le_of_ble_eq_true rfl⟩) ⟨fun a U g mk q => by obtain ⟨q0, q1, q2, qK, q10, q11, q12⟩ := q; exact ⟨q0, q1, q2, jG.calling g mk a qK, q10, q11, q12⟩, hh_203.recv (C := RX10) (T := TX10) (N := 11) hB12 rfl (by decide) hg_r0 hK, fun U hU hW => ⟨rfl, hU, hh_203.2.1, hG.step hW hU hh_203.1, hg_r0, (hh_203.2.2.1.sub (L1 := [(r0, 12, 3, .int tokens_204)]) [0] rfl), by first | omega | (refine ⟨?_, ?_, ?_, ?_⟩ <;> (first | omega | rfl | assumption | decide | exact Or.inl rfl | exact Or.inr rfl | (simp only; omega)))⟩⟩ rfl rfl hl.1 rfl (lv_room (Nat.le_of_ble_eq_true rfl)) dX10_scan_223 ⟨Nat.zero_le _, Nat.zero_le _⟩) hh_203.1 (fun q _ h => h) (fun q h => h) (fun u_200 t_200 H_200 locs_200 ht_200 hvm_200 hr_201 hb_200 hz_200 hk_200 hS_200 => ?_)
                              obtain ⟨qk_200, rfl⟩ : ∃ z, z = u_200 := ⟨_, rfl⟩
                              rw [ht_200] at hb_200
                              obtain ⟨hb_2001, hb_2002, hb_2003, hb_2004, hb_2005⟩ := hb_200
                              have hh_200 : jSt (dC, dI) B base G0 G0 EX10_scanBt9 s.heap 0 0 [(r0, 12, 3, .int qk_200)] [(r1, 173, n1, ca 1, f_l1_177)] [] H_200 locs_200 := ((hh_203.call hb_2001 hb_2002 hb_2003 hb_2004 hS_200 rfl (L1 := []) [] rfl rfl (M1 := [(r1, 173, n1, ca 1, f_l1_177)]) [0] rfl rfl (I1 := []) [] rfl rfl).more hb_2005)
                              clear hh_203 ht_200 hvm_200 hz_200 hk_200 hS_200 hb_2001 hb_2002 hb_2003 hb_2004 hb_2005
                              obtain ⟨hr_201_0, hr_201_1, hr_201_2⟩ := hr_201
                              exact C226 z_10 z_10 _ _ (hh_200.sub (L1 := []) [] rfl (M1 := []) [] rfl (I1 := []) [] rfl) (by first | omega | (refine ⟨?_, ?_⟩ <;> (first | omega | rfl | assumption | decide | exact Or.inl rfl | exact Or.inr rfl | (simp only; omega)))) _ (lv_sub hl [2, 3, 4, 5, 6, 7, 1, 1] rfl)
                            · skip
                              exact absurd c_199 (by decide)
                          · skip
                            have c_198' : r_197.toInt ≥ 0 := jb_lt_n (rfl) ((by decide)) c_198
                            refine lv_iconst (v := 1) hx hb dX10_scan_201 (by decide) ?_
                            refine lv_goto (tgt := 206) hx hb dX10_scan_202 (by decide) ?_
                            refine lv_istore (lv' := [(7, .int 1), (6, .int z_10), (0, .ref r0), (1, .ref r1), (2, .int a2), (3, .int a3), (4, .int z_3), (5, .int v5_5)]) hx hb dX10_scan_206 hl (by decide) rfl (fun ls hl => ?_)
                            refine lv_aload_n hx hb dX10_scan_208 rfl (lv_at hl 2 rfl) ?_
                            refine lv_iload hx hb dX10_scan_209 (lv_at hl 0 rfl) ?_
                            refine lv_if_eq (tgt := 221) hx hb dX10_scan_211 (by decide) (fun c_205 => ?_) (fun c_205 => ?_)
                            · skip
                              exact absurd c_205 (by decide)
                            · skip
                              refine lv_aload_n hx hb dX10_scan_214 rfl (lv_at hl 3 rfl) ?_
                              refine lv_iload hx hb dX10_scan_215 (lv_at hl 7 rfl) ?_
                              refine j7_ialdM hx hb hK hh_179 hB173 1 rfl (by decide) hg_r1 (x := v5_5.toInt) (rfl) (by omega) (j := 0) rfl dX10_scan_217 (fun z_206 ez_206 (hz_206 : True) => ?_)
                              have hqz_206 : z_206.toInt = (f_l1_177 (v5_5.toInt).toNat).toInt := by rw [ez_206]
                              refine lv_goto (tgt := 222) hx hb dX10_scan_218 (by decide) ?_
                              refine lv_iconst (v := 0) hx hb dX10_scan_222 (by decide) ?_
                              obtain ⟨v_209, hv_209, hh_210⟩ := hh_179.pin (C := RX10) (T := TX10) (N := 11) hB12 rfl (by decide) hg_r0 (i := 3) (by decide) rfl
                              obtain ⟨tokens_211, rfl, hlotokens_211, hhitokens_211⟩ := hv_209
                              refine va_callv (A0 := jA base) (H0 := s.heap) (va_runV (As := [.int z_206, .int 0]) (rest := []) ⟨hx, hb, hml, hown, hts⟩ (uX10_addB l dC dI ca base B hB hAp hB12 hB101 hB293 G0 H_179 r0 z_206 0 tokens_211) (cwV 2 hts (jgV (jWr_37 _ (List.mem_of_getElem? (i := 7) rfl)) (jWr_37 _ (List.mem_of_getElem? (i := 8) rfl)) (jWr_37 _ (List.mem_of_getElem? (i := 9) rfl)) (jWr_4 _ (List.mem_of_getElem? (i := 14) rfl)) (jWr_37 _ (List.mem_of_getElem? (i := 10) rfl))) rfl rfl rfl (by decide +kernel) ⟨by rw [← hR]; exact Nat.le_of_ble_eq_true rfl, by rw [← hR]; exact Nat.le_of_ble_eq_true rfl⟩) ⟨fun a U g mk q => by obtain ⟨q0, q1, q2, qK, q10, q11, q12⟩ := q; exact ⟨q0, q1, q2, jG.calling g mk a qK, q10, q11, q12⟩, hh_210.recv (C := RX10) (T := TX10) (N := 11) hB12 rfl (by decide) hg_r0 hK, fun U hU hW => ⟨rfl, hU, hh_210.2.1, hG.step hW hU hh_210.1, hg_r0, (hh_210.2.2.1.sub (L1 := [(r0, 12, 3, .int tokens_211)]) [0] rfl), by first | omega | (refine ⟨?_, ?_, ?_, ?_⟩ <;> (first | omega | rfl | assumption | decide | exact Or.inl rfl | exact Or.inr rfl | (simp only; omega)))⟩⟩ rfl rfl hl.1 rfl (lv_room (Nat.le_of_ble_eq_true rfl)) dX10_scan_223 ⟨Nat.zero_le _, Nat.zero_le _⟩) hh_210.1 (fun q _ h => h) (fun q h => h) (fun u_207 t_207 H_207 locs_207 ht_207 hvm_207 hr_208 hb_207 hz_207 hk_207 hS_207 => ?_)
                              obtain ⟨qk_207, rfl⟩ : ∃ z, z = u_207 := ⟨_, rfl⟩
                              rw [ht_207] at hb_207
                              obtain ⟨hb_2071, hb_2072, hb_2073, hb_2074, hb_2075⟩ := hb_207
                              have hh_207 : jSt (dC, dI) B base G0 G0 EX10_scanBt9 s.heap 0 0 [(r0, 12, 3, .int qk_207)] [(r1, 173, n1, ca 1, f_l1_177)] [] H_207 locs_207 := ((hh_210.call hb_2071 hb_2072 hb_2073 hb_2074 hS_207 rfl (L1 := []) [] rfl rfl (M1 := [(r1, 173, n1, ca 1, f_l1_177)]) [0] rfl rfl (I1 := []) [] rfl rfl).more hb_2075)
                              clear hh_210 ht_207 hvm_207 hz_207 hk_207 hS_207 hb_2071 hb_2072 hb_2073 hb_2074 hb_2075
                              obtain ⟨hr_208_0, hr_208_1, hr_208_2⟩ := hr_208
                              exact C226 z_10 z_10 _ _ (hh_207.sub (L1 := []) [] rfl (M1 := []) [] rfl (I1 := []) [] rfl) (by first | omega | (refine ⟨?_, ?_⟩ <;> (first | omega | rfl | assumption | decide | exact Or.inl rfl | exact Or.inr rfl | (simp only; omega)))) _ (lv_sub hl [2, 3, 4, 5, 6, 7, 1, 1] rfl)
                      · skip
                        have c_186' : z_185.toInt = 46 := jb_ne_n (rfl) ((by decide)) c_186
                        refine lv_iload hx hb dX10_scan_171 (lv_at hl 0 rfl) ?_
                        refine lv_iload hx hb dX10_scan_173 (lv_at hl 5 rfl) ?_
                        refine lv_icmp_eq (tgt := 201) hx hb dX10_scan_175 (by decide) (fun c_212 => ?_) (fun c_212 => ?_)
                        · skip
                          have c_212' : z_10.toInt = z_3.toInt := jb_eq (rfl) (rfl) c_212
                          refine lv_iconst (v := 1) hx hb dX10_scan_201 (by decide) ?_
                          refine lv_goto (tgt := 206) hx hb dX10_scan_202 (by decide) ?_
                          refine lv_istore (lv' := [(7, .int 1), (6, .int z_10), (0, .ref r0), (1, .ref r1), (2, .int a2), (3, .int a3), (4, .int z_3), (5, .int v5_5)]) hx hb dX10_scan_206 hl (by decide) rfl (fun ls hl => ?_)
                          refine lv_aload_n hx hb dX10_scan_208 rfl (lv_at hl 2 rfl) ?_
                          refine lv_iload hx hb dX10_scan_209 (lv_at hl 0 rfl) ?_
                          refine lv_if_eq (tgt := 221) hx hb dX10_scan_211 (by decide) (fun c_213 => ?_) (fun c_213 => ?_)
                          · skip
                            exact absurd c_213 (by decide)
                          · skip
                            refine lv_aload_n hx hb dX10_scan_214 rfl (lv_at hl 3 rfl) ?_
                            refine lv_iload hx hb dX10_scan_215 (lv_at hl 7 rfl) ?_
                            refine j7_ialdM hx hb hK hh_179 hB173 1 rfl (by decide) hg_r1 (x := v5_5.toInt) (rfl) (by omega) (j := 0) rfl dX10_scan_217 (fun z_214 ez_214 (hz_214 : True) => ?_)
                            have hqz_214 : z_214.toInt = (f_l1_177 (v5_5.toInt).toNat).toInt := by rw [ez_214]
                            refine lv_goto (tgt := 222) hx hb dX10_scan_218 (by decide) ?_
                            refine lv_iconst (v := 0) hx hb dX10_scan_222 (by decide) ?_
                            obtain ⟨v_217, hv_217, hh_218⟩ := hh_179.pin (C := RX10) (T := TX10) (N := 11) hB12 rfl (by decide) hg_r0 (i := 3) (by decide) rfl
                            obtain ⟨tokens_219, rfl, hlotokens_219, hhitokens_219⟩ := hv_217
                            refine va_callv (A0 := jA base) (H0 := s.heap) (va_runV (As := [.int z_214, .int 0]) (rest := []) ⟨hx, hb, hml, hown, hts⟩ (uX10_addB l dC dI ca base B hB hAp hB12 hB101 hB293 G0 H_179 r0 z_214 0 tokens_219) (cwV 2 hts (jgV (jWr_37 _ (List.mem_of_getElem? (i := 7) rfl)) (jWr_37 _ (List.mem_of_getElem? (i := 8) rfl)) (jWr_37 _ (List.mem_of_getElem? (i := 9) rfl)) (jWr_4 _ (List.mem_of_getElem? (i := 14) rfl)) (jWr_37 _ (List.mem_of_getElem? (i := 10) rfl))) rfl rfl rfl (by decide +kernel) ⟨by rw [← hR]; exact Nat.le_of_ble_eq_true rfl, by rw [← hR]; exact Nat.le_of_ble_eq_true rfl⟩) ⟨fun a U g mk q => by obtain ⟨q0, q1, q2, qK, q10, q11, q12⟩ := q; exact ⟨q0, q1, q2, jG.calling g mk a qK, q10, q11, q12⟩, hh_218.recv (C := RX10) (T := TX10) (N := 11) hB12 rfl (by decide) hg_r0 hK, fun U hU hW => ⟨rfl, hU, hh_218.2.1, hG.step hW hU hh_218.1, hg_r0, (hh_218.2.2.1.sub (L1 := [(r0, 12, 3, .int tokens_219)]) [0] rfl), by first | omega | (refine ⟨?_, ?_, ?_, ?_⟩ <;> (first | omega | rfl | assumption | decide | exact Or.inl rfl | exact Or.inr rfl | (simp only; omega)))⟩⟩ rfl rfl hl.1 rfl (lv_room (Nat.le_of_ble_eq_true rfl)) dX10_scan_223 ⟨Nat.zero_le _, Nat.zero_le _⟩) hh_218.1 (fun q _ h => h) (fun q h => h) (fun u_215 t_215 H_215 locs_215 ht_215 hvm_215 hr_216 hb_215 hz_215 hk_215 hS_215 => ?_)
                            obtain ⟨qk_215, rfl⟩ : ∃ z, z = u_215 := ⟨_, rfl⟩
                            rw [ht_215] at hb_215
                            obtain ⟨hb_2151, hb_2152, hb_2153, hb_2154, hb_2155⟩ := hb_215
                            have hh_215 : jSt (dC, dI) B base G0 G0 EX10_scanBt9 s.heap 0 0 [(r0, 12, 3, .int qk_215)] [(r1, 173, n1, ca 1, f_l1_177)] [] H_215 locs_215 := ((hh_218.call hb_2151 hb_2152 hb_2153 hb_2154 hS_215 rfl (L1 := []) [] rfl rfl (M1 := [(r1, 173, n1, ca 1, f_l1_177)]) [0] rfl rfl (I1 := []) [] rfl rfl).more hb_2155)
                            clear hh_218 ht_215 hvm_215 hz_215 hk_215 hS_215 hb_2151 hb_2152 hb_2153 hb_2154 hb_2155
                            obtain ⟨hr_216_0, hr_216_1, hr_216_2⟩ := hr_216
                            exact C226 z_10 z_10 _ _ (hh_215.sub (L1 := []) [] rfl (M1 := []) [] rfl (I1 := []) [] rfl) (by first | omega | (refine ⟨?_, ?_⟩ <;> (first | omega | rfl | assumption | decide | exact Or.inl rfl | exact Or.inr rfl | (simp only; omega)))) _ (lv_sub hl [2, 3, 4, 5, 6, 7, 1, 1] rfl)
                        · skip
                          have c_212' : z_10.toInt ≠ z_3.toInt := jb_eq_n (rfl) (rfl) c_212
                          refine lv_aload_n hx hb dX10_scan_178 rfl (lv_at hl 2 rfl) ?_
                          refine lv_iload hx hb dX10_scan_179 (lv_at hl 6 rfl) ?_
                          refine j7_ialdM hx hb hK hh_179 hB173 1 rfl (by decide) hg_r1 (x := v5_5.toInt) (rfl) (by omega) (j := 0) rfl dX10_scan_181 (fun z_220 ez_220 (hz_220 : True) => ?_)
                          have hqz_220 : z_220.toInt = (f_l1_177 (v5_5.toInt).toNat).toInt := by rw [ez_220]
                          refine lv_sipush (v := 128) hx hb dX10_scan_182 (by decide) ?_
                          refine lv_icmp_ge (tgt := 205) hx hb dX10_scan_185 (by decide) (fun c_221 => ?_) (fun c_221 => ?_)
                          · skip
                            have c_221' : z_220.toInt ≥ 128 := jb_ge (rfl) ((by decide)) c_221
                            refine lv_iconst (v := 0) hx hb dX10_scan_205 (by decide) ?_
                            refine lv_istore (lv' := [(7, .int 0), (6, .int z_10), (0, .ref r0), (1, .ref r1), (2, .int a2), (3, .int a3), (4, .int z_3), (5, .int v5_5)]) hx hb dX10_scan_206 hl (by decide) rfl (fun ls hl => ?_)
                            refine lv_aload_n hx hb dX10_scan_208 rfl (lv_at hl 2 rfl) ?_
                            refine lv_iload hx hb dX10_scan_209 (lv_at hl 0 rfl) ?_
                            refine lv_if_eq (tgt := 221) hx hb dX10_scan_211 (by decide) (fun c_222 => ?_) (fun c_222 => ?_)
                            · skip
                              refine lv_iconst (v := 0) hx hb dX10_scan_221 (by decide) ?_
                              refine lv_iconst (v := 0) hx hb dX10_scan_222 (by decide) ?_
                              obtain ⟨v_225, hv_225, hh_226⟩ := hh_179.pin (C := RX10) (T := TX10) (N := 11) hB12 rfl (by decide) hg_r0 (i := 3) (by decide) rfl
                              obtain ⟨tokens_227, rfl, hlotokens_227, hhitokens_227⟩ := hv_225
                              refine va_callv (A0 := jA base) (H0 := s.heap) (va_runV (As := [.int 0, .int 0]) (rest := []) ⟨hx, hb, hml, hown, hts⟩ (uX10_addB l dC dI ca base B hB hAp hB12 hB101 hB293 G0 H_179 r0 0 0 tokens_227) (cwV 2 hts (jgV (jWr_37 _ (List.mem_of_getElem? (i := 7) rfl)) (jWr_37 _ (List.mem_of_getElem? (i := 8) rfl)) (jWr_37 _ (List.mem_of_getElem? (i := 9) rfl)) (jWr_4 _ (List.mem_of_getElem? (i := 14) rfl)) (jWr_37 _ (List.mem_of_getElem? (i := 10) rfl))) rfl rfl rfl (by decide +kernel) ⟨by rw [← hR]; exact Nat.le_of_ble_eq_true rfl, by rw [← hR]; exact Nat.le_of_ble_eq_true rfl⟩) ⟨fun a U g mk q => by obtain ⟨q0, q1, q2, qK, q10, q11, q12⟩ := q; exact ⟨q0, q1, q2, jG.calling g mk a qK, q10, q11, q12⟩, hh_226.recv (C := RX10) (T := TX10) (N := 11) hB12 rfl (by decide) hg_r0 hK, fun U hU hW => ⟨rfl, hU, hh_226.2.1, hG.step hW hU hh_226.1, hg_r0, (hh_226.2.2.1.sub (L1 := [(r0, 12, 3, .int tokens_227)]) [0] rfl), by first | omega | (refine ⟨?_, ?_, ?_, ?_⟩ <;> (first | omega | rfl | assumption | decide | exact Or.inl rfl | exact Or.inr rfl | (simp only; omega)))⟩⟩ rfl rfl hl.1 rfl (lv_room (Nat.le_of_ble_eq_true rfl)) dX10_scan_223 ⟨Nat.zero_le _, Nat.zero_le _⟩) hh_226.1 (fun q _ h => h) (fun q h => h) (fun u_223 t_223 H_223 locs_223 ht_223 hvm_223 hr_224 hb_223 hz_223 hk_223 hS_223 => ?_)
                              obtain ⟨qk_223, rfl⟩ : ∃ z, z = u_223 := ⟨_, rfl⟩
                              rw [ht_223] at hb_223
                              obtain ⟨hb_2231, hb_2232, hb_2233, hb_2234, hb_2235⟩ := hb_223
                              have hh_223 : jSt (dC, dI) B base G0 G0 EX10_scanBt9 s.heap 0 0 [(r0, 12, 3, .int qk_223)] [(r1, 173, n1, ca 1, f_l1_177)] [] H_223 locs_223 := ((hh_226.call hb_2231 hb_2232 hb_2233 hb_2234 hS_223 rfl (L1 := []) [] rfl rfl (M1 := [(r1, 173, n1, ca 1, f_l1_177)]) [0] rfl rfl (I1 := []) [] rfl rfl).more hb_2235)
                              clear hh_226 ht_223 hvm_223 hz_223 hk_223 hS_223 hb_2231 hb_2232 hb_2233 hb_2234 hb_2235
                              obtain ⟨hr_224_0, hr_224_1, hr_224_2⟩ := hr_224
                              exact C226 z_10 z_10 _ _ (hh_223.sub (L1 := []) [] rfl (M1 := []) [] rfl (I1 := []) [] rfl) (by first | omega | (refine ⟨?_, ?_⟩ <;> (first | omega | rfl | assumption | decide | exact Or.inl rfl | exact Or.inr rfl | (simp only; omega)))) _ (lv_sub hl [2, 3, 4, 5, 6, 7, 1, 1] rfl)
                            · skip
                              exact absurd c_222 (by decide)
                          · skip
                            have c_221' : z_220.toInt < 128 := jb_ge_n (rfl) ((by decide)) c_221
                            refine va_ldcS hx hb hown rstr66 dX10_scan_188 ?_
                            refine lv_aload_n hx hb dX10_scan_190 rfl (lv_at hl 2 rfl) ?_
                            refine lv_iload hx hb dX10_scan_191 (lv_at hl 6 rfl) ?_
                            refine j7_ialdM hx hb hK hh_179 hB173 1 rfl (by decide) hg_r1 (x := v5_5.toInt) (rfl) (by omega) (j := 0) rfl dX10_scan_193 (fun z_228 ez_228 (hz_228 : True) => ?_)
                            have hqz_228 : z_228.toInt = (f_l1_177 (v5_5.toInt).toNat).toInt := by rw [ez_228]
                            refine lv_i2c hx hb dX10_scan_194 rfl ?_
                            refine lv_topi (fun z_229 ez_229 => ?_)
                            refine vp_callSi (W.runV (As := [.int z_229]) (rest := []) ⟨hx, hb, hml, hown, hts⟩ (wJ0_indexOf_0f7a4 l dC dI ca base H_179 str66 8 z_229) (cwV 1 hts (jgV (jWr_37 _ (List.mem_of_getElem? (i := 11) rfl)) (jWr_37 _ (List.mem_of_getElem? (i := 12) rfl)) (jWr_37 _ (List.mem_of_getElem? (i := 13) rfl)) (jWr_5 _ (List.mem_of_getElem? (i := 15) rfl)) (jWr_37 _ (List.mem_of_getElem? (i := 14) rfl))) rfl rfl rfl (by decide +kernel) ⟨by rw [← hR]; exact Nat.le_of_ble_eq_true rfl, by rw [← hR]; exact Nat.le_of_ble_eq_true rfl⟩) ⟨fun a U g mk q => by obtain ⟨q0, q1, q2, qK, q9⟩ := q; exact ⟨q0, q1, (q2.moved (Vm.Alike.refl U.vm)), jG.calling g mk a qK, q9⟩, jStr_recv hstr66 hh_179.1, fun U hU hW => ⟨rfl, hU, (hstr66.moved hW.alike).kept hh_179.1.2.1, hG.step hW hU hh_179.1, by omega⟩⟩ rfl rfl hl.1 rfl (lv_room (Nat.le_of_ble_eq_true rfl)) dX10_scan_195 ⟨Nat.zero_le _, Nat.zero_le _⟩) (fun r_230 hr_230 => ?_)
                            refine lv_if_lt (tgt := 205) hx hb dX10_scan_198 (by decide) (fun c_231 => ?_) (fun c_231 => ?_)
                            · skip
                              have c_231' : r_230.toInt < 0 := jb_lt (rfl) ((by decide)) c_231
                              refine lv_iconst (v := 0) hx hb dX10_scan_205 (by decide) ?_
                              refine lv_istore (lv' := [(7, .int 0), (6, .int z_10), (0, .ref r0), (1, .ref r1), (2, .int a2), (3, .int a3), (4, .int z_3), (5, .int v5_5)]) hx hb dX10_scan_206 hl (by decide) rfl (fun ls hl => ?_)
                              refine lv_aload_n hx hb dX10_scan_208 rfl (lv_at hl 2 rfl) ?_
                              refine lv_iload hx hb dX10_scan_209 (lv_at hl 0 rfl) ?_
                              refine lv_if_eq (tgt := 221) hx hb dX10_scan_211 (by decide) (fun c_232 => ?_) (fun c_232 => ?_)
                              · skip
                                refine lv_iconst (v := 0) hx hb dX10_scan_221 (by decide) ?_
                                refine lv_iconst (v := 0) hx hb dX10_scan_222 (by decide) ?_
                                obtain ⟨v_235, hv_235, hh_236⟩ := hh_179.pin (C := RX10) (T := TX10) (N := 11) hB12 rfl (by decide) hg_r0 (i := 3) (by decide) rfl
                                obtain ⟨tokens_237, rfl, hlotokens_237, hhitokens_237⟩ := hv_235
                                refine va_callv (A0 := jA base) (H0 := s.heap) (va_runV (As := [.int 0, .int 0]) (rest := []) ⟨hx, hb, hml, hown, hts⟩ (uX10_addB l dC dI ca base B hB hAp hB12 hB101 hB293 G0 H_179 r0 0 0 tokens_237) (cwV 2 hts (jgV (jWr_37 _ (List.mem_of_getElem? (i := 7) rfl)) (jWr_37 _ (List.mem_of_getElem? (i := 8) rfl)) (jWr_37 _ (List.mem_of_getElem? (i := 9) rfl)) (jWr_4 _ (List.mem_of_getElem? (i := 14) rfl)) (jWr_37 _ (List.mem_of_getElem? (i := 10) rfl))) rfl rfl rfl (by decide +kernel) ⟨by rw [← hR]; exact Nat.le_of_ble_eq_true rfl, by rw [← hR]; exact Nat.le_of_ble_eq_true rfl⟩) ⟨fun a U g mk q => by obtain ⟨q0, q1, q2, qK, q10, q11, q12⟩ := q; exact ⟨q0, q1, q2, jG.calling g mk a qK, q10, q11, q12⟩, hh_236.recv (C := RX10) (T := TX10) (N := 11) hB12 rfl (by decide) hg_r0 hK, fun U hU hW => ⟨rfl, hU, hh_236.2.1, hG.step hW hU hh_236.1, hg_r0, (hh_236.2.2.1.sub (L1 := [(r0, 12, 3, .int tokens_237)]) [0] rfl), by first | omega | (refine ⟨?_, ?_, ?_, ?_⟩ <;> (first | omega | rfl | assumption | decide | exact Or.inl rfl | exact Or.inr rfl | (simp only; omega)))⟩⟩ rfl rfl hl.1 rfl (lv_room (Nat.le_of_ble_eq_true rfl)) dX10_scan_223 ⟨Nat.zero_le _, Nat.zero_le _⟩) hh_236.1 (fun q _ h => h) (fun q h => h) (fun u_233 t_233 H_233 locs_233 ht_233 hvm_233 hr_234 hb_233 hz_233 hk_233 hS_233 => ?_)
                                obtain ⟨qk_233, rfl⟩ : ∃ z, z = u_233 := ⟨_, rfl⟩
                                rw [ht_233] at hb_233
                                obtain ⟨hb_2331, hb_2332, hb_2333, hb_2334, hb_2335⟩ := hb_233
                                have hh_233 : jSt (dC, dI) B base G0 G0 EX10_scanBt9 s.heap 0 0 [(r0, 12, 3, .int qk_233)] [(r1, 173, n1, ca 1, f_l1_177)] [] H_233 locs_233 := ((hh_236.call hb_2331 hb_2332 hb_2333 hb_2334 hS_233 rfl (L1 := []) [] rfl rfl (M1 := [(r1, 173, n1, ca 1, f_l1_177)]) [0] rfl rfl (I1 := []) [] rfl rfl).more hb_2335)
                                clear hh_236 ht_233 hvm_233 hz_233 hk_233 hS_233 hb_2331 hb_2332 hb_2333 hb_2334 hb_2335
                                obtain ⟨hr_234_0, hr_234_1, hr_234_2⟩ := hr_234
                                exact C226 z_10 z_10 _ _ (hh_233.sub (L1 := []) [] rfl (M1 := []) [] rfl (I1 := []) [] rfl) (by first | omega | (refine ⟨?_, ?_⟩ <;> (first | omega | rfl | assumption | decide | exact Or.inl rfl | exact Or.inr rfl | (simp only; omega)))) _ (lv_sub hl [2, 3, 4, 5, 6, 7, 1, 1] rfl)
                              · skip
                                exact absurd c_232 (by decide)
                            · skip
                              have c_231' : r_230.toInt ≥ 0 := jb_lt_n (rfl) ((by decide)) c_231
                              refine lv_iconst (v := 1) hx hb dX10_scan_201 (by decide) ?_
                              refine lv_goto (tgt := 206) hx hb dX10_scan_202 (by decide) ?_
                              refine lv_istore (lv' := [(7, .int 1), (6, .int z_10), (0, .ref r0), (1, .ref r1), (2, .int a2), (3, .int a3), (4, .int z_3), (5, .int v5_5)]) hx hb dX10_scan_206 hl (by decide) rfl (fun ls hl => ?_)
                              refine lv_aload_n hx hb dX10_scan_208 rfl (lv_at hl 2 rfl) ?_
                              refine lv_iload hx hb dX10_scan_209 (lv_at hl 0 rfl) ?_
                              refine lv_if_eq (tgt := 221) hx hb dX10_scan_211 (by decide) (fun c_238 => ?_) (fun c_238 => ?_)
                              · skip
                                exact absurd c_238 (by decide)
                              · skip
                                refine lv_aload_n hx hb dX10_scan_214 rfl (lv_at hl 3 rfl) ?_
                                refine lv_iload hx hb dX10_scan_215 (lv_at hl 7 rfl) ?_
                                refine j7_ialdM hx hb hK hh_179 hB173 1 rfl (by decide) hg_r1 (x := v5_5.toInt) (rfl) (by omega) (j := 0) rfl dX10_scan_217 (fun z_239 ez_239 (hz_239 : True) => ?_)
                                have hqz_239 : z_239.toInt = (f_l1_177 (v5_5.toInt).toNat).toInt := by rw [ez_239]
                                refine lv_goto (tgt := 222) hx hb dX10_scan_218 (by decide) ?_
                                refine lv_iconst (v := 0) hx hb dX10_scan_222 (by decide) ?_
                                obtain ⟨v_242, hv_242, hh_243⟩ := hh_179.pin (C := RX10) (T := TX10) (N := 11) hB12 rfl (by decide) hg_r0 (i := 3) (by decide) rfl
                                obtain ⟨tokens_244, rfl, hlotokens_244, hhitokens_244⟩ := hv_242
                                refine va_callv (A0 := jA base) (H0 := s.heap) (va_runV (As := [.int z_239, .int 0]) (rest := []) ⟨hx, hb, hml, hown, hts⟩ (uX10_addB l dC dI ca base B hB hAp hB12 hB101 hB293 G0 H_179 r0 z_239 0 tokens_244) (cwV 2 hts (jgV (jWr_37 _ (List.mem_of_getElem? (i := 7) rfl)) (jWr_37 _ (List.mem_of_getElem? (i := 8) rfl)) (jWr_37 _ (List.mem_of_getElem? (i := 9) rfl)) (jWr_4 _ (List.mem_of_getElem? (i := 14) rfl)) (jWr_37 _ (List.mem_of_getElem? (i := 10) rfl))) rfl rfl rfl (by decide +kernel) ⟨by rw [← hR]; exact Nat.le_of_ble_eq_true rfl, by rw [← hR]; exact Nat.le_of_ble_eq_true rfl⟩) ⟨fun a U g mk q => by obtain ⟨q0, q1, q2, qK, q10, q11, q12⟩ := q; exact ⟨q0, q1, q2, jG.calling g mk a qK, q10, q11, q12⟩, hh_243.recv (C := RX10) (T := TX10) (N := 11) hB12 rfl (by decide) hg_r0 hK, fun U hU hW => ⟨rfl, hU, hh_243.2.1, hG.step hW hU hh_243.1, hg_r0, (hh_243.2.2.1.sub (L1 := [(r0, 12, 3, .int tokens_244)]) [0] rfl), by first | omega | (refine ⟨?_, ?_, ?_, ?_⟩ <;> (first | omega | rfl | assumption | decide | exact Or.inl rfl | exact Or.inr rfl | (simp only; omega)))⟩⟩ rfl rfl hl.1 rfl (lv_room (Nat.le_of_ble_eq_true rfl)) dX10_scan_223 ⟨Nat.zero_le _, Nat.zero_le _⟩) hh_243.1 (fun q _ h => h) (fun q h => h) (fun u_240 t_240 H_240 locs_240 ht_240 hvm_240 hr_241 hb_240 hz_240 hk_240 hS_240 => ?_)
                                obtain ⟨qk_240, rfl⟩ : ∃ z, z = u_240 := ⟨_, rfl⟩
                                rw [ht_240] at hb_240
                                obtain ⟨hb_2401, hb_2402, hb_2403, hb_2404, hb_2405⟩ := hb_240
                                have hh_240 : jSt (dC, dI) B base G0 G0 EX10_scanBt9 s.heap 0 0 [(r0, 12, 3, .int qk_240)] [(r1, 173, n1, ca 1, f_l1_177)] [] H_240 locs_240 := ((hh_243.call hb_2401 hb_2402 hb_2403 hb_2404 hS_240 rfl (L1 := []) [] rfl rfl (M1 := [(r1, 173, n1, ca 1, f_l1_177)]) [0] rfl rfl (I1 := []) [] rfl rfl).more hb_2405)
                                clear hh_243 ht_240 hvm_240 hz_240 hk_240 hS_240 hb_2401 hb_2402 hb_2403 hb_2404 hb_2405
                                obtain ⟨hr_241_0, hr_241_1, hr_241_2⟩ := hr_241
                                exact C226 z_10 z_10 _ _ (hh_240.sub (L1 := []) [] rfl (M1 := []) [] rfl (I1 := []) [] rfl) (by first | omega | (refine ⟨?_, ?_⟩ <;> (first | omega | rfl | assumption | decide | exact Or.inl rfl | exact Or.inr rfl | (simp only; omega)))) _ (lv_sub hl [2, 3, 4, 5, 6, 7, 1, 1] rfl)
                  · skip
                    have c_181' : r_180.toInt ≠ 0 := jb_eq_n (rfl) ((by decide)) c_181
                    first | (have hr_180pq := hr_180p.resolve_left (by omega); clear hr_180p) | (have hr_180pq := hr_180p.resolve_right (by omega); clear hr_180p) | try clear hr_180p
                    refine lv_aload_n hx hb dX10_scan_136 rfl (lv_at hl 1 rfl) ?_
                    refine lv_bipush (v := 100) hx hb dX10_scan_137 (by decide) ?_
                    refine lv_aload_n hx hb dX10_scan_139 rfl (lv_at hl 2 rfl) ?_
                    refine lv_iload hx hb dX10_scan_140 (lv_at hl 6 rfl) ?_
                    refine j7_ialdM hx hb hK hh_179 hB173 1 rfl (by decide) hg_r1 (x := v5_5.toInt) (rfl) (by omega) (j := 0) rfl dX10_scan_142 (fun z_245 ez_245 (hz_245 : True) => ?_)
                    have hqz_245 : z_245.toInt = (f_l1_177 (v5_5.toInt).toNat).toInt := by rw [ez_245]
                    refine lv_bipush (v := 48) hx hb dX10_scan_143 (by decide) ?_
                    refine lv_isub hx hb dX10_scan_145 ?_
                    refine lv_topi (fun z_246 ez_246 => ?_)
                    have hz_246 : z_246.toInt = z_245.toInt - 48 := by rw [ez_246]; exact jb_isub2 (rfl) ((by decide)) (by omega)
                    obtain ⟨v_249, hv_249, hh_250⟩ := hh_179.pin (C := RX10) (T := TX10) (N := 11) hB12 rfl (by decide) hg_r0 (i := 3) (by decide) rfl
                    obtain ⟨tokens_251, rfl, hlotokens_251, hhitokens_251⟩ := hv_249
                    refine va_callv (A0 := jA base) (H0 := s.heap) (va_runV (As := [.int 100, .int z_246]) (rest := []) ⟨hx, hb, hml, hown, hts⟩ (uX10_addB l dC dI ca base B hB hAp hB12 hB101 hB293 G0 H_179 r0 100 z_246 tokens_251) (cwV 2 hts (jgV (jWr_37 _ (List.mem_of_getElem? (i := 7) rfl)) (jWr_37 _ (List.mem_of_getElem? (i := 8) rfl)) (jWr_37 _ (List.mem_of_getElem? (i := 9) rfl)) (jWr_4 _ (List.mem_of_getElem? (i := 14) rfl)) (jWr_37 _ (List.mem_of_getElem? (i := 10) rfl))) rfl rfl rfl (by decide +kernel) ⟨by rw [← hR]; exact Nat.le_of_ble_eq_true rfl, by rw [← hR]; exact Nat.le_of_ble_eq_true rfl⟩) ⟨fun a U g mk q => by obtain ⟨q0, q1, q2, qK, q10, q11, q12⟩ := q; exact ⟨q0, q1, q2, jG.calling g mk a qK, q10, q11, q12⟩, hh_250.recv (C := RX10) (T := TX10) (N := 11) hB12 rfl (by decide) hg_r0 hK, fun U hU hW => ⟨rfl, hU, hh_250.2.1, hG.step hW hU hh_250.1, hg_r0, (hh_250.2.2.1.sub (L1 := [(r0, 12, 3, .int tokens_251)]) [0] rfl), by first | omega | (refine ⟨?_, ?_, ?_, ?_⟩ <;> (first | omega | rfl | assumption | decide | exact Or.inl rfl | exact Or.inr rfl | (simp only; omega)))⟩⟩ rfl rfl hl.1 rfl (lv_room (Nat.le_of_ble_eq_true rfl)) dX10_scan_146 ⟨Nat.zero_le _, Nat.zero_le _⟩) hh_250.1 (fun q _ h => h) (fun q h => h) (fun u_247 t_247 H_247 locs_247 ht_247 hvm_247 hr_248 hb_247 hz_247 hk_247 hS_247 => ?_)
                    obtain ⟨qk_247, rfl⟩ : ∃ z, z = u_247 := ⟨_, rfl⟩
                    rw [ht_247] at hb_247
                    obtain ⟨hb_2471, hb_2472, hb_2473, hb_2474, hb_2475⟩ := hb_247
                    have hh_247 : jSt (dC, dI) B base G0 G0 EX10_scanBt9 s.heap 0 0 [(r0, 12, 3, .int qk_247)] [(r1, 173, n1, ca 1, f_l1_177)] [] H_247 locs_247 := ((hh_250.call hb_2471 hb_2472 hb_2473 hb_2474 hS_247 rfl (L1 := []) [] rfl rfl (M1 := [(r1, 173, n1, ca 1, f_l1_177)]) [0] rfl rfl (I1 := []) [] rfl rfl).more hb_2475)
                    clear hh_250 ht_247 hvm_247 hz_247 hk_247 hS_247 hb_2471 hb_2472 hb_2473 hb_2474 hb_2475
                    obtain ⟨hr_248_0, hr_248_1, hr_248_2⟩ := hr_248
                    refine lv_goto (tgt := 226) hx hb dX10_scan_149 (by decide) ?_
                    exact C226 z_10 z_10 _ _ (hh_247.sub (L1 := []) [] rfl (M1 := []) [] rfl (I1 := []) [] rfl) (by first | omega | (refine ⟨?_, ?_⟩ <;> (first | omega | rfl | assumption | decide | exact Or.inl rfl | exact Or.inr rfl | (simp only; omega)))) _ (lv_sub hl [1, 2, 3, 4, 5, 6, 0, 0] rfl)
                · skip
                  have c_176' : z_175.toInt = 62 := jb_ne_n (rfl) ((by decide)) c_176
                  refine lv_aload_n hx hb dX10_scan_110 rfl (lv_at hl 1 rfl) ?_
                  refine lv_bipush (v := 62) hx hb dX10_scan_111 (by decide) ?_
                  refine lv_iconst (v := 0) hx hb dX10_scan_113 (by decide) ?_
                  obtain ⟨v_254, hv_254, hh_255⟩ := hh_11.pin (C := RX10) (T := TX10) (N := 11) hB12 rfl (by decide) hg_r0 (i := 3) (by decide) rfl
                  obtain ⟨tokens_256, rfl, hlotokens_256, hhitokens_256⟩ := hv_254
                  refine va_callv (A0 := jA base) (H0 := s.heap) (va_runV (As := [.int 62, .int 0]) (rest := []) ⟨hx, hb, hml, hown, hts⟩ (uX10_addB l dC dI ca base B hB hAp hB12 hB101 hB293 G0 H_11 r0 62 0 tokens_256) (cwV 2 hts (jgV (jWr_37 _ (List.mem_of_getElem? (i := 7) rfl)) (jWr_37 _ (List.mem_of_getElem? (i := 8) rfl)) (jWr_37 _ (List.mem_of_getElem? (i := 9) rfl)) (jWr_4 _ (List.mem_of_getElem? (i := 14) rfl)) (jWr_37 _ (List.mem_of_getElem? (i := 10) rfl))) rfl rfl rfl (by decide +kernel) ⟨by rw [← hR]; exact Nat.le_of_ble_eq_true rfl, by rw [← hR]; exact Nat.le_of_ble_eq_true rfl⟩) ⟨fun a U g mk q => by obtain ⟨q0, q1, q2, qK, q10, q11, q12⟩ := q; exact ⟨q0, q1, q2, jG.calling g mk a qK, q10, q11, q12⟩, hh_255.recv (C := RX10) (T := TX10) (N := 11) hB12 rfl (by decide) hg_r0 hK, fun U hU hW => ⟨rfl, hU, hh_255.2.1, hG.step hW hU hh_255.1, hg_r0, (hh_255.2.2.1.sub (L1 := [(r0, 12, 3, .int tokens_256)]) [0] rfl), by first | omega | (refine ⟨?_, ?_, ?_, ?_⟩ <;> (first | omega | rfl | assumption | decide | exact Or.inl rfl | exact Or.inr rfl | (simp only; omega)))⟩⟩ rfl rfl hl.1 rfl (lv_room (Nat.le_of_ble_eq_true rfl)) dX10_scan_114 ⟨Nat.zero_le _, Nat.zero_le _⟩) hh_255.1 (fun q _ h => h) (fun q h => h) (fun u_252 t_252 H_252 locs_252 ht_252 hvm_252 hr_253 hb_252 hz_252 hk_252 hS_252 => ?_)
                  obtain ⟨qk_252, rfl⟩ : ∃ z, z = u_252 := ⟨_, rfl⟩
                  rw [ht_252] at hb_252
                  obtain ⟨hb_2521, hb_2522, hb_2523, hb_2524, hb_2525⟩ := hb_252
                  have hh_252 : jSt (dC, dI) B base G0 G0 EX10_scanBt9 s.heap 0 0 [(r0, 12, 3, .int qk_252)] [] [] H_252 locs_252 := ((hh_255.call hb_2521 hb_2522 hb_2523 hb_2524 hS_252 rfl (L1 := []) [] rfl rfl (M1 := []) [] rfl rfl (I1 := []) [] rfl rfl).more hb_2525)
                  clear hh_255 ht_252 hvm_252 hz_252 hk_252 hS_252 hb_2521 hb_2522 hb_2523 hb_2524 hb_2525
                  obtain ⟨hr_253_0, hr_253_1, hr_253_2⟩ := hr_253
                  refine lv_iload hx hb dX10_scan_117 (lv_at hl 6 rfl) ?_
                  refine lv_iconst (v := 2) hx hb dX10_scan_119 (by decide) ?_
                  refine lv_iadd hx hb dX10_scan_120 ?_
                  refine lv_topi (fun z_257 ez_257 => ?_)
                  have hz_257 : z_257.toInt = v5_5.toInt + 2 := by rw [ez_257]; exact jb_iadd2 (rfl) ((by decide)) (by omega)
                  refine lv_istore (lv' := [(6, .int z_257), (0, .ref r0), (1, .ref r1), (2, .int a2), (3, .int a3), (4, .int z_3), (5, .int v5_5)]) hx hb dX10_scan_121 hl (by decide) rfl (fun ls hl => ?_)
                  refine lv_goto (tgt := 226) hx hb dX10_scan_123 (by decide) ?_
                  exact C226 z_257 z_257 _ _ (hh_252.sub (L1 := []) [] rfl (M1 := []) [] rfl (I1 := []) [] rfl) (by first | omega | (refine ⟨?_, ?_⟩ <;> (first | omega | rfl | assumption | decide | exact Or.inl rfl | exact Or.inr rfl | (simp only; omega)))) _ (lv_sub hl [1, 2, 3, 4, 5, 6, 0, 0] rfl)
          · skip
            have c_19' : r_18.toInt ≠ 0 := jb_eq_n (rfl) ((by decide)) c_19
            refine lv_aload_n hx hb dX10_scan_67 rfl (lv_at hl 1 rfl) ?_
            refine lv_aload_n hx hb dX10_scan_68 rfl (lv_at hl 2 rfl) ?_
            refine lv_iload hx hb dX10_scan_69 (lv_at hl 6 rfl) ?_
            refine lv_iload hx hb dX10_scan_71 (lv_at hl 5 rfl) ?_
            refine va_calli (A0 := jA base) (H0 := s.heap) (va_runV (As := [.ref r1, .int v5_5, .int z_3]) (rest := []) ⟨hx, hb, hml, hown, hts⟩ (uX10_scanNameBt9 l dC dI ca base B hB hAp hB8 hB12 hB101 hB102 hB132 hB133 hB173 hB293 G0 H_11 r0 r1 v5_5 z_3 n1) (cwV 3 hts (jgV (jWr_37 _ (List.mem_of_getElem? (i := 2) rfl)) (jWr_37 _ (List.mem_of_getElem? (i := 3) rfl)) (jWr_37 _ (List.mem_of_getElem? (i := 4) rfl)) (jWr_4 _ (List.mem_of_getElem? (i := 14) rfl)) (jWr_37 _ (List.mem_of_getElem? (i := 5) rfl))) rfl rfl rfl (by decide +kernel) ⟨by rw [← hR]; exact Nat.le_of_ble_eq_true rfl, by rw [← hR]; exact Nat.le_of_ble_eq_true rfl⟩) ⟨fun a U g mk q => by obtain ⟨q0, q1, q2, qK, q10, q11, q12, q13⟩ := q; exact ⟨q0, q1, q2, jG.calling g mk a qK, q10, q11, q12, q13⟩, hh_11.recv (C := RX10) (T := TX10) (N := 11) hB12 rfl (by decide) hg_r0 hK, fun U hU hW => ⟨rfl, hU, hh_11.2.1, hG.step hW hU hh_11.1, hg_r0, hg_r1, jP.nil, by first | omega | (refine ⟨?_, ?_, ?_, ?_⟩ <;> (first | omega | rfl | assumption | decide | exact Or.inl rfl | exact Or.inr rfl | (simp only; omega)))⟩⟩ rfl rfl hl.1 rfl (lv_room (Nat.le_of_ble_eq_true rfl)) dX10_scan_73 ⟨Nat.zero_le _, Nat.zero_le _⟩) hh_11.1 (fun q _ h => h) (fun q h => h) (fun r_259 u_258 t_258 H_258 locs_258 ht_258 hvm_258 hr_259 hb_258 hz_258 hk_258 hS_258 => ?_)
            rw [ht_258] at hb_258
            obtain ⟨hb_2581, hb_2582, hb_2583, hb_2584, hb_2585⟩ := hb_258
            have hh_258 : jSt (dC, dI) B base G0 G0 EX10_scanBt9 s.heap 0 0 [] [] [] H_258 locs_258 := ((hh_11.call hb_2581 hb_2582 hb_2583 hb_2584 hS_258 rfl (L1 := []) [] rfl rfl (M1 := []) [] rfl rfl (I1 := []) [] rfl rfl).more hb_2585)
            clear hh_11 ht_258 hvm_258 hz_258 hk_258 hS_258 hb_2581 hb_2582 hb_2583 hb_2584 hb_2585
            obtain ⟨hr_259_0, hr_259_1⟩ := hr_259
            refine lv_istore (lv' := [(6, .int r_259), (0, .ref r0), (1, .ref r1), (2, .int a2), (3, .int a3), (4, .int z_3), (5, .int v5_5)]) hx hb dX10_scan_76 hl (by decide) rfl (fun ls hl => ?_)
            refine lv_goto (tgt := 226) hx hb dX10_scan_78 (by decide) ?_
            exact C226 r_259 r_259 _ _ hh_258 (by first | omega | (refine ⟨?_, ?_⟩ <;> (first | omega | rfl | assumption | decide | exact Or.inl rfl | exact Or.inr rfl | (simp only; omega)))) _ (lv_sub hl [1, 2, 3, 4, 5, 6, 0, 0] rfl)
        · skip
          have c_16' : r_12.toInt ≠ 0 := jb_eq_n (rfl) ((by decide)) c_16
          first | (have hr_12pq := hr_12p.resolve_left (by omega); clear hr_12p) | (have hr_12pq := hr_12p.resolve_right (by omega); clear hr_12p) | try clear hr_12p
          refine lv_aload_n hx hb dX10_scan_44 rfl (lv_at hl 2 rfl) ?_
          refine lv_iload hx hb dX10_scan_45 (lv_at hl 6 rfl) ?_
          refine lv_iload hx hb dX10_scan_47 (lv_at hl 5 rfl) ?_
          refine va_calli (A0 := jA base) (H0 := s.heap) (va_runSN (As := [.ref r1, .int v5_5, .int z_3]) (rest := []) ⟨hx, hb, hml, hown, hts⟩ (uX11_commentEndt9 l dC dI ca base B hB hAp hB101 hB173 G0 H_11 r1 v5_5 z_3 n1) ⟨va_cnB 3 hts (jgW (jWr_36 _ (List.mem_of_getElem? (i := 11) rfl))) rfl rfl rfl (hG.2.2.1 RX10 45 yX11_commentEnd "ProofServer" (List.mem_of_getElem? (i := 1138) (by decide +kernel))) (htw (.initialized RX11) (jWr_1 _ (List.mem_of_getElem? (i := 2) rfl))) (by decide +kernel) ⟨by rw [← hR]; exact Nat.le_of_ble_eq_true rfl, by rw [← hR]; exact Nat.le_of_ble_eq_true rfl⟩, htw (.static yX11_commentEnd) (jWr_36 _ (List.mem_of_getElem? (i := 10) rfl)), trivial⟩ ⟨fun a U g mk q => by obtain ⟨q0, q1, q2, qK, q10, q11, q12⟩ := q; exact ⟨q0, q1, q2, jG.calling g mk a qK, q10, q11, q12⟩, fun U hU hW => ⟨rfl, hU, hh_11.2.1, hG.step hW hU hh_11.1, hg_r1, jP.nil, by first | omega | (refine ⟨?_, ?_⟩ <;> (first | omega | rfl | assumption | decide | exact Or.inl rfl | exact Or.inr rfl | (simp only; omega)))⟩⟩ rfl rfl hl.1 rfl (lv_room (Nat.le_of_ble_eq_true rfl)) dX10_scan_49 ⟨Nat.zero_le _, Nat.zero_le _⟩) hh_11.1 (fun q _ h => h) (fun q h => h) (fun r_261 u_260 t_260 H_260 locs_260 ht_260 hvm_260 hr_261 hb_260 hz_260 hk_260 hS_260 => ?_)
          rw [ht_260] at hb_260
          obtain ⟨hb_2601, hb_2602, hb_2603, hb_2604, hb_2605⟩ := hb_260
          have hh_260 : jSt (dC, dI) B base G0 G0 EX10_scanBt9 s.heap 0 0 [] [] [] H_260 locs_260 := ((hh_11.call hb_2601 hb_2602 hb_2603 hb_2604 hS_260 rfl (L1 := []) [] rfl rfl (M1 := []) [] rfl rfl (I1 := []) [] rfl rfl).more hb_2605)
          clear hh_11 ht_260 hvm_260 hz_260 hk_260 hS_260 hb_2601 hb_2602 hb_2603 hb_2604 hb_2605
          refine lv_istore (lv' := [(6, .int r_261), (0, .ref r0), (1, .ref r1), (2, .int a2), (3, .int a3), (4, .int z_3), (5, .int v5_5)]) hx hb dX10_scan_52 hl (by decide) rfl (fun ls hl => ?_)
          refine lv_goto (tgt := 226) hx hb dX10_scan_54 (by decide) ?_
          exact C226 r_261 r_261 _ _ hh_260 (by first | omega | (refine ⟨?_, ?_⟩ <;> (first | omega | rfl | assumption | decide | exact Or.inl rfl | exact Or.inr rfl | (simp only; omega)))) _ (lv_sub hl [1, 2, 3, 4, 5, 6, 0, 0] rfl)
  exact L20 (((z_3.toInt - (z_4 : Int32).toInt).toNat : Int) : Int).toNat.succ z_4 _ _ (hh_1.sub (L1 := []) [] rfl (M1 := []) [] rfl (I1 := []) [] rfl) (by first | omega | rfl | assumption | decide | exact Or.inl rfl | exact Or.inr rfl | (simp only; omega)) (by omega) _ (lv_sub hl [2, 3, 4, 5, 1, 0] rfl)
end
section
-- what is known of all lists (o: the one that is open); k: as many there are
section J33
variable {dC : Nat → ClassId} {dI : Nat → Nat → Nat} {ca : Nat → ClassId} {G G1 : jT} {H H1 : Heap} {a c k r x m n : Nat} {o : Option Nat} {ks : List Nat} {w wn : jWl9}
end J33
theorem jRm.last {f g2 : Nat → Option Nat} {z nz : Int} {n : Nat} (h : ∀ k : Nat, (k : Int) < z → f k ≠ none) (hz : nz = z - 1) (hn : z ≤ n) (ho : ∀ j, j < n → j ≠ nz.toNat → g2 j = f j) : ∀ k : Nat, (k : Int) < nz → g2 k ≠ none := fun k hk => by
  rw [ho k (by omega) (by omega)]
  exact h k (by omega)
theorem jWk.last {f g2 : Nat → Option Nat} {w : jWl9} {z nz i : Int} {n : Nat} (h : jWk 1 w z f) (hz : nz = z - 1) (hn : z ≤ n) (hi : i = nz) (ho : ∀ j, j < n → j ≠ nz.toNat → g2 j = f j) : jWk 1 (w.1 - 1, jRmv w.2 i.toNat) nz g2 := fun q => by
  obtain ⟨a, b⟩ := h q
  refine ⟨by show w.1 - 1 = nz; omega, fun j hj => ?_⟩
  show g2 j = if j < i.toNat then w.2 j else w.2 (j + 1)
  rw [ho j (by omega) (by omega), if_pos (by omega)]
  exact b j (by omega)
end
section
-- an array of ints is cloned
theorem jK8.warm {s U : State} (hW : s.WarmedH U.vm) (h : jK8 s) : jK8 U := va_Nw.warmC hW h
section J40
variable {p : Program} {l : Launch} {e : Env} {R : Room} {s : State} {m : MethodId} {args : Array Value} {below : List Frame} {meth : Method} {c : Code} {H : Heap} {locs : List Loc} {cells slots : Nat} {Q : State → Prop}
variable {cc : ByteArray} {pc : Nat} {ls : Array Slot} {rest : List Value} {dC : Nat → ClassId} {dI : Nat → Nat → Nat} {B : jF} {base : Nat} {G0 G : jT} {E : List (Nat × Nat)} {H0 : Heap} {zc zs : Nat} {L : List jPin} {M : List jCt} {I : List jIv} {a k n index : Nat} {tys : List (ClassId × FieldType)} {own : String}
theorem W.cloneI {D : va_G} {cl : List vw_C} {cA : ClassId} {f : Nat → Int32} (hexec : p.tables.exec = Jvm.exec) (hb : c.code = cc) (hml : c.maxLocals = ls.size) (hown : s.vm.findClass own = some m.cls)
    (hlink : (Cond.methodLink own index ⟨"[I", "clone", "()Ljava/lang/Object;"⟩).before args s = true) (hsame : (Cond.sameMethod "[I" "java/lang/Object" "clone" "()Ljava/lang/Object;").before args s = true)
    (hnat : (Cond.native ⟨"java/lang/Object", "clone", "()Ljava/lang/Object;"⟩).before args s = true) (hinst : (Cond.instanceMethod ⟨"java/lang/Object", "clone", "()Ljava/lang/Object;"⟩).before args s = true)
    (hsel : (Cond.selects "[I" ⟨"[I", "clone", "()Ljava/lang/Object;"⟩ ⟨"java/lang/Object", "clone", "()Ljava/lang/Object;"⟩).before args s = true) (hK8 : jK8 s)
    (hK : va_K D cl tys s) (t0 : Nat) (ht : tys[t0]? = some (cA, .int)) (hat : H[a]? = some (vp_cell cA (n, .inl f)))
    (hframes : 1 ≤ R.frames) (hlocals : (rest.map fun v => v.category).sum + 14 ≤ R.locals) (hcells : cells + 1 ≤ R.cells) (hslots : slots + n ≤ R.slots) (hdg : decode cc pc = .ok (.invokevirtual index, 3))
    (kk : ∀ H1 : Heap, H1[H.size]? = some (vp_cell cA (n, .inl f)) → H1.size = H.size + 1 → (∀ q : Nat, q < H.size → H1[q]? = H[q]?) →
      W p l e R s m args below meth c H1 locs (cells + 1) (slots + n) Q (F0 m (pc + 3) ls (.ref H.size :: rest))) : W p l e R s m args below meth c H locs cells slots Q (F0 m pc ls (.ref a :: rest)) := by
  have hsz : (vp_cell cA (n, .inl f)).slots.size = n := arrV_size _ _ _
  have hvm0 : (vp_cell cA (n, .inl f)).vm = .none := rfl
  have hcl0 : (vp_cell cA (n, .inl f)).cls = cA := rfl
  have hcellE : ({ cls := (vp_cell cA (n, .inl f)).cls, slots := (vp_cell cA (n, .inl f)).slots } : Cell) = vp_cell cA (n, .inl f) := rfl
  have hnm := va_nm_int (hK.2 t0 _ ht).2
  obtain ⟨c0, t1, f1, f2, f3⟩ := Cond.castable_spec (va_Nw.use (A := args) rfl hK8)
  cases hnm.symm.trans f1
  intro T hT X
  have hcellT : T.heap[a]? = some (vp_cell cA (n, .inl f)) := by rw [hT]; exact hat
  obtain ⟨-, kA, hkA, comp, hkind⟩ := State.isArrayOf_alike X.warmed.alike ((hK.2 t0 _ ht).1 0 (fun _ => .null))
  obtain ⟨-, kS, hkS, compS, hkindS⟩ := (hK.2 t0 _ ht).1 0 (fun _ => .null)
  obtain ⟨vm', X', st⟩ := X.cloneArray hexec hown hlink hsame hnat hinst hsel (a := a) (cell := vp_cell cA (n, .inl f)) hcellT (fun k h => by rw [hvm0] at h; cases h) (by rw [hvm0]; exact fun h => by cases h) (by rw [hcl0]; exact hnm) f2 (by rw [hcl0]; exact f3)
    (fun i v hv => by
      rw [hcl0]
      have hk' : T.vm.classes[cA]? = some kA := hkA
      have hf0 : fits .int v = true := va_fit (ty := .int) (fun _ _ => rfl) i v hv
      simpa [State.fitsSlot, State.slotType?, hk', hkind] using hf0)
    (g := F0 m pc ls (.ref a :: rest)) rfl (by rw [hml]) rfl (by rw [hb]; exact hdg) hframes (by show 2 * 0 + _ + 14 ≤ _; omega) hcells (by rw [hsz]; exact hslots) (hloader := by rw [hcl0]; exact Vm.clonesLoader_of_array hkS hkindS)
  rw [hcellE, hsz] at X'
  generalize hH1 : H.push (vp_cell cA (n, .inl f)) = H1
  have z1 : H1.size = H.size + 1 := by rw [← hH1, Array.size_push]
  have e1 : H1[H.size]? = some (vp_cell cA (n, .inl f)) := by rw [← hH1, Array.getElem?_push_size]
  have o1 : ∀ q : Nat, q < H.size → H1[q]? = H[q]? := fun q hq => by rw [← hH1, Array.getElem?_push, if_neg (Nat.ne_of_lt hq)]
  obtain ⟨t, b1, b2⟩ := kk H1 e1 z1 o1 ((T.setVm vm').pushCell (vp_cell cA (n, .inl f))) (by rw [← hH1, ← hT]; rfl) X'
  refine ⟨t, st t ?_, b2⟩
  rw [hcellE, hT]
  exact b1
theorem j7_castI {P : Nat → Int32 → Prop} {cA : ClassId} (hexec : p.tables.exec = Jvm.exec) (hb : c.code = cc) (hown : s.vm.findClass own = some m.cls) (hlink : (Cond.classLink own index "[I").before args s = true) (hK : va_K (dC, dI) vwCl tys s) (hh : jSt (dC, dI) B base G0 G E H0 zc zs L M I H locs) (hBk : ∀ n G a H, B k n G a H ↔ jAr (dC, dI) cA P n a H) (t0 : Nat) (ht : tys[t0]? = some (cA, .int)) (hk : k < 1000) (ha : G a = some (k, n)) (hdg : decode cc pc = .ok (.checkcast index, 3))
    (kk : W p l e R s m args below meth c H locs cells slots Q (F0 m (pc + 3) ls (.ref a :: rest))) : W p l e R s m args below meth c H locs cells slots Q (F0 m pc ls (.ref a :: rest)) := by
  obtain ⟨f, g1, -⟩ := hh.ar hBk hk ha
  exact va_castA hexec hb hown hlink (jp_one g1) 0 rfl (va_nm_int (hK.2 t0 _ ht).2) hdg kk
end J40
end
